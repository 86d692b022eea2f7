set_option maxRecDepth 100000 in
theorem zm_2 : Jvm.Cond.selects "ZipGuard$Directory" ({ cls := "ZipGuard$Directory", name := "findEnd", desc := "()I" } : Jvm.MethodName) ({ cls := "ZipGuard$Directory", name := "findEnd", desc := "()I" } : Jvm.MethodName) ∈ zt := zt_mp (List.mem_of_getElem? (i := 2) rfl)
set_option maxRecDepth 100000 in
theorem zm_3 : Jvm.Cond.selects "ZipGuard$Directory" ({ cls := "ZipGuard$Directory", name := "faultAt", desc := "(II)I" } : Jvm.MethodName) ({ cls := "ZipGuard$Directory", name := "faultAt", desc := "(II)I" } : Jvm.MethodName) ∈ zt := zt_mp (List.mem_of_getElem? (i := 3) rfl)
set_option maxRecDepth 100000 in
theorem zm_17 : Jvm.Cond.selects "ZipGuard" ({ cls := "ZipGuard", name := "openEntry", desc := "(I)LZipGuard$Entry;" } : Jvm.MethodName) ({ cls := "ZipGuard", name := "openEntry", desc := "(I)LZipGuard$Entry;" } : Jvm.MethodName) ∈ zt := zt_mp (List.mem_of_getElem? (i := 17) rfl)
set_option maxRecDepth 100000 in
theorem zm_65 : Jvm.Cond.initialized "ZipGuard" ∈ zt := zt_m1 (List.mem_of_getElem? (i := 1) rfl)
set_option maxRecDepth 100000 in
theorem zm_77 : Jvm.Cond.initialized "java/lang/IllegalArgumentException" ∈ zt := zt_m1 (List.mem_of_getElem? (i := 13) rfl)
set_option maxRecDepth 100000 in
theorem zm_78 : Jvm.Cond.initialized "java/lang/IndexOutOfBoundsException" ∈ zt := zt_m1 (List.mem_of_getElem? (i := 14) rfl)
set_option maxRecDepth 100000 in
theorem zm_80 : Jvm.Cond.initialized "java/lang/IllegalStateException" ∈ zt := zt_m1 (List.mem_of_getElem? (i := 16) rfl)
set_option maxRecDepth 100000 in
theorem zm_98 : Jvm.Cond.fieldLink "ZipGuard" (55 : Nat) "ZipGuard$Tape" "length" "I" ∈ zt := zt_m1 (List.mem_of_getElem? (i := 34) rfl)
set_option maxRecDepth 100000 in
theorem zm_99 : Jvm.Cond.fieldLink "ZipGuard$Directory" (37 : Nat) "ZipGuard$Tape" "length" "I" ∈ zt := zt_m1 (List.mem_of_getElem? (i := 35) rfl)
set_option maxRecDepth 100000 in
theorem zm_184 : Jvm.Cond.fieldLink "ZipGuard" (97 : Nat) "ZipGuard$Directory" "isOpen" "Z" ∈ zt := zt_m1 (List.mem_of_getElem? (i := 120) rfl)
set_option maxRecDepth 100000 in
theorem zm_186 : Jvm.Cond.fieldLink "ZipGuard" (79 : Nat) "ZipGuard$Directory" "faultPlace" "I" ∈ zt := zt_m1 (List.mem_of_getElem? (i := 122) rfl)
set_option maxRecDepth 100000 in
theorem zm_207 : Jvm.Cond.fieldLink "ZipGuard" (83 : Nat) "ZipGuard$Target" "budget" "I" ∈ zt := zt_m1 (List.mem_of_getElem? (i := 143) rfl)
set_option maxRecDepth 100000 in
theorem zm_209 : Jvm.Cond.fieldLink "ZipGuard" (86 : Nat) "ZipGuard$Target" "ratio" "I" ∈ zt := zt_m1 (List.mem_of_getElem? (i := 145) rfl)
set_option maxRecDepth 100000 in
theorem zm_211 : Jvm.Cond.fieldLink "ZipGuard" (143 : Nat) "ZipGuard$Target" "total" "I" ∈ zt := zt_m1 (List.mem_of_getElem? (i := 147) rfl)
set_option maxRecDepth 100000 in
theorem zm_412 : Jvm.Cond.methodLink "ZipGuard" (72 : Nat) ({ cls := "ZipGuard$Target", name := "clear", desc := "()V" } : Jvm.MethodName) ∈ zt := zt_m3 (List.mem_of_getElem? (i := 84) rfl)
set_option maxRecDepth 100000 in
theorem zm_413 : Jvm.Cond.instanceMethod ({ cls := "ZipGuard$Target", name := "clear", desc := "()V" } : Jvm.MethodName) ∈ zt := zt_m3 (List.mem_of_getElem? (i := 85) rfl)
set_option maxRecDepth 100000 in
theorem zm_414 : Jvm.Cond.selects "ZipGuard$Target" ({ cls := "ZipGuard$Target", name := "clear", desc := "()V" } : Jvm.MethodName) ({ cls := "ZipGuard$Target", name := "clear", desc := "()V" } : Jvm.MethodName) ∈ zt := zt_m3 (List.mem_of_getElem? (i := 86) rfl)
set_option maxRecDepth 100000 in
theorem zm_415 : Jvm.Cond.code ({ cls := "ZipGuard$Target", name := "clear", desc := "()V" } : Jvm.MethodName) prog_7_method_2_code (1 : Nat) (Option.none : Option Jvm.ClassFile.FieldType) ∈ zt := zt_m3 (List.mem_of_getElem? (i := 87) rfl)
set_option maxRecDepth 100000 in
theorem zm_416 : Jvm.Cond.methodLink "ZipGuard" (75 : Nat) ({ cls := "ZipGuard$Directory", name := "read", desc := "()I" } : Jvm.MethodName) ∈ zt := zt_m3 (List.mem_of_getElem? (i := 88) rfl)
set_option maxRecDepth 100000 in
theorem zm_417 : Jvm.Cond.instanceMethod ({ cls := "ZipGuard$Directory", name := "read", desc := "()I" } : Jvm.MethodName) ∈ zt := zt_m3 (List.mem_of_getElem? (i := 89) rfl)
set_option maxRecDepth 100000 in
theorem zm_418 : Jvm.Cond.selects "ZipGuard$Directory" ({ cls := "ZipGuard$Directory", name := "read", desc := "()I" } : Jvm.MethodName) ({ cls := "ZipGuard$Directory", name := "read", desc := "()I" } : Jvm.MethodName) ∈ zt := zt_m3 (List.mem_of_getElem? (i := 90) rfl)
set_option maxRecDepth 100000 in
theorem zm_419 : Jvm.Cond.code ({ cls := "ZipGuard$Directory", name := "read", desc := "()I" } : Jvm.MethodName) prog_4_method_3_code (3 : Nat) (Option.some Jvm.ClassFile.FieldType.int) ∈ zt := zt_m3 (List.mem_of_getElem? (i := 91) rfl)
set_option maxRecDepth 100000 in
theorem zm_420 : Jvm.Cond.methodLink "ZipGuard$Directory" (33 : Nat) ({ cls := "ZipGuard$Directory", name := "findEnd", desc := "()I" } : Jvm.MethodName) ∈ zt := zt_m3 (List.mem_of_getElem? (i := 92) rfl)
set_option maxRecDepth 100000 in
theorem zm_421 : Jvm.Cond.instanceMethod ({ cls := "ZipGuard$Directory", name := "findEnd", desc := "()I" } : Jvm.MethodName) ∈ zt := zt_m3 (List.mem_of_getElem? (i := 93) rfl)
set_option maxRecDepth 100000 in
theorem zm_422 : Jvm.Cond.code ({ cls := "ZipGuard$Directory", name := "findEnd", desc := "()I" } : Jvm.MethodName) prog_4_method_5_code (2 : Nat) (Option.some Jvm.ClassFile.FieldType.int) ∈ zt := zt_m3 (List.mem_of_getElem? (i := 94) rfl)
set_option maxRecDepth 100000 in
theorem zm_435 : Jvm.Cond.methodLink "ZipGuard$Directory" (42 : Nat) ({ cls := "ZipGuard$Directory", name := "faultAt", desc := "(II)I" } : Jvm.MethodName) ∈ zt := zt_m3 (List.mem_of_getElem? (i := 107) rfl)
set_option maxRecDepth 100000 in
theorem zm_436 : Jvm.Cond.instanceMethod ({ cls := "ZipGuard$Directory", name := "faultAt", desc := "(II)I" } : Jvm.MethodName) ∈ zt := zt_m3 (List.mem_of_getElem? (i := 108) rfl)
set_option maxRecDepth 100000 in
theorem zm_437 : Jvm.Cond.code ({ cls := "ZipGuard$Directory", name := "faultAt", desc := "(II)I" } : Jvm.MethodName) prog_4_method_4_code (3 : Nat) (Option.some Jvm.ClassFile.FieldType.int) ∈ zt := zt_m3 (List.mem_of_getElem? (i := 109) rfl)
set_option maxRecDepth 100000 in
theorem zm_520 : Jvm.Cond.methodLink "ZipGuard" (41 : Nat) ({ cls := "ZipGuard$Tape", name := "hasRoomFor", desc := "(I)Z" } : Jvm.MethodName) ∈ zt := zt_m4 (List.mem_of_getElem? (i := 9) rfl)
set_option maxRecDepth 100000 in
theorem zm_521 : Jvm.Cond.instanceMethod ({ cls := "ZipGuard$Tape", name := "hasRoomFor", desc := "(I)Z" } : Jvm.MethodName) ∈ zt := zt_m4 (List.mem_of_getElem? (i := 10) rfl)
set_option maxRecDepth 100000 in
theorem zm_522 : Jvm.Cond.selects "ZipGuard$Tape" ({ cls := "ZipGuard$Tape", name := "hasRoomFor", desc := "(I)Z" } : Jvm.MethodName) ({ cls := "ZipGuard$Tape", name := "hasRoomFor", desc := "(I)Z" } : Jvm.MethodName) ∈ zt := zt_m4 (List.mem_of_getElem? (i := 11) rfl)
set_option maxRecDepth 100000 in
theorem zm_523 : Jvm.Cond.code ({ cls := "ZipGuard$Tape", name := "hasRoomFor", desc := "(I)Z" } : Jvm.MethodName) prog_6_method_2_code (2 : Nat) (Option.some Jvm.ClassFile.FieldType.boolean) ∈ zt := zt_m4 (List.mem_of_getElem? (i := 12) rfl)
set_option maxRecDepth 100000 in
theorem zm_524 : Jvm.Cond.classLink "ZipGuard" (45 : Nat) "java/lang/IllegalStateException" ∈ zt := zt_m4 (List.mem_of_getElem? (i := 13) rfl)
set_option maxRecDepth 100000 in
theorem zm_544 : Jvm.Cond.methodLink "ZipGuard" (48 : Nat) ({ cls := "ZipGuard$Directory", name := "shut", desc := "()V" } : Jvm.MethodName) ∈ zt := zt_m4 (List.mem_of_getElem? (i := 33) rfl)
set_option maxRecDepth 100000 in
theorem zm_545 : Jvm.Cond.instanceMethod ({ cls := "ZipGuard$Directory", name := "shut", desc := "()V" } : Jvm.MethodName) ∈ zt := zt_m4 (List.mem_of_getElem? (i := 34) rfl)
set_option maxRecDepth 100000 in
theorem zm_546 : Jvm.Cond.selects "ZipGuard$Directory" ({ cls := "ZipGuard$Directory", name := "shut", desc := "()V" } : Jvm.MethodName) ({ cls := "ZipGuard$Directory", name := "shut", desc := "()V" } : Jvm.MethodName) ∈ zt := zt_m4 (List.mem_of_getElem? (i := 35) rfl)
set_option maxRecDepth 100000 in
theorem zm_547 : Jvm.Cond.code ({ cls := "ZipGuard$Directory", name := "shut", desc := "()V" } : Jvm.MethodName) prog_4_method_2_code (1 : Nat) (Option.none : Option Jvm.ClassFile.FieldType) ∈ zt := zt_m4 (List.mem_of_getElem? (i := 36) rfl)
set_option maxRecDepth 100000 in
theorem zm_548 : Jvm.Cond.methodLink "ZipGuard" (51 : Nat) ({ cls := "ZipGuard$Tape", name := "append", desc := "(I)V" } : Jvm.MethodName) ∈ zt := zt_m4 (List.mem_of_getElem? (i := 37) rfl)
set_option maxRecDepth 100000 in
theorem zm_549 : Jvm.Cond.instanceMethod ({ cls := "ZipGuard$Tape", name := "append", desc := "(I)V" } : Jvm.MethodName) ∈ zt := zt_m4 (List.mem_of_getElem? (i := 38) rfl)
set_option maxRecDepth 100000 in
theorem zm_550 : Jvm.Cond.selects "ZipGuard$Tape" ({ cls := "ZipGuard$Tape", name := "append", desc := "(I)V" } : Jvm.MethodName) ({ cls := "ZipGuard$Tape", name := "append", desc := "(I)V" } : Jvm.MethodName) ∈ zt := zt_m4 (List.mem_of_getElem? (i := 39) rfl)
set_option maxRecDepth 100000 in
theorem zm_551 : Jvm.Cond.code ({ cls := "ZipGuard$Tape", name := "append", desc := "(I)V" } : Jvm.MethodName) prog_6_method_3_code (3 : Nat) (Option.none : Option Jvm.ClassFile.FieldType) ∈ zt := zt_m4 (List.mem_of_getElem? (i := 40) rfl)
set_option maxRecDepth 100000 in
theorem zm_552 : Jvm.Cond.methodLink "ZipGuard$Tape" (17 : Nat) ({ cls := "ZipGuard$Tape", name := "hasRoomFor", desc := "(I)Z" } : Jvm.MethodName) ∈ zt := zt_m4 (List.mem_of_getElem? (i := 41) rfl)
set_option maxRecDepth 100000 in
theorem zm_561 : Jvm.Cond.classLink "ZipGuard" (59 : Nat) "java/lang/IllegalArgumentException" ∈ zt := zt_m4 (List.mem_of_getElem? (i := 50) rfl)
set_option maxRecDepth 100000 in
theorem zm_566 : Jvm.Cond.methodLink "ZipGuard" (62 : Nat) ({ cls := "ZipGuard$Tape", name := "keepFirst", desc := "(I)V" } : Jvm.MethodName) ∈ zt := zt_m4 (List.mem_of_getElem? (i := 55) rfl)
set_option maxRecDepth 100000 in
theorem zm_567 : Jvm.Cond.instanceMethod ({ cls := "ZipGuard$Tape", name := "keepFirst", desc := "(I)V" } : Jvm.MethodName) ∈ zt := zt_m4 (List.mem_of_getElem? (i := 56) rfl)
set_option maxRecDepth 100000 in
theorem zm_568 : Jvm.Cond.selects "ZipGuard$Tape" ({ cls := "ZipGuard$Tape", name := "keepFirst", desc := "(I)V" } : Jvm.MethodName) ({ cls := "ZipGuard$Tape", name := "keepFirst", desc := "(I)V" } : Jvm.MethodName) ∈ zt := zt_m4 (List.mem_of_getElem? (i := 57) rfl)
set_option maxRecDepth 100000 in
theorem zm_569 : Jvm.Cond.code ({ cls := "ZipGuard$Tape", name := "keepFirst", desc := "(I)V" } : Jvm.MethodName) prog_6_method_4_code (2 : Nat) (Option.none : Option Jvm.ClassFile.FieldType) ∈ zt := zt_m4 (List.mem_of_getElem? (i := 58) rfl)
set_option maxRecDepth 100000 in
theorem zm_578 : Jvm.Cond.classLink "ZipGuard" (65 : Nat) "java/lang/IndexOutOfBoundsException" ∈ zt := zt_m4 (List.mem_of_getElem? (i := 67) rfl)
set_option maxRecDepth 100000 in
theorem zm_603 : Jvm.Cond.constant "ZipGuard" (82 : Nat) (40000 : Int32) ∈ zt := zt_m4 (List.mem_of_getElem? (i := 92) rfl)
set_option maxRecDepth 100000 in
theorem zm_611 : Jvm.Cond.methodLink "ZipGuard" (89 : Nat) ({ cls := "ZipGuard", name := "openEntry", desc := "(I)LZipGuard$Entry;" } : Jvm.MethodName) ∈ zt := zt_m4 (List.mem_of_getElem? (i := 100) rfl)
set_option maxRecDepth 100000 in
theorem zm_612 : Jvm.Cond.instanceMethod ({ cls := "ZipGuard", name := "openEntry", desc := "(I)LZipGuard$Entry;" } : Jvm.MethodName) ∈ zt := zt_m4 (List.mem_of_getElem? (i := 101) rfl)
set_option maxRecDepth 100000 in
theorem zm_613 : Jvm.Cond.code ({ cls := "ZipGuard", name := "openEntry", desc := "(I)LZipGuard$Entry;" } : Jvm.MethodName) prog_1_method_14_code (2 : Nat) (Option.some (Jvm.ClassFile.FieldType.object "ZipGuard$Entry")) ∈ zt := zt_m4 (List.mem_of_getElem? (i := 102) rfl)
theorem d_A_clear_0 : decode prog_7_method_2_code 0 = .ok (.aload_n 0, 1) := by decide +kernel
theorem d_A_clear_1 : decode prog_7_method_2_code 1 = .ok (.iconst 0, 1) := by decide +kernel
theorem d_A_clear_2 : decode prog_7_method_2_code 2 = .ok (.putfield 23, 3) := by decide +kernel
theorem d_A_clear_5 : decode prog_7_method_2_code 5 = .ok (.return_, 1) := by decide +kernel
theorem d_D_faultAt_0 : decode prog_4_method_4_code 0 = .ok (.aload_n 0, 1) := by decide +kernel
theorem d_D_faultAt_1 : decode prog_4_method_4_code 1 = .ok (.iload_n 2, 1) := by decide +kernel
theorem d_D_faultAt_2 : decode prog_4_method_4_code 2 = .ok (.putfield 30, 3) := by decide +kernel
theorem d_D_faultAt_5 : decode prog_4_method_4_code 5 = .ok (.iload_n 1, 1) := by decide +kernel
theorem d_D_faultAt_6 : decode prog_4_method_4_code 6 = .ok (.ireturn, 1) := by decide +kernel
theorem d_D_findEnd_0 : decode prog_4_method_5_code 0 = .ok (.aload_n 0, 1) := by decide +kernel
theorem d_D_findEnd_1 : decode prog_4_method_5_code 1 = .ok (.getfield 9, 3) := by decide +kernel
theorem d_D_findEnd_4 : decode prog_4_method_5_code 4 = .ok (.getfield 37, 3) := by decide +kernel
theorem d_D_findEnd_7 : decode prog_4_method_5_code 7 = .ok (.bipush 22, 2) := by decide +kernel
theorem d_D_findEnd_9 : decode prog_4_method_5_code 9 = .ok (.isub, 1) := by decide +kernel
theorem d_D_findEnd_10 : decode prog_4_method_5_code 10 = .ok (.istore_n 1, 1) := by decide +kernel
theorem d_D_findEnd_11 : decode prog_4_method_5_code 11 = .ok (.iload_n 1, 1) := by decide +kernel
theorem d_D_findEnd_12 : decode prog_4_method_5_code 12 = .ok (.ifCond .lt 51, 3) := by decide +kernel
theorem d_D_findEnd_63 : decode prog_4_method_5_code 63 = .ok (.iconst (-1), 1) := by decide +kernel
theorem d_D_findEnd_64 : decode prog_4_method_5_code 64 = .ok (.ireturn, 1) := by decide +kernel
theorem d_D_read_0 : decode prog_4_method_3_code 0 = .ok (.aload_n 0, 1) := by decide +kernel
theorem d_D_read_1 : decode prog_4_method_3_code 1 = .ok (.iconst 0, 1) := by decide +kernel
theorem d_D_read_2 : decode prog_4_method_3_code 2 = .ok (.putfield 26, 3) := by decide +kernel
theorem d_D_read_5 : decode prog_4_method_3_code 5 = .ok (.aload_n 0, 1) := by decide +kernel
theorem d_D_read_6 : decode prog_4_method_3_code 6 = .ok (.iconst (-1), 1) := by decide +kernel
theorem d_D_read_7 : decode prog_4_method_3_code 7 = .ok (.putfield 30, 3) := by decide +kernel
theorem d_D_read_10 : decode prog_4_method_3_code 10 = .ok (.aload_n 0, 1) := by decide +kernel
theorem d_D_read_11 : decode prog_4_method_3_code 11 = .ok (.invokevirtual 33, 3) := by decide +kernel
theorem d_D_read_14 : decode prog_4_method_3_code 14 = .ok (.istore_n 1, 1) := by decide +kernel
theorem d_D_read_15 : decode prog_4_method_3_code 15 = .ok (.iload_n 1, 1) := by decide +kernel
theorem d_D_read_16 : decode prog_4_method_3_code 16 = .ok (.ifCond .ge 18, 3) := by decide +kernel
theorem d_D_read_19 : decode prog_4_method_3_code 19 = .ok (.aload_n 0, 1) := by decide +kernel
theorem d_D_read_20 : decode prog_4_method_3_code 20 = .ok (.iconst (-1), 1) := by decide +kernel
theorem d_D_read_21 : decode prog_4_method_3_code 21 = .ok (.aload_n 0, 1) := by decide +kernel
theorem d_D_read_22 : decode prog_4_method_3_code 22 = .ok (.getfield 9, 3) := by decide +kernel
theorem d_D_read_25 : decode prog_4_method_3_code 25 = .ok (.getfield 37, 3) := by decide +kernel
theorem d_D_read_28 : decode prog_4_method_3_code 28 = .ok (.invokevirtual 42, 3) := by decide +kernel
theorem d_D_read_31 : decode prog_4_method_3_code 31 = .ok (.goto 8, 3) := by decide +kernel
theorem d_D_read_39 : decode prog_4_method_3_code 39 = .ok (.istore_n 2, 1) := by decide +kernel
theorem d_D_read_40 : decode prog_4_method_3_code 40 = .ok (.iload_n 2, 1) := by decide +kernel
theorem d_D_read_41 : decode prog_4_method_3_code 41 = .ok (.ifCond .ge 5, 3) := by decide +kernel
theorem d_D_read_44 : decode prog_4_method_3_code 44 = .ok (.iload_n 2, 1) := by decide +kernel
theorem d_D_read_45 : decode prog_4_method_3_code 45 = .ok (.ireturn, 1) := by decide +kernel
theorem d_D_shut_0 : decode prog_4_method_2_code 0 = .ok (.aload_n 0, 1) := by decide +kernel
theorem d_D_shut_1 : decode prog_4_method_2_code 1 = .ok (.iconst 0, 1) := by decide +kernel
theorem d_D_shut_2 : decode prog_4_method_2_code 2 = .ok (.putfield 26, 3) := by decide +kernel
theorem d_D_shut_5 : decode prog_4_method_2_code 5 = .ok (.return_, 1) := by decide +kernel
theorem d_G_about_0 : decode prog_1_method_13_code 0 = .ok (.iload_n 1, 1) := by decide +kernel
theorem d_G_about_1 : decode prog_1_method_13_code 1 = .ok (.tableswitch 89 0 4 #[35, 43, 65, 73, 81], 35) := by decide +kernel
theorem d_G_about_36 : decode prog_1_method_13_code 36 = .ok (.aload_n 0, 1) := by decide +kernel
theorem d_G_about_37 : decode prog_1_method_13_code 37 = .ok (.getfield 10, 3) := by decide +kernel
theorem d_G_about_40 : decode prog_1_method_13_code 40 = .ok (.getfield 55, 3) := by decide +kernel
theorem d_G_about_43 : decode prog_1_method_13_code 43 = .ok (.ireturn, 1) := by decide +kernel
theorem d_G_about_44 : decode prog_1_method_13_code 44 = .ok (.aload_n 0, 1) := by decide +kernel
theorem d_G_about_45 : decode prog_1_method_13_code 45 = .ok (.getfield 21, 3) := by decide +kernel
theorem d_G_about_48 : decode prog_1_method_13_code 48 = .ok (.getfield 97, 3) := by decide +kernel
theorem d_G_about_51 : decode prog_1_method_13_code 51 = .ok (.ifCond .eq 13, 3) := by decide +kernel
theorem d_G_about_64 : decode prog_1_method_13_code 64 = .ok (.iconst 0, 1) := by decide +kernel
theorem d_G_about_65 : decode prog_1_method_13_code 65 = .ok (.ireturn, 1) := by decide +kernel
theorem d_G_about_66 : decode prog_1_method_13_code 66 = .ok (.aload_n 0, 1) := by decide +kernel
theorem d_G_about_67 : decode prog_1_method_13_code 67 = .ok (.getfield 28, 3) := by decide +kernel
theorem d_G_about_70 : decode prog_1_method_13_code 70 = .ok (.getfield 143, 3) := by decide +kernel
theorem d_G_about_73 : decode prog_1_method_13_code 73 = .ok (.ireturn, 1) := by decide +kernel
theorem d_G_about_74 : decode prog_1_method_13_code 74 = .ok (.aload_n 0, 1) := by decide +kernel
theorem d_G_about_75 : decode prog_1_method_13_code 75 = .ok (.getfield 28, 3) := by decide +kernel
theorem d_G_about_78 : decode prog_1_method_13_code 78 = .ok (.getfield 83, 3) := by decide +kernel
theorem d_G_about_81 : decode prog_1_method_13_code 81 = .ok (.ireturn, 1) := by decide +kernel
theorem d_G_about_82 : decode prog_1_method_13_code 82 = .ok (.aload_n 0, 1) := by decide +kernel
theorem d_G_about_83 : decode prog_1_method_13_code 83 = .ok (.getfield 28, 3) := by decide +kernel
theorem d_G_about_86 : decode prog_1_method_13_code 86 = .ok (.getfield 86, 3) := by decide +kernel
theorem d_G_about_89 : decode prog_1_method_13_code 89 = .ok (.ireturn, 1) := by decide +kernel
theorem d_G_about_90 : decode prog_1_method_13_code 90 = .ok (.new 59, 3) := by decide +kernel
theorem d_G_about_93 : decode prog_1_method_13_code 93 = .ok (.dup, 1) := by decide +kernel
theorem d_G_about_94 : decode prog_1_method_13_code 94 = .ok (.invokespecial 61, 3) := by decide +kernel
theorem d_G_about_97 : decode prog_1_method_13_code 97 = .ok (.athrow, 1) := by decide +kernel
theorem d_G_alter_0 : decode prog_1_method_4_code 0 = .ok (.iload_n 1, 1) := by decide +kernel
theorem d_G_alter_1 : decode prog_1_method_4_code 1 = .ok (.ifCond .lt 14, 3) := by decide +kernel
theorem d_G_alter_4 : decode prog_1_method_4_code 4 = .ok (.iload_n 1, 1) := by decide +kernel
theorem d_G_alter_5 : decode prog_1_method_4_code 5 = .ok (.aload_n 0, 1) := by decide +kernel
theorem d_G_alter_6 : decode prog_1_method_4_code 6 = .ok (.getfield 10, 3) := by decide +kernel
theorem d_G_alter_9 : decode prog_1_method_4_code 9 = .ok (.getfield 55, 3) := by decide +kernel
theorem d_G_alter_12 : decode prog_1_method_4_code 12 = .ok (.if_icmp .lt 11, 3) := by decide +kernel
theorem d_G_alter_15 : decode prog_1_method_4_code 15 = .ok (.new 65, 3) := by decide +kernel
theorem d_G_alter_18 : decode prog_1_method_4_code 18 = .ok (.dup, 1) := by decide +kernel
theorem d_G_alter_19 : decode prog_1_method_4_code 19 = .ok (.invokespecial 67, 3) := by decide +kernel
theorem d_G_alter_22 : decode prog_1_method_4_code 22 = .ok (.athrow, 1) := by decide +kernel
theorem d_G_end_0 : decode prog_1_method_3_code 0 = .ok (.iload_n 1, 1) := by decide +kernel
theorem d_G_end_1 : decode prog_1_method_3_code 1 = .ok (.ifCond .lt 14, 3) := by decide +kernel
theorem d_G_end_4 : decode prog_1_method_3_code 4 = .ok (.iload_n 1, 1) := by decide +kernel
theorem d_G_end_5 : decode prog_1_method_3_code 5 = .ok (.aload_n 0, 1) := by decide +kernel
theorem d_G_end_6 : decode prog_1_method_3_code 6 = .ok (.getfield 10, 3) := by decide +kernel
theorem d_G_end_9 : decode prog_1_method_3_code 9 = .ok (.getfield 55, 3) := by decide +kernel
theorem d_G_end_12 : decode prog_1_method_3_code 12 = .ok (.if_icmp .le 11, 3) := by decide +kernel
theorem d_G_end_15 : decode prog_1_method_3_code 15 = .ok (.new 59, 3) := by decide +kernel
theorem d_G_end_18 : decode prog_1_method_3_code 18 = .ok (.dup, 1) := by decide +kernel
theorem d_G_end_19 : decode prog_1_method_3_code 19 = .ok (.invokespecial 61, 3) := by decide +kernel
theorem d_G_end_22 : decode prog_1_method_3_code 22 = .ok (.athrow, 1) := by decide +kernel
theorem d_G_end_23 : decode prog_1_method_3_code 23 = .ok (.aload_n 0, 1) := by decide +kernel
theorem d_G_end_24 : decode prog_1_method_3_code 24 = .ok (.getfield 21, 3) := by decide +kernel
theorem d_G_end_27 : decode prog_1_method_3_code 27 = .ok (.invokevirtual 48, 3) := by decide +kernel
theorem d_G_end_30 : decode prog_1_method_3_code 30 = .ok (.aload_n 0, 1) := by decide +kernel
theorem d_G_end_31 : decode prog_1_method_3_code 31 = .ok (.getfield 10, 3) := by decide +kernel
theorem d_G_end_34 : decode prog_1_method_3_code 34 = .ok (.iload_n 1, 1) := by decide +kernel
theorem d_G_end_35 : decode prog_1_method_3_code 35 = .ok (.invokevirtual 62, 3) := by decide +kernel
theorem d_G_end_38 : decode prog_1_method_3_code 38 = .ok (.return_, 1) := by decide +kernel
theorem d_G_entry_0 : decode prog_1_method_10_code 0 = .ok (.aload_n 0, 1) := by decide +kernel
theorem d_G_entry_1 : decode prog_1_method_10_code 1 = .ok (.iload_n 1, 1) := by decide +kernel
theorem d_G_entry_2 : decode prog_1_method_10_code 2 = .ok (.invokevirtual 89, 3) := by decide +kernel
theorem d_G_feed_0 : decode prog_1_method_2_code 0 = .ok (.aload_n 0, 1) := by decide +kernel
theorem d_G_feed_1 : decode prog_1_method_2_code 1 = .ok (.getfield 10, 3) := by decide +kernel
theorem d_G_feed_4 : decode prog_1_method_2_code 4 = .ok (.bipush 20, 2) := by decide +kernel
theorem d_G_feed_6 : decode prog_1_method_2_code 6 = .ok (.invokevirtual 41, 3) := by decide +kernel
theorem d_G_feed_9 : decode prog_1_method_2_code 9 = .ok (.ifCond .ne 11, 3) := by decide +kernel
theorem d_G_feed_20 : decode prog_1_method_2_code 20 = .ok (.aload_n 0, 1) := by decide +kernel
theorem d_G_feed_21 : decode prog_1_method_2_code 21 = .ok (.getfield 21, 3) := by decide +kernel
theorem d_G_feed_24 : decode prog_1_method_2_code 24 = .ok (.invokevirtual 48, 3) := by decide +kernel
theorem d_G_feed_27 : decode prog_1_method_2_code 27 = .ok (.aload_n 0, 1) := by decide +kernel
theorem d_G_feed_28 : decode prog_1_method_2_code 28 = .ok (.getfield 10, 3) := by decide +kernel
theorem d_G_feed_31 : decode prog_1_method_2_code 31 = .ok (.iload_n 1, 1) := by decide +kernel
theorem d_G_feed_32 : decode prog_1_method_2_code 32 = .ok (.invokevirtual 51, 3) := by decide +kernel
theorem d_G_feed_35 : decode prog_1_method_2_code 35 = .ok (.aload_n 0, 1) := by decide +kernel
theorem d_G_feed_36 : decode prog_1_method_2_code 36 = .ok (.getfield 10, 3) := by decide +kernel
theorem d_G_feed_39 : decode prog_1_method_2_code 39 = .ok (.iload_n 2, 1) := by decide +kernel
theorem d_G_feed_40 : decode prog_1_method_2_code 40 = .ok (.invokevirtual 51, 3) := by decide +kernel
theorem d_G_feed_43 : decode prog_1_method_2_code 43 = .ok (.aload_n 0, 1) := by decide +kernel
theorem d_G_feed_44 : decode prog_1_method_2_code 44 = .ok (.getfield 10, 3) := by decide +kernel
theorem d_G_feed_47 : decode prog_1_method_2_code 47 = .ok (.iload_n 3, 1) := by decide +kernel
theorem d_G_feed_48 : decode prog_1_method_2_code 48 = .ok (.invokevirtual 51, 3) := by decide +kernel
theorem d_G_feed_51 : decode prog_1_method_2_code 51 = .ok (.aload_n 0, 1) := by decide +kernel
theorem d_G_feed_52 : decode prog_1_method_2_code 52 = .ok (.getfield 10, 3) := by decide +kernel
theorem d_G_feed_55 : decode prog_1_method_2_code 55 = .ok (.iload 4, 2) := by decide +kernel
theorem d_G_feed_57 : decode prog_1_method_2_code 57 = .ok (.invokevirtual 51, 3) := by decide +kernel
theorem d_G_feed_60 : decode prog_1_method_2_code 60 = .ok (.aload_n 0, 1) := by decide +kernel
theorem d_G_feed_61 : decode prog_1_method_2_code 61 = .ok (.getfield 10, 3) := by decide +kernel
theorem d_G_feed_64 : decode prog_1_method_2_code 64 = .ok (.iload 5, 2) := by decide +kernel
theorem d_G_feed_66 : decode prog_1_method_2_code 66 = .ok (.invokevirtual 51, 3) := by decide +kernel
theorem d_G_feed_69 : decode prog_1_method_2_code 69 = .ok (.aload_n 0, 1) := by decide +kernel
theorem d_G_feed_70 : decode prog_1_method_2_code 70 = .ok (.getfield 10, 3) := by decide +kernel
theorem d_G_feed_73 : decode prog_1_method_2_code 73 = .ok (.getfield 55, 3) := by decide +kernel
theorem d_G_feed_76 : decode prog_1_method_2_code 76 = .ok (.ireturn, 1) := by decide +kernel
theorem d_G_limits_0 : decode prog_1_method_7_code 0 = .ok (.iload_n 1, 1) := by decide +kernel
theorem d_G_limits_1 : decode prog_1_method_7_code 1 = .ok (.ifCond .lt 20, 3) := by decide +kernel
theorem d_G_limits_4 : decode prog_1_method_7_code 4 = .ok (.iload_n 1, 1) := by decide +kernel
theorem d_G_limits_5 : decode prog_1_method_7_code 5 = .ok (.ldc 82, 2) := by decide +kernel
theorem d_G_limits_7 : decode prog_1_method_7_code 7 = .ok (.if_icmp .gt 14, 3) := by decide +kernel
theorem d_G_limits_10 : decode prog_1_method_7_code 10 = .ok (.iload_n 2, 1) := by decide +kernel
theorem d_G_limits_11 : decode prog_1_method_7_code 11 = .ok (.ifCond .lt 10, 3) := by decide +kernel
theorem d_G_limits_14 : decode prog_1_method_7_code 14 = .ok (.iload_n 2, 1) := by decide +kernel
theorem d_G_limits_15 : decode prog_1_method_7_code 15 = .ok (.sipush 2000, 3) := by decide +kernel
theorem d_G_limits_18 : decode prog_1_method_7_code 18 = .ok (.if_icmp .le 11, 3) := by decide +kernel
theorem d_G_limits_21 : decode prog_1_method_7_code 21 = .ok (.new 59, 3) := by decide +kernel
theorem d_G_limits_24 : decode prog_1_method_7_code 24 = .ok (.dup, 1) := by decide +kernel
theorem d_G_limits_25 : decode prog_1_method_7_code 25 = .ok (.invokespecial 61, 3) := by decide +kernel
theorem d_G_limits_28 : decode prog_1_method_7_code 28 = .ok (.athrow, 1) := by decide +kernel
theorem d_G_limits_29 : decode prog_1_method_7_code 29 = .ok (.aload_n 0, 1) := by decide +kernel
theorem d_G_limits_30 : decode prog_1_method_7_code 30 = .ok (.getfield 28, 3) := by decide +kernel
theorem d_G_limits_33 : decode prog_1_method_7_code 33 = .ok (.iload_n 1, 1) := by decide +kernel
theorem d_G_limits_34 : decode prog_1_method_7_code 34 = .ok (.putfield 83, 3) := by decide +kernel
theorem d_G_limits_37 : decode prog_1_method_7_code 37 = .ok (.aload_n 0, 1) := by decide +kernel
theorem d_G_limits_38 : decode prog_1_method_7_code 38 = .ok (.getfield 28, 3) := by decide +kernel
theorem d_G_limits_41 : decode prog_1_method_7_code 41 = .ok (.iload_n 2, 1) := by decide +kernel
theorem d_G_limits_42 : decode prog_1_method_7_code 42 = .ok (.putfield 86, 3) := by decide +kernel
theorem d_G_limits_45 : decode prog_1_method_7_code 45 = .ok (.return_, 1) := by decide +kernel
theorem d_G_name_0 : decode prog_1_method_11_code 0 = .ok (.aload_n 0, 1) := by decide +kernel
theorem d_G_name_1 : decode prog_1_method_11_code 1 = .ok (.iload_n 1, 1) := by decide +kernel
theorem d_G_name_2 : decode prog_1_method_11_code 2 = .ok (.invokevirtual 89, 3) := by decide +kernel
theorem d_G_open_0 : decode prog_1_method_5_code 0 = .ok (.aload_n 0, 1) := by decide +kernel
theorem d_G_open_1 : decode prog_1_method_5_code 1 = .ok (.getfield 28, 3) := by decide +kernel
theorem d_G_open_4 : decode prog_1_method_5_code 4 = .ok (.invokevirtual 72, 3) := by decide +kernel
theorem d_G_open_7 : decode prog_1_method_5_code 7 = .ok (.aload_n 0, 1) := by decide +kernel
theorem d_G_open_8 : decode prog_1_method_5_code 8 = .ok (.getfield 21, 3) := by decide +kernel
theorem d_G_open_11 : decode prog_1_method_5_code 11 = .ok (.invokevirtual 75, 3) := by decide +kernel
theorem d_G_open_14 : decode prog_1_method_5_code 14 = .ok (.ireturn, 1) := by decide +kernel
theorem d_G_openEntry_0 : decode prog_1_method_14_code 0 = .ok (.aload_n 0, 1) := by decide +kernel
theorem d_G_openEntry_1 : decode prog_1_method_14_code 1 = .ok (.getfield 21, 3) := by decide +kernel
theorem d_G_openEntry_4 : decode prog_1_method_14_code 4 = .ok (.getfield 97, 3) := by decide +kernel
theorem d_G_openEntry_7 : decode prog_1_method_14_code 7 = .ok (.ifCond .ne 11, 3) := by decide +kernel
theorem d_G_openEntry_10 : decode prog_1_method_14_code 10 = .ok (.new 45, 3) := by decide +kernel
theorem d_G_openEntry_13 : decode prog_1_method_14_code 13 = .ok (.dup, 1) := by decide +kernel
theorem d_G_openEntry_14 : decode prog_1_method_14_code 14 = .ok (.invokespecial 47, 3) := by decide +kernel
theorem d_G_openEntry_17 : decode prog_1_method_14_code 17 = .ok (.athrow, 1) := by decide +kernel
theorem d_G_place_0 : decode prog_1_method_6_code 0 = .ok (.aload_n 0, 1) := by decide +kernel
theorem d_G_place_1 : decode prog_1_method_6_code 1 = .ok (.getfield 21, 3) := by decide +kernel
theorem d_G_place_4 : decode prog_1_method_6_code 4 = .ok (.getfield 79, 3) := by decide +kernel
theorem d_G_place_7 : decode prog_1_method_6_code 7 = .ok (.ireturn, 1) := by decide +kernel
theorem d_G_take_0 : decode prog_1_method_8_code 0 = .ok (.aload_n 0, 1) := by decide +kernel
theorem d_G_take_1 : decode prog_1_method_8_code 1 = .ok (.getfield 37, 3) := by decide +kernel
theorem d_G_take_4 : decode prog_1_method_8_code 4 = .ok (.aload_n 0, 1) := by decide +kernel
theorem d_G_take_5 : decode prog_1_method_8_code 5 = .ok (.iload_n 1, 1) := by decide +kernel
theorem d_G_take_6 : decode prog_1_method_8_code 6 = .ok (.invokevirtual 89, 3) := by decide +kernel
theorem d_G_takeAll_0 : decode prog_1_method_9_code 0 = .ok (.aload_n 0, 1) := by decide +kernel
theorem d_G_takeAll_1 : decode prog_1_method_9_code 1 = .ok (.getfield 21, 3) := by decide +kernel
theorem d_G_takeAll_4 : decode prog_1_method_9_code 4 = .ok (.getfield 97, 3) := by decide +kernel
theorem d_G_takeAll_7 : decode prog_1_method_9_code 7 = .ok (.ifCond .ne 11, 3) := by decide +kernel
theorem d_G_takeAll_10 : decode prog_1_method_9_code 10 = .ok (.new 45, 3) := by decide +kernel
theorem d_G_takeAll_13 : decode prog_1_method_9_code 13 = .ok (.dup, 1) := by decide +kernel
theorem d_G_takeAll_14 : decode prog_1_method_9_code 14 = .ok (.invokespecial 47, 3) := by decide +kernel
theorem d_G_takeAll_17 : decode prog_1_method_9_code 17 = .ok (.athrow, 1) := by decide +kernel
theorem d_G_written_0 : decode prog_1_method_12_code 0 = .ok (.aload_n 0, 1) := by decide +kernel
theorem d_G_written_1 : decode prog_1_method_12_code 1 = .ok (.iload_n 1, 1) := by decide +kernel
theorem d_G_written_2 : decode prog_1_method_12_code 2 = .ok (.invokevirtual 89, 3) := by decide +kernel
theorem d_T_append_0 : decode prog_6_method_3_code 0 = .ok (.aload_n 0, 1) := by decide +kernel
theorem d_T_append_1 : decode prog_6_method_3_code 1 = .ok (.iconst 4, 1) := by decide +kernel
theorem d_T_append_2 : decode prog_6_method_3_code 2 = .ok (.invokevirtual 17, 3) := by decide +kernel
theorem d_T_append_5 : decode prog_6_method_3_code 5 = .ok (.ifCond .ne 4, 3) := by decide +kernel
theorem d_T_append_9 : decode prog_6_method_3_code 9 = .ok (.bipush 24, 2) := by decide +kernel
theorem d_T_append_11 : decode prog_6_method_3_code 11 = .ok (.istore_n 2, 1) := by decide +kernel
theorem d_T_append_12 : decode prog_6_method_3_code 12 = .ok (.iload_n 2, 1) := by decide +kernel
theorem d_T_append_13 : decode prog_6_method_3_code 13 = .ok (.ifCond .lt 32, 3) := by decide +kernel
theorem d_T_append_16 : decode prog_6_method_3_code 16 = .ok (.aload_n 0, 1) := by decide +kernel
theorem d_T_append_17 : decode prog_6_method_3_code 17 = .ok (.getfield 9, 3) := by decide +kernel
theorem d_T_append_20 : decode prog_6_method_3_code 20 = .ok (.aload_n 0, 1) := by decide +kernel
theorem d_T_append_21 : decode prog_6_method_3_code 21 = .ok (.getfield 13, 3) := by decide +kernel
theorem d_T_append_24 : decode prog_6_method_3_code 24 = .ok (.iload_n 1, 1) := by decide +kernel
theorem d_T_append_25 : decode prog_6_method_3_code 25 = .ok (.iload_n 2, 1) := by decide +kernel
theorem d_T_append_26 : decode prog_6_method_3_code 26 = .ok (.ishr, 1) := by decide +kernel
theorem d_T_append_27 : decode prog_6_method_3_code 27 = .ok (.i2b, 1) := by decide +kernel
theorem d_T_append_28 : decode prog_6_method_3_code 28 = .ok (.bastore, 1) := by decide +kernel
theorem d_T_append_29 : decode prog_6_method_3_code 29 = .ok (.aload_n 0, 1) := by decide +kernel
theorem d_T_append_30 : decode prog_6_method_3_code 30 = .ok (.dup, 1) := by decide +kernel
theorem d_T_append_31 : decode prog_6_method_3_code 31 = .ok (.getfield 13, 3) := by decide +kernel
theorem d_T_append_34 : decode prog_6_method_3_code 34 = .ok (.iconst 1, 1) := by decide +kernel
theorem d_T_append_35 : decode prog_6_method_3_code 35 = .ok (.iadd, 1) := by decide +kernel
theorem d_T_append_36 : decode prog_6_method_3_code 36 = .ok (.putfield 13, 3) := by decide +kernel
theorem d_T_append_39 : decode prog_6_method_3_code 39 = .ok (.iinc 2 (-8), 3) := by decide +kernel
theorem d_T_append_42 : decode prog_6_method_3_code 42 = .ok (.goto (-30), 3) := by decide +kernel
theorem d_T_append_45 : decode prog_6_method_3_code 45 = .ok (.return_, 1) := by decide +kernel
theorem d_T_hasRoomFor_0 : decode prog_6_method_2_code 0 = .ok (.aload_n 0, 1) := by decide +kernel
theorem d_T_hasRoomFor_1 : decode prog_6_method_2_code 1 = .ok (.getfield 13, 3) := by decide +kernel
theorem d_T_hasRoomFor_4 : decode prog_6_method_2_code 4 = .ok (.iload_n 1, 1) := by decide +kernel
theorem d_T_hasRoomFor_5 : decode prog_6_method_2_code 5 = .ok (.iadd, 1) := by decide +kernel
theorem d_T_hasRoomFor_6 : decode prog_6_method_2_code 6 = .ok (.aload_n 0, 1) := by decide +kernel
theorem d_T_hasRoomFor_7 : decode prog_6_method_2_code 7 = .ok (.getfield 9, 3) := by decide +kernel
theorem d_T_hasRoomFor_10 : decode prog_6_method_2_code 10 = .ok (.arraylength, 1) := by decide +kernel
theorem d_T_hasRoomFor_11 : decode prog_6_method_2_code 11 = .ok (.if_icmp .gt 7, 3) := by decide +kernel
theorem d_T_hasRoomFor_14 : decode prog_6_method_2_code 14 = .ok (.iconst 1, 1) := by decide +kernel
theorem d_T_hasRoomFor_15 : decode prog_6_method_2_code 15 = .ok (.goto 4, 3) := by decide +kernel
theorem d_T_hasRoomFor_19 : decode prog_6_method_2_code 19 = .ok (.ireturn, 1) := by decide +kernel
theorem d_T_keepFirst_0 : decode prog_6_method_4_code 0 = .ok (.iload_n 1, 1) := by decide +kernel
theorem d_T_keepFirst_1 : decode prog_6_method_4_code 1 = .ok (.ifCond .lt 16, 3) := by decide +kernel
theorem d_T_keepFirst_4 : decode prog_6_method_4_code 4 = .ok (.iload_n 1, 1) := by decide +kernel
theorem d_T_keepFirst_5 : decode prog_6_method_4_code 5 = .ok (.aload_n 0, 1) := by decide +kernel
theorem d_T_keepFirst_6 : decode prog_6_method_4_code 6 = .ok (.getfield 13, 3) := by decide +kernel
theorem d_T_keepFirst_9 : decode prog_6_method_4_code 9 = .ok (.if_icmp .gt 8, 3) := by decide +kernel
theorem d_T_keepFirst_12 : decode prog_6_method_4_code 12 = .ok (.aload_n 0, 1) := by decide +kernel
theorem d_T_keepFirst_13 : decode prog_6_method_4_code 13 = .ok (.iload_n 1, 1) := by decide +kernel
theorem d_T_keepFirst_14 : decode prog_6_method_4_code 14 = .ok (.putfield 13, 3) := by decide +kernel
theorem d_T_keepFirst_17 : decode prog_6_method_4_code 17 = .ok (.return_, 1) := by decide +kernel
set_option maxHeartbeats 4000000 in
set_option maxRecDepth 100000 in
theorem c_T_room (l : Launch) (D : va_G) (sz : Nat) (qt : Nat) (qb : Nat) (cB : ClassId) (f : Nat → Int32) (L : Nat) (K : Nat) (h : L + K ≤ 20000) : Met l y_T_hasRoomFor (Cond.code y_T_hasRoomFor prog_6_method_2_code 2 (Option.some Jvm.ClassFile.FieldType.boolean) :: zt) { frames := 0, cells := 0, slots := 0, locals := 0 } (zPc [.ref qt, .int (nI K)] D [(qt, .inr (1, [.ref qb, .int (nI L)])), (qb, .inl (cB, 20000, .inl f))] [(cB, .byte)] sz (fun _ => True)) (va_Qi (fun (r : Int32) => fun (_ : Unit) => r = 1) (fun u t => zB D ((fun (_ : Unit) => [(qt, .inr (1, [.ref qb, .int (nI L)])), (qb, .inl (cB, 20000, .inl f))]) u) ((fun (_ : Unit) => [(cB, .byte)]) u) (va_A [(qt, .inr (1, [.ref qb, .int (nI L)])), (qb, .inl (cB, 20000, .inl f))] sz) t) (va_A [(qt, .inr (1, [.ref qb, .int (nI L)])), (qb, .inl (cB, 20000, .inl f))] sz)) 0 0 (va_A [(qt, .inr (1, [.ref qb, .int (nI L)])), (qb, .inl (cB, 20000, .inl f))] sz) :=
  zMet (Qf := fun A => va_Qi (fun (r : Int32) => fun (_ : Unit) => r = 1) (fun u t => zB D ((fun (_ : Unit) => [(qt, .inr (1, [.ref qb, .int (nI L)])), (qb, .inl (cB, 20000, .inl f))]) u) ((fun (_ : Unit) => [(cB, .byte)]) u) A t) A) (by decide) (Nat.le_of_ble_eq_true rfl) (fun p e s m below meth c A ls hx hb hr hml hown ht hlk hnm hA hK hP hD hX hl => by
    have hS : va_S A s.heap s.heap [] := va_S.rf
    have hl : lv_has ls 2 [(0, .ref qt), (1, .int (nI K))] := hl
    refine lv_aload_n hx hb d_T_hasRoomFor_0 rfl (lv_at hl 0 rfl) ?_
    refine va_get (ci := 1) (C := "ZipGuard$Tape") (T := F_T) (N := 2) hx hb ht zi_T hown hK hP 0 rfl rfl 1 (by decide) (ht _ zm_97) (fun _ h9 => h9) rfl d_T_hasRoomFor_1 ?_
    refine lv_iload_n hx hb d_T_hasRoomFor_4 rfl (lv_at hl 1 rfl) ?_
    refine lv_iadd hx hb d_T_hasRoomFor_5 ?_
    refine lv_aload_n hx hb d_T_hasRoomFor_6 rfl (lv_at hl 0 rfl) ?_
    refine va_get (ci := 1) (C := "ZipGuard$Tape") (T := F_T) (N := 2) hx hb ht zi_T hown hK hP 0 rfl rfl 0 (by decide) (ht _ zm_96) (fun _ h9 => h9) rfl d_T_hasRoomFor_7 ?_
    refine va_alen (v := 20000) hx hb hK hP 1 0 rfl rfl rfl d_T_hasRoomFor_10 ?_
    refine lv_icmp_gt (tgt := 18) hx hb d_T_hasRoomFor_11 (by decide) (fun h => absurd h (by rw [nI_add]; exact (show ¬ nI 20000 < nI (L + K) from nI_nlt (by omega) (by omega)))) (fun _ => ?_)
    refine lv_iconst (v := 1) hx hb d_T_hasRoomFor_14 (by decide) ?_
    refine lv_goto (tgt := 19) hx hb d_T_hasRoomFor_15 (by decide) ?_
    exact zretz hx hb hr hlk hK hP hD hS () [0, 1] [0] rfl (by decide) rfl (rfl) rfl (Nat.le_of_ble_eq_true rfl) (Nat.le_of_ble_eq_true rfl) d_T_hasRoomFor_19)
set_option maxHeartbeats 4000000 in
set_option maxRecDepth 100000 in
theorem c_T_app (l : Launch) (D : va_G) (sz : Nat) (qt : Nat) (qb : Nat) (cB : ClassId) (f : Nat → Int32) (L : Nat) (x : Int32) (h : L + 4 ≤ 20000) : Met l y_T_append (Cond.code y_T_append prog_6_method_3_code 3 (Option.none : Option Jvm.ClassFile.FieldType) :: zt) { frames := 1, cells := 0, slots := 0, locals := 21 } (zPc [.ref qt, .int x] D [(qt, .inr (1, [.ref qb, .int (nI L)])), (qb, .inl (cB, 20000, .inl f))] [(cB, .byte)] sz (fun _ => True)) (va_Qv (fun (u : Nat → Int32) => match u with | g => True) (fun u t => zB D ((fun (u : Nat → Int32) => match u with | g => [(qt, .inr (1, [.ref qb, .int (nI (L + 4))])), (qb, .inl (cB, 20000, .inl g))]) u) ((fun (u : Nat → Int32) => match u with | g => [(cB, .byte)]) u) (va_A [(qt, .inr (1, [.ref qb, .int (nI L)])), (qb, .inl (cB, 20000, .inl f))] sz) t) (va_A [(qt, .inr (1, [.ref qb, .int (nI L)])), (qb, .inl (cB, 20000, .inl f))] sz)) 0 0 (va_A [(qt, .inr (1, [.ref qb, .int (nI L)])), (qb, .inl (cB, 20000, .inl f))] sz) :=
  zMet (Qf := fun A => va_Qv (fun (u : Nat → Int32) => match u with | g => True) (fun u t => zB D ((fun (u : Nat → Int32) => match u with | g => [(qt, .inr (1, [.ref qb, .int (nI (L + 4))])), (qb, .inl (cB, 20000, .inl g))]) u) ((fun (u : Nat → Int32) => match u with | g => [(cB, .byte)]) u) A t) A) (by decide) (Nat.le_of_ble_eq_true rfl) (fun p e s m below meth c A ls hx hb hr hml hown ht hlk hnm hA hK hP hD hX hl => by
    have hS : va_S A s.heap s.heap [] := va_S.rf
    have hl : lv_has ls 3 [(0, .ref qt), (1, .int x)] := hl
    refine lv_aload_n hx hb d_T_append_0 rfl (lv_at hl 0 rfl) ?_
    refine lv_iconst (v := 4) hx hb d_T_append_1 (by decide) ?_
    refine zji (wr := []) (va_runV (As := [.int 4]) (rest := []) ⟨hx, hb, hml, hown, ht⟩ (c_T_room l D _ qt qb cB f L 4 h) (cwV 1 ht (zt_goodV zm_552 zm_521 zm_522 zm_66 zm_523) rfl rfl rfl (by decide +kernel) ⟨Nat.le_of_ble_eq_true rfl, Nat.le_of_ble_eq_true rfl⟩) (zpreV zBlind_t hK hP hD [0, 1] [0] rfl (by decide) rfl (fun _ _ _ => trivial) (va_recv (q := ("ZipGuard$Tape", F_T, 2)) hK hP rfl (q0 := 0) (ci := 1) rfl)) rfl rfl hl.1 rfl (lv_room (Nat.le_of_ble_eq_true rfl)) d_T_append_2 ⟨Nat.le_of_ble_eq_true rfl, Nat.le_of_ble_eq_true rfl⟩) hK hP hD hS hA [0, 1] [] rfl rfl (by decide) (by decide) (fun r1 u H locs hp2 hP hD hK hS => ?_)
    have hP : va_P D zcl [(qt, .inr (1, [.ref qb, .int (nI L)])), (qb, .inl (cB, 20000, .inl f))] H := hP
    have hD : va_D A [(qt, .inr (1, [.ref qb, .int (nI L)])), (qb, .inl (cB, 20000, .inl f))] := hD
    have hK : va_K D zcl [(cB, .byte), (cB, .byte)] s := hK
    subst hp2
    have hP := hP.sub (ws' := [(qt, .inr (1, [.ref qb, .int (nI L)])), (qb, .inl (cB, 20000, .inl f))]) [0, 1] rfl
    have hD := hD.sub (ws' := [(qt, .inr (1, [.ref qb, .int (nI L)])), (qb, .inl (cB, 20000, .inl f))]) [0, 1] (by decide) rfl
    have hK := hK.sub (tys' := [(cB, .byte)]) [0] rfl
    refine lv_if_ne (tgt := 9) hx hb d_T_append_5 (by decide) (fun _ => ?_) (fun h => absurd h (by decide))
    refine lv_bipush (v := 24) hx hb d_T_append_9 (by decide) ?_
    refine lv_istore_n (lv' := [(2, .int 24), (0, .ref qt), (1, .int x)]) hx hb d_T_append_11 rfl hl (by decide) rfl (fun ls hl => ?_)
    refine lv_iload_n hx hb d_T_append_12 rfl (lv_at hl 0 rfl) ?_
    refine lv_if_lt (tgt := 45) hx hb d_T_append_13 (by decide) (fun h => absurd h (by decide)) (fun _ => ?_)
    refine lv_aload_n hx hb d_T_append_16 rfl (lv_at hl 1 rfl) ?_
    refine va_get (ci := 1) (C := "ZipGuard$Tape") (T := F_T) (N := 2) hx hb ht zi_T hown hK hP 0 rfl rfl 0 (by decide) (ht _ zm_96) (fun _ h9 => h9) rfl d_T_append_17 ?_
    refine lv_aload_n hx hb d_T_append_20 rfl (lv_at hl 1 rfl) ?_
    refine va_get (ci := 1) (C := "ZipGuard$Tape") (T := F_T) (N := 2) hx hb ht zi_T hown hK hP 0 rfl rfl 1 (by decide) (ht _ zm_97) (fun _ h9 => h9) rfl d_T_append_21 ?_
    refine lv_iload_n hx hb d_T_append_24 rfl (lv_at hl 2 rfl) ?_
    refine lv_iload_n hx hb d_T_append_25 rfl (lv_at hl 0 rfl) ?_
    refine lv_ishr hx hb d_T_append_26 ?_
    refine lv_i2b hx hb d_T_append_27 rfl ?_
    refine va_bast hx hb hK hP hD hS 1 0 rfl rfl (vp_in_nI (by omega) (by omega)) d_T_append_28 (fun H locs hP hD hS => ?_)
    have hP : va_P D zcl [(qt, .inr (1, [.ref qb, .int (nI L)])), (qb, .inl (cB, 20000, .inl (upd f (nI L).toNatClampNeg (vp_nar .byte ((x >>> (24 &&& 31)).toInt8.toInt32)))))] H := hP
    have hD : va_D A [(qt, .inr (1, [.ref qb, .int (nI L)])), (qb, .inl (cB, 20000, .inl (upd f (nI L).toNatClampNeg (vp_nar .byte ((x >>> (24 &&& 31)).toInt8.toInt32)))))] := hD
    refine lv_aload_n hx hb d_T_append_29 rfl (lv_at hl 1 rfl) ?_
    refine lv_dup hx hb d_T_append_30 rfl ?_
    refine va_get (ci := 1) (C := "ZipGuard$Tape") (T := F_T) (N := 2) hx hb ht zi_T hown hK hP 0 rfl rfl 1 (by decide) (ht _ zm_97) (fun _ h9 => h9) rfl d_T_append_31 ?_
    refine lv_iconst (v := 1) hx hb d_T_append_34 (by decide) ?_
    refine lv_iadd hx hb d_T_append_35 ?_
    refine lv_topi (fun x5 e_x5 => ?_)
    have e_x5 : x5 = nI (L + 1) := by rw [e_x5, nI_1]
    subst e_x5
    refine va_put (ci := 1) (v := .int (nI (L + 1))) (ty := .int) (C := "ZipGuard$Tape") (T := F_T) (N := 2) hx hb ht zi_T ty_T tk_T nm_T hown hK hP hD hS 0 rfl rfl 1 (by decide) (ht _ zm_97) (fun _ h9 => h9) rfl (by decide +kernel) rfl rfl (Nat.le_of_ble_eq_true rfl) d_T_append_36 (fun H locs hP hD hS => ?_)
    have hP : va_P D zcl [(qt, .inr (1, [.ref qb, .int (nI (L + 1))])), (qb, .inl (cB, 20000, .inl (upd f (nI L).toNatClampNeg (vp_nar .byte ((x >>> (24 &&& 31)).toInt8.toInt32)))))] H := hP
    have hD : va_D A [(qt, .inr (1, [.ref qb, .int (nI (L + 1))])), (qb, .inl (cB, 20000, .inl (upd f (nI L).toNatClampNeg (vp_nar .byte ((x >>> (24 &&& 31)).toInt8.toInt32)))))] := hD
    refine lv_iinc (k := 0) (v := 16) (lv' := [(2, .int 16), (0, .ref qt), (1, .int x)]) hx hb d_T_append_39 hl rfl (by decide) (by decide) rfl (fun ls hl => ?_)
    refine lv_goto (tgt := 12) hx hb d_T_append_42 (by decide) ?_
    refine lv_iload_n hx hb d_T_append_12 rfl (lv_at hl 0 rfl) ?_
    refine lv_if_lt (tgt := 45) hx hb d_T_append_13 (by decide) (fun h => absurd h (by decide)) (fun _ => ?_)
    refine lv_aload_n hx hb d_T_append_16 rfl (lv_at hl 1 rfl) ?_
    refine va_get (ci := 1) (C := "ZipGuard$Tape") (T := F_T) (N := 2) hx hb ht zi_T hown hK hP 0 rfl rfl 0 (by decide) (ht _ zm_96) (fun _ h9 => h9) rfl d_T_append_17 ?_
    refine lv_aload_n hx hb d_T_append_20 rfl (lv_at hl 1 rfl) ?_
    refine va_get (ci := 1) (C := "ZipGuard$Tape") (T := F_T) (N := 2) hx hb ht zi_T hown hK hP 0 rfl rfl 1 (by decide) (ht _ zm_97) (fun _ h9 => h9) rfl d_T_append_21 ?_
    refine lv_iload_n hx hb d_T_append_24 rfl (lv_at hl 2 rfl) ?_
    refine lv_iload_n hx hb d_T_append_25 rfl (lv_at hl 0 rfl) ?_
    refine lv_ishr hx hb d_T_append_26 ?_
    refine lv_i2b hx hb d_T_append_27 rfl ?_
    refine va_bast hx hb hK hP hD hS 1 0 rfl rfl (vp_in_nI (by omega) (by omega)) d_T_append_28 (fun H locs hP hD hS => ?_)
    have hP : va_P D zcl [(qt, .inr (1, [.ref qb, .int (nI (L + 1))])), (qb, .inl (cB, 20000, .inl (upd (upd f (nI L).toNatClampNeg (vp_nar .byte ((x >>> (24 &&& 31)).toInt8.toInt32))) (nI (L + 1)).toNatClampNeg (vp_nar .byte ((x >>> (16 &&& 31)).toInt8.toInt32)))))] H := hP
    have hD : va_D A [(qt, .inr (1, [.ref qb, .int (nI (L + 1))])), (qb, .inl (cB, 20000, .inl (upd (upd f (nI L).toNatClampNeg (vp_nar .byte ((x >>> (24 &&& 31)).toInt8.toInt32))) (nI (L + 1)).toNatClampNeg (vp_nar .byte ((x >>> (16 &&& 31)).toInt8.toInt32)))))] := hD
    refine lv_aload_n hx hb d_T_append_29 rfl (lv_at hl 1 rfl) ?_
    refine lv_dup hx hb d_T_append_30 rfl ?_
    refine va_get (ci := 1) (C := "ZipGuard$Tape") (T := F_T) (N := 2) hx hb ht zi_T hown hK hP 0 rfl rfl 1 (by decide) (ht _ zm_97) (fun _ h9 => h9) rfl d_T_append_31 ?_
    refine lv_iconst (v := 1) hx hb d_T_append_34 (by decide) ?_
    refine lv_iadd hx hb d_T_append_35 ?_
    refine lv_topi (fun x7 e_x7 => ?_)
    have e_x7 : x7 = nI (L + 2) := by rw [e_x7, nI_1]
    subst e_x7
    refine va_put (ci := 1) (v := .int (nI (L + 2))) (ty := .int) (C := "ZipGuard$Tape") (T := F_T) (N := 2) hx hb ht zi_T ty_T tk_T nm_T hown hK hP hD hS 0 rfl rfl 1 (by decide) (ht _ zm_97) (fun _ h9 => h9) rfl (by decide +kernel) rfl rfl (Nat.le_of_ble_eq_true rfl) d_T_append_36 (fun H locs hP hD hS => ?_)
    have hP : va_P D zcl [(qt, .inr (1, [.ref qb, .int (nI (L + 2))])), (qb, .inl (cB, 20000, .inl (upd (upd f (nI L).toNatClampNeg (vp_nar .byte ((x >>> (24 &&& 31)).toInt8.toInt32))) (nI (L + 1)).toNatClampNeg (vp_nar .byte ((x >>> (16 &&& 31)).toInt8.toInt32)))))] H := hP
    have hD : va_D A [(qt, .inr (1, [.ref qb, .int (nI (L + 2))])), (qb, .inl (cB, 20000, .inl (upd (upd f (nI L).toNatClampNeg (vp_nar .byte ((x >>> (24 &&& 31)).toInt8.toInt32))) (nI (L + 1)).toNatClampNeg (vp_nar .byte ((x >>> (16 &&& 31)).toInt8.toInt32)))))] := hD
    refine lv_iinc (k := 0) (v := 8) (lv' := [(2, .int 8), (0, .ref qt), (1, .int x)]) hx hb d_T_append_39 hl rfl (by decide) (by decide) rfl (fun ls hl => ?_)
    refine lv_goto (tgt := 12) hx hb d_T_append_42 (by decide) ?_
    refine lv_iload_n hx hb d_T_append_12 rfl (lv_at hl 0 rfl) ?_
    refine lv_if_lt (tgt := 45) hx hb d_T_append_13 (by decide) (fun h => absurd h (by decide)) (fun _ => ?_)
    refine lv_aload_n hx hb d_T_append_16 rfl (lv_at hl 1 rfl) ?_
    refine va_get (ci := 1) (C := "ZipGuard$Tape") (T := F_T) (N := 2) hx hb ht zi_T hown hK hP 0 rfl rfl 0 (by decide) (ht _ zm_96) (fun _ h9 => h9) rfl d_T_append_17 ?_
    refine lv_aload_n hx hb d_T_append_20 rfl (lv_at hl 1 rfl) ?_
    refine va_get (ci := 1) (C := "ZipGuard$Tape") (T := F_T) (N := 2) hx hb ht zi_T hown hK hP 0 rfl rfl 1 (by decide) (ht _ zm_97) (fun _ h9 => h9) rfl d_T_append_21 ?_
    refine lv_iload_n hx hb d_T_append_24 rfl (lv_at hl 2 rfl) ?_
    refine lv_iload_n hx hb d_T_append_25 rfl (lv_at hl 0 rfl) ?_
    refine lv_ishr hx hb d_T_append_26 ?_
    refine lv_i2b hx hb d_T_append_27 rfl ?_
    refine va_bast hx hb hK hP hD hS 1 0 rfl rfl (vp_in_nI (by omega) (by omega)) d_T_append_28 (fun H locs hP hD hS => ?_)
    have hP : va_P D zcl [(qt, .inr (1, [.ref qb, .int (nI (L + 2))])), (qb, .inl (cB, 20000, .inl (upd (upd (upd f (nI L).toNatClampNeg (vp_nar .byte ((x >>> (24 &&& 31)).toInt8.toInt32))) (nI (L + 1)).toNatClampNeg (vp_nar .byte ((x >>> (16 &&& 31)).toInt8.toInt32))) (nI (L + 2)).toNatClampNeg (vp_nar .byte ((x >>> (8 &&& 31)).toInt8.toInt32)))))] H := hP
    have hD : va_D A [(qt, .inr (1, [.ref qb, .int (nI (L + 2))])), (qb, .inl (cB, 20000, .inl (upd (upd (upd f (nI L).toNatClampNeg (vp_nar .byte ((x >>> (24 &&& 31)).toInt8.toInt32))) (nI (L + 1)).toNatClampNeg (vp_nar .byte ((x >>> (16 &&& 31)).toInt8.toInt32))) (nI (L + 2)).toNatClampNeg (vp_nar .byte ((x >>> (8 &&& 31)).toInt8.toInt32)))))] := hD
    refine lv_aload_n hx hb d_T_append_29 rfl (lv_at hl 1 rfl) ?_
    refine lv_dup hx hb d_T_append_30 rfl ?_
    refine va_get (ci := 1) (C := "ZipGuard$Tape") (T := F_T) (N := 2) hx hb ht zi_T hown hK hP 0 rfl rfl 1 (by decide) (ht _ zm_97) (fun _ h9 => h9) rfl d_T_append_31 ?_
    refine lv_iconst (v := 1) hx hb d_T_append_34 (by decide) ?_
    refine lv_iadd hx hb d_T_append_35 ?_
    refine lv_topi (fun x9 e_x9 => ?_)
    have e_x9 : x9 = nI (L + 3) := by rw [e_x9, nI_1]
    subst e_x9
    refine va_put (ci := 1) (v := .int (nI (L + 3))) (ty := .int) (C := "ZipGuard$Tape") (T := F_T) (N := 2) hx hb ht zi_T ty_T tk_T nm_T hown hK hP hD hS 0 rfl rfl 1 (by decide) (ht _ zm_97) (fun _ h9 => h9) rfl (by decide +kernel) rfl rfl (Nat.le_of_ble_eq_true rfl) d_T_append_36 (fun H locs hP hD hS => ?_)
    have hP : va_P D zcl [(qt, .inr (1, [.ref qb, .int (nI (L + 3))])), (qb, .inl (cB, 20000, .inl (upd (upd (upd f (nI L).toNatClampNeg (vp_nar .byte ((x >>> (24 &&& 31)).toInt8.toInt32))) (nI (L + 1)).toNatClampNeg (vp_nar .byte ((x >>> (16 &&& 31)).toInt8.toInt32))) (nI (L + 2)).toNatClampNeg (vp_nar .byte ((x >>> (8 &&& 31)).toInt8.toInt32)))))] H := hP
    have hD : va_D A [(qt, .inr (1, [.ref qb, .int (nI (L + 3))])), (qb, .inl (cB, 20000, .inl (upd (upd (upd f (nI L).toNatClampNeg (vp_nar .byte ((x >>> (24 &&& 31)).toInt8.toInt32))) (nI (L + 1)).toNatClampNeg (vp_nar .byte ((x >>> (16 &&& 31)).toInt8.toInt32))) (nI (L + 2)).toNatClampNeg (vp_nar .byte ((x >>> (8 &&& 31)).toInt8.toInt32)))))] := hD
    refine lv_iinc (k := 0) (v := 0) (lv' := [(2, .int 0), (0, .ref qt), (1, .int x)]) hx hb d_T_append_39 hl rfl (by decide) (by decide) rfl (fun ls hl => ?_)
    refine lv_goto (tgt := 12) hx hb d_T_append_42 (by decide) ?_
    refine lv_iload_n hx hb d_T_append_12 rfl (lv_at hl 0 rfl) ?_
    refine lv_if_lt (tgt := 45) hx hb d_T_append_13 (by decide) (fun h => absurd h (by decide)) (fun _ => ?_)
    refine lv_aload_n hx hb d_T_append_16 rfl (lv_at hl 1 rfl) ?_
    refine va_get (ci := 1) (C := "ZipGuard$Tape") (T := F_T) (N := 2) hx hb ht zi_T hown hK hP 0 rfl rfl 0 (by decide) (ht _ zm_96) (fun _ h9 => h9) rfl d_T_append_17 ?_
    refine lv_aload_n hx hb d_T_append_20 rfl (lv_at hl 1 rfl) ?_
    refine va_get (ci := 1) (C := "ZipGuard$Tape") (T := F_T) (N := 2) hx hb ht zi_T hown hK hP 0 rfl rfl 1 (by decide) (ht _ zm_97) (fun _ h9 => h9) rfl d_T_append_21 ?_
    refine lv_iload_n hx hb d_T_append_24 rfl (lv_at hl 2 rfl) ?_
    refine lv_iload_n hx hb d_T_append_25 rfl (lv_at hl 0 rfl) ?_
    refine lv_ishr hx hb d_T_append_26 ?_
    refine lv_i2b hx hb d_T_append_27 rfl ?_
    refine va_bast hx hb hK hP hD hS 1 0 rfl rfl (vp_in_nI (by omega) (by omega)) d_T_append_28 (fun H locs hP hD hS => ?_)
    have hP : va_P D zcl [(qt, .inr (1, [.ref qb, .int (nI (L + 3))])), (qb, .inl (cB, 20000, .inl (upd (upd (upd (upd f (nI L).toNatClampNeg (vp_nar .byte ((x >>> (24 &&& 31)).toInt8.toInt32))) (nI (L + 1)).toNatClampNeg (vp_nar .byte ((x >>> (16 &&& 31)).toInt8.toInt32))) (nI (L + 2)).toNatClampNeg (vp_nar .byte ((x >>> (8 &&& 31)).toInt8.toInt32))) (nI (L + 3)).toNatClampNeg (vp_nar .byte ((x >>> (0 &&& 31)).toInt8.toInt32)))))] H := hP
    have hD : va_D A [(qt, .inr (1, [.ref qb, .int (nI (L + 3))])), (qb, .inl (cB, 20000, .inl (upd (upd (upd (upd f (nI L).toNatClampNeg (vp_nar .byte ((x >>> (24 &&& 31)).toInt8.toInt32))) (nI (L + 1)).toNatClampNeg (vp_nar .byte ((x >>> (16 &&& 31)).toInt8.toInt32))) (nI (L + 2)).toNatClampNeg (vp_nar .byte ((x >>> (8 &&& 31)).toInt8.toInt32))) (nI (L + 3)).toNatClampNeg (vp_nar .byte ((x >>> (0 &&& 31)).toInt8.toInt32)))))] := hD
    refine lv_aload_n hx hb d_T_append_29 rfl (lv_at hl 1 rfl) ?_
    refine lv_dup hx hb d_T_append_30 rfl ?_
    refine va_get (ci := 1) (C := "ZipGuard$Tape") (T := F_T) (N := 2) hx hb ht zi_T hown hK hP 0 rfl rfl 1 (by decide) (ht _ zm_97) (fun _ h9 => h9) rfl d_T_append_31 ?_
    refine lv_iconst (v := 1) hx hb d_T_append_34 (by decide) ?_
    refine lv_iadd hx hb d_T_append_35 ?_
    refine lv_topi (fun x11 e_x11 => ?_)
    have e_x11 : x11 = nI (L + 4) := by rw [e_x11, nI_1]
    subst e_x11
    refine va_put (ci := 1) (v := .int (nI (L + 4))) (ty := .int) (C := "ZipGuard$Tape") (T := F_T) (N := 2) hx hb ht zi_T ty_T tk_T nm_T hown hK hP hD hS 0 rfl rfl 1 (by decide) (ht _ zm_97) (fun _ h9 => h9) rfl (by decide +kernel) rfl rfl (Nat.le_of_ble_eq_true rfl) d_T_append_36 (fun H locs hP hD hS => ?_)
    have hP : va_P D zcl [(qt, .inr (1, [.ref qb, .int (nI (L + 4))])), (qb, .inl (cB, 20000, .inl (upd (upd (upd (upd f (nI L).toNatClampNeg (vp_nar .byte ((x >>> (24 &&& 31)).toInt8.toInt32))) (nI (L + 1)).toNatClampNeg (vp_nar .byte ((x >>> (16 &&& 31)).toInt8.toInt32))) (nI (L + 2)).toNatClampNeg (vp_nar .byte ((x >>> (8 &&& 31)).toInt8.toInt32))) (nI (L + 3)).toNatClampNeg (vp_nar .byte ((x >>> (0 &&& 31)).toInt8.toInt32)))))] H := hP
    have hD : va_D A [(qt, .inr (1, [.ref qb, .int (nI (L + 4))])), (qb, .inl (cB, 20000, .inl (upd (upd (upd (upd f (nI L).toNatClampNeg (vp_nar .byte ((x >>> (24 &&& 31)).toInt8.toInt32))) (nI (L + 1)).toNatClampNeg (vp_nar .byte ((x >>> (16 &&& 31)).toInt8.toInt32))) (nI (L + 2)).toNatClampNeg (vp_nar .byte ((x >>> (8 &&& 31)).toInt8.toInt32))) (nI (L + 3)).toNatClampNeg (vp_nar .byte ((x >>> (0 &&& 31)).toInt8.toInt32)))))] := hD
    refine lv_iinc (k := 0) (v := (-8)) (lv' := [(2, .int (-8)), (0, .ref qt), (1, .int x)]) hx hb d_T_append_39 hl rfl (by decide) (by decide) rfl (fun ls hl => ?_)
    refine lv_goto (tgt := 12) hx hb d_T_append_42 (by decide) ?_
    refine lv_iload_n hx hb d_T_append_12 rfl (lv_at hl 0 rfl) ?_
    refine lv_if_lt (tgt := 45) hx hb d_T_append_13 (by decide) (fun _ => ?_) (fun h => absurd (by decide) h)
    exact zretv hx hb hr hlk hK hP hD hS (upd (upd (upd (upd f (nI L).toNatClampNeg (vp_nar .byte ((x >>> (24 &&& 31)).toInt8.toInt32))) (nI (L + 1)).toNatClampNeg (vp_nar .byte ((x >>> (16 &&& 31)).toInt8.toInt32))) (nI (L + 2)).toNatClampNeg (vp_nar .byte ((x >>> (8 &&& 31)).toInt8.toInt32))) (nI (L + 3)).toNatClampNeg (vp_nar .byte ((x >>> (0 &&& 31)).toInt8.toInt32))) [0, 1] [0] rfl (by decide) rfl (trivial) (Nat.le_of_ble_eq_true rfl) (Nat.le_of_ble_eq_true rfl) d_T_append_45)
set_option maxHeartbeats 4000000 in
set_option maxRecDepth 100000 in
theorem c_D_shut (l : Launch) (D : va_G) (sz : Nat) (qd : Nat) (qe : Nat) (qt : Nat) (cn : Int32) (op : Int32) (fp : Int32)  : Met l y_D_shut (Cond.code y_D_shut prog_4_method_2_code 1 (Option.none : Option Jvm.ClassFile.FieldType) :: zt) { frames := 0, cells := 0, slots := 0, locals := 0 } (zPc [.ref qd] D [(qd, .inr (2, [.ref qe, .int cn, .int op, .int fp, .ref qt]))] [] sz (fun _ => True)) (va_Qv (fun (_ : Unit) => True) (fun u t => zB D ((fun (_ : Unit) => [(qd, .inr (2, [.ref qe, .int cn, .int 0, .int fp, .ref qt]))]) u) ((fun (_ : Unit) => []) u) (va_A [(qd, .inr (2, [.ref qe, .int cn, .int op, .int fp, .ref qt]))] sz) t) (va_A [(qd, .inr (2, [.ref qe, .int cn, .int op, .int fp, .ref qt]))] sz)) 0 0 (va_A [(qd, .inr (2, [.ref qe, .int cn, .int op, .int fp, .ref qt]))] sz) :=
  zMet (Qf := fun A => va_Qv (fun (_ : Unit) => True) (fun u t => zB D ((fun (_ : Unit) => [(qd, .inr (2, [.ref qe, .int cn, .int 0, .int fp, .ref qt]))]) u) ((fun (_ : Unit) => []) u) A t) A) (by decide) (Nat.le_of_ble_eq_true rfl) (fun p e s m below meth c A ls hx hb hr hml hown ht hlk hnm hA hK hP hD hX hl => by
    have hS : va_S A s.heap s.heap [] := va_S.rf
    have hl : lv_has ls 1 [(0, .ref qd)] := hl
    refine lv_aload_n hx hb d_D_shut_0 rfl (lv_at hl 0 rfl) ?_
    refine lv_iconst (v := 0) hx hb d_D_shut_1 (by decide) ?_
    refine va_put (ci := 2) (v := .int 0) (ty := .boolean) (C := "ZipGuard$Directory") (T := F_D) (N := 5) hx hb ht zi_D ty_D tk_D nm_D hown hK hP hD hS 0 rfl rfl 2 (by decide) (ht _ zm_183) (fun _ h9 => h9) rfl (by decide +kernel) rfl rfl (Nat.le_of_ble_eq_true rfl) d_D_shut_2 (fun H locs hP hD hS => ?_)
    have hP : va_P D zcl [(qd, .inr (2, [.ref qe, .int cn, .int 0, .int fp, .ref qt]))] H := hP
    have hD : va_D A [(qd, .inr (2, [.ref qe, .int cn, .int 0, .int fp, .ref qt]))] := hD
    exact zretv hx hb hr hlk hK hP hD hS () [0] [] rfl (by decide) rfl (trivial) (Nat.le_of_ble_eq_true rfl) (Nat.le_of_ble_eq_true rfl) d_D_shut_5)
set_option maxHeartbeats 4000000 in
set_option maxRecDepth 100000 in
theorem c_A_clear (l : Launch) (D : va_G) (sz : Nat) (qa : Nat) (qo : Nat) (bu : Int32) (ra : Int32) (to : Int32) (rs : Int32)  : Met l y_A_clear (Cond.code y_A_clear prog_7_method_2_code 1 (Option.none : Option Jvm.ClassFile.FieldType) :: zt) { frames := 0, cells := 0, slots := 0, locals := 0 } (zPc [.ref qa] D [(qa, .inr (3, [.int bu, .int ra, .int to, .ref qo, .int rs]))] [] sz (fun _ => True)) (va_Qv (fun (_ : Unit) => True) (fun u t => zB D ((fun (_ : Unit) => [(qa, .inr (3, [.int bu, .int ra, .int 0, .ref qo, .int rs]))]) u) ((fun (_ : Unit) => []) u) (va_A [(qa, .inr (3, [.int bu, .int ra, .int to, .ref qo, .int rs]))] sz) t) (va_A [(qa, .inr (3, [.int bu, .int ra, .int to, .ref qo, .int rs]))] sz)) 0 0 (va_A [(qa, .inr (3, [.int bu, .int ra, .int to, .ref qo, .int rs]))] sz) :=
  zMet (Qf := fun A => va_Qv (fun (_ : Unit) => True) (fun u t => zB D ((fun (_ : Unit) => [(qa, .inr (3, [.int bu, .int ra, .int 0, .ref qo, .int rs]))]) u) ((fun (_ : Unit) => []) u) A t) A) (by decide) (Nat.le_of_ble_eq_true rfl) (fun p e s m below meth c A ls hx hb hr hml hown ht hlk hnm hA hK hP hD hX hl => by
    have hS : va_S A s.heap s.heap [] := va_S.rf
    have hl : lv_has ls 1 [(0, .ref qa)] := hl
    refine lv_aload_n hx hb d_A_clear_0 rfl (lv_at hl 0 rfl) ?_
    refine lv_iconst (v := 0) hx hb d_A_clear_1 (by decide) ?_
    refine va_put (ci := 3) (v := .int 0) (ty := .int) (C := "ZipGuard$Target") (T := F_A) (N := 5) hx hb ht zi_A ty_A tk_A nm_A hown hK hP hD hS 0 rfl rfl 2 (by decide) (ht _ zm_210) (fun _ h9 => h9) rfl (by decide +kernel) rfl rfl (Nat.le_of_ble_eq_true rfl) d_A_clear_2 (fun H locs hP hD hS => ?_)
    have hP : va_P D zcl [(qa, .inr (3, [.int bu, .int ra, .int 0, .ref qo, .int rs]))] H := hP
    have hD : va_D A [(qa, .inr (3, [.int bu, .int ra, .int 0, .ref qo, .int rs]))] := hD
    exact zretv hx hb hr hlk hK hP hD hS () [0] [] rfl (by decide) rfl (trivial) (Nat.le_of_ble_eq_true rfl) (Nat.le_of_ble_eq_true rfl) d_A_clear_5)
set_option maxHeartbeats 4000000 in
set_option maxRecDepth 100000 in
theorem c_G_feed (l : Launch) (D : va_G) (sz : Nat) (h0 : Nat) (qt : Nat) (qd : Nat) (qa : Nat) (qu : Nat) (qb : Nat) (qe : Nat) (cB : ClassId) (f : Nat → Int32) (L : Nat) (cn : Int32) (op : Int32) (fp : Int32) (x1 : Int32) (x2 : Int32) (x3 : Int32) (x4 : Int32) (x5 : Int32) (h : L + 20 ≤ 20000) : Met l y_G_feed (Cond.code y_G_feed prog_1_method_2_code 6 (Option.some Jvm.ClassFile.FieldType.int) :: zt) { frames := 2, cells := 0, slots := 0, locals := 43 } (zPc [.ref h0, .int x1, .int x2, .int x3, .int x4, .int x5] D [(h0, .inr (0, [.ref qt, .ref qd, .ref qa, .ref qu])), (qt, .inr (1, [.ref qb, .int (nI L)])), (qb, .inl (cB, 20000, .inl f)), (qd, .inr (2, [.ref qe, .int cn, .int op, .int fp, .ref qt]))] [(cB, .byte)] sz (fun _ => True)) (va_Qi (fun (r : Int32) => fun (u : Nat → Int32) => match u with | g => r = nI (L + 20)) (fun u t => zB D ((fun (u : Nat → Int32) => match u with | g => [(h0, .inr (0, [.ref qt, .ref qd, .ref qa, .ref qu])), (qt, .inr (1, [.ref qb, .int (nI (L + 20))])), (qb, .inl (cB, 20000, .inl g)), (qd, .inr (2, [.ref qe, .int cn, .int 0, .int fp, .ref qt]))]) u) ((fun (u : Nat → Int32) => match u with | g => [(cB, .byte)]) u) (va_A [(h0, .inr (0, [.ref qt, .ref qd, .ref qa, .ref qu])), (qt, .inr (1, [.ref qb, .int (nI L)])), (qb, .inl (cB, 20000, .inl f)), (qd, .inr (2, [.ref qe, .int cn, .int op, .int fp, .ref qt]))] sz) t) (va_A [(h0, .inr (0, [.ref qt, .ref qd, .ref qa, .ref qu])), (qt, .inr (1, [.ref qb, .int (nI L)])), (qb, .inl (cB, 20000, .inl f)), (qd, .inr (2, [.ref qe, .int cn, .int op, .int fp, .ref qt]))] sz)) 0 0 (va_A [(h0, .inr (0, [.ref qt, .ref qd, .ref qa, .ref qu])), (qt, .inr (1, [.ref qb, .int (nI L)])), (qb, .inl (cB, 20000, .inl f)), (qd, .inr (2, [.ref qe, .int cn, .int op, .int fp, .ref qt]))] sz) :=
  zMet (Qf := fun A => va_Qi (fun (r : Int32) => fun (u : Nat → Int32) => match u with | g => r = nI (L + 20)) (fun u t => zB D ((fun (u : Nat → Int32) => match u with | g => [(h0, .inr (0, [.ref qt, .ref qd, .ref qa, .ref qu])), (qt, .inr (1, [.ref qb, .int (nI (L + 20))])), (qb, .inl (cB, 20000, .inl g)), (qd, .inr (2, [.ref qe, .int cn, .int 0, .int fp, .ref qt]))]) u) ((fun (u : Nat → Int32) => match u with | g => [(cB, .byte)]) u) A t) A) (by decide) (Nat.le_of_ble_eq_true rfl) (fun p e s m below meth c A ls hx hb hr hml hown ht hlk hnm hA hK hP hD hX hl => by
    have hS : va_S A s.heap s.heap [] := va_S.rf
    have hl : lv_has ls 6 [(0, .ref h0), (1, .int x1), (2, .int x2), (3, .int x3), (4, .int x4), (5, .int x5)] := hl
    refine lv_aload_n hx hb d_G_feed_0 rfl (lv_at hl 0 rfl) ?_
    refine va_get (ci := 0) (C := "ZipGuard") (T := F_G) (N := 4) hx hb ht zi_G hown hK hP 0 rfl rfl 0 (by decide) (ht _ zm_395) (fun _ h9 => h9) rfl d_G_feed_1 ?_
    refine lv_bipush (v := 20) hx hb d_G_feed_4 (by decide) ?_
    refine zji (wr := [(h0, .inr (0, [.ref qt, .ref qd, .ref qa, .ref qu])), (qd, .inr (2, [.ref qe, .int cn, .int op, .int fp, .ref qt]))]) (va_runV (As := [.int 20]) (rest := []) ⟨hx, hb, hml, hown, ht⟩ (c_T_room l D _ qt qb cB f L 20 h) (cwV 1 ht (zt_goodV zm_520 zm_521 zm_522 zm_66 zm_523) rfl rfl rfl (by decide +kernel) ⟨Nat.le_of_ble_eq_true rfl, Nat.le_of_ble_eq_true rfl⟩) (zpreV zBlind_t hK hP hD [1, 2] [0] rfl (by decide) rfl (fun _ _ _ => trivial) (va_recv (q := ("ZipGuard$Tape", F_T, 2)) hK hP rfl (q0 := 1) (ci := 1) rfl)) rfl rfl hl.1 rfl (lv_room (Nat.le_of_ble_eq_true rfl)) d_G_feed_6 ⟨Nat.le_of_ble_eq_true rfl, Nat.le_of_ble_eq_true rfl⟩) hK hP hD hS hA [1, 2] [0, 3] rfl rfl (by decide) (by decide) (fun r1 u H locs hp2 hP hD hK hS => ?_)
    have hP : va_P D zcl [(h0, .inr (0, [.ref qt, .ref qd, .ref qa, .ref qu])), (qd, .inr (2, [.ref qe, .int cn, .int op, .int fp, .ref qt])), (qt, .inr (1, [.ref qb, .int (nI L)])), (qb, .inl (cB, 20000, .inl f))] H := hP
    have hD : va_D A [(h0, .inr (0, [.ref qt, .ref qd, .ref qa, .ref qu])), (qd, .inr (2, [.ref qe, .int cn, .int op, .int fp, .ref qt])), (qt, .inr (1, [.ref qb, .int (nI L)])), (qb, .inl (cB, 20000, .inl f))] := hD
    have hK : va_K D zcl [(cB, .byte), (cB, .byte)] s := hK
    subst hp2
    have hP := hP.sub (ws' := [(h0, .inr (0, [.ref qt, .ref qd, .ref qa, .ref qu])), (qt, .inr (1, [.ref qb, .int (nI L)])), (qb, .inl (cB, 20000, .inl f)), (qd, .inr (2, [.ref qe, .int cn, .int op, .int fp, .ref qt]))]) [0, 2, 3, 1] rfl
    have hD := hD.sub (ws' := [(h0, .inr (0, [.ref qt, .ref qd, .ref qa, .ref qu])), (qt, .inr (1, [.ref qb, .int (nI L)])), (qb, .inl (cB, 20000, .inl f)), (qd, .inr (2, [.ref qe, .int cn, .int op, .int fp, .ref qt]))]) [0, 2, 3, 1] (by decide) rfl
    have hK := hK.sub (tys' := [(cB, .byte)]) [0] rfl
    refine lv_if_ne (tgt := 20) hx hb d_G_feed_9 (by decide) (fun _ => ?_) (fun h => absurd h (by decide))
    refine lv_aload_n hx hb d_G_feed_20 rfl (lv_at hl 0 rfl) ?_
    refine va_get (ci := 0) (C := "ZipGuard") (T := F_G) (N := 4) hx hb ht zi_G hown hK hP 0 rfl rfl 1 (by decide) (ht _ zm_396) (fun _ h9 => h9) rfl d_G_feed_21 ?_
    refine zjv (wr := [(h0, .inr (0, [.ref qt, .ref qd, .ref qa, .ref qu])), (qt, .inr (1, [.ref qb, .int (nI L)])), (qb, .inl (cB, 20000, .inl f))]) (va_runV (As := []) (rest := []) ⟨hx, hb, hml, hown, ht⟩ (c_D_shut l D _ qd qe qt cn op fp ) (cwV 0 ht (zt_goodV zm_544 zm_545 zm_546 zm_67 zm_547) rfl rfl rfl (by decide +kernel) ⟨Nat.le_of_ble_eq_true rfl, Nat.le_of_ble_eq_true rfl⟩) (zpreV zBlind_t hK hP hD [3] [] rfl (by decide) rfl (fun _ _ _ => trivial) (va_recv (q := ("ZipGuard$Directory", F_D, 5)) hK hP rfl (q0 := 3) (ci := 2) rfl)) rfl rfl hl.1 rfl (lv_room (Nat.le_of_ble_eq_true rfl)) d_G_feed_24 ⟨Nat.le_of_ble_eq_true rfl, Nat.le_of_ble_eq_true rfl⟩) hK hP hD hS hA [3] [0, 1, 2] rfl rfl (by decide) (by decide) (fun u H locs hp5 hP hD hK hS => ?_)
    have hP : va_P D zcl [(h0, .inr (0, [.ref qt, .ref qd, .ref qa, .ref qu])), (qt, .inr (1, [.ref qb, .int (nI L)])), (qb, .inl (cB, 20000, .inl f)), (qd, .inr (2, [.ref qe, .int cn, .int 0, .int fp, .ref qt]))] H := hP
    have hD : va_D A [(h0, .inr (0, [.ref qt, .ref qd, .ref qa, .ref qu])), (qt, .inr (1, [.ref qb, .int (nI L)])), (qb, .inl (cB, 20000, .inl f)), (qd, .inr (2, [.ref qe, .int cn, .int 0, .int fp, .ref qt]))] := hD
    have hK : va_K D zcl [(cB, .byte)] s := hK
    refine lv_aload_n hx hb d_G_feed_27 rfl (lv_at hl 0 rfl) ?_
    refine va_get (ci := 0) (C := "ZipGuard") (T := F_G) (N := 4) hx hb ht zi_G hown hK hP 0 rfl rfl 0 (by decide) (ht _ zm_395) (fun _ h9 => h9) rfl d_G_feed_28 ?_
    refine lv_iload_n hx hb d_G_feed_31 rfl (lv_at hl 1 rfl) ?_
    refine zjv (wr := [(h0, .inr (0, [.ref qt, .ref qd, .ref qa, .ref qu])), (qd, .inr (2, [.ref qe, .int cn, .int 0, .int fp, .ref qt]))]) (va_runV (As := [.int x1]) (rest := []) ⟨hx, hb, hml, hown, ht⟩ (c_T_app l D _ qt qb cB f L x1 (by omega)) (cwV 1 ht (zt_goodV zm_548 zm_549 zm_550 zm_66 zm_551) rfl rfl rfl (by decide +kernel) ⟨Nat.le_of_ble_eq_true rfl, Nat.le_of_ble_eq_true rfl⟩) (zpreV zBlind_t hK hP hD [1, 2] [0] rfl (by decide) rfl (fun _ _ _ => trivial) (va_recv (q := ("ZipGuard$Tape", F_T, 2)) hK hP rfl (q0 := 1) (ci := 1) rfl)) rfl rfl hl.1 rfl (lv_room (Nat.le_of_ble_eq_true rfl)) d_G_feed_32 ⟨Nat.le_of_ble_eq_true rfl, Nat.le_of_ble_eq_true rfl⟩) hK hP hD hS hA [1, 2] [0, 3] rfl rfl (by decide) (by decide) (fun u H locs hp8 hP hD hK hS => ?_)
    obtain ⟨g6, rfl⟩ : ∃ z, z = u := ⟨u, rfl⟩
    dsimp only at hp8 hP hD hK
    have hP : va_P D zcl [(h0, .inr (0, [.ref qt, .ref qd, .ref qa, .ref qu])), (qd, .inr (2, [.ref qe, .int cn, .int 0, .int fp, .ref qt])), (qt, .inr (1, [.ref qb, .int (nI (L + 4))])), (qb, .inl (cB, 20000, .inl g6))] H := hP
    have hD : va_D A [(h0, .inr (0, [.ref qt, .ref qd, .ref qa, .ref qu])), (qd, .inr (2, [.ref qe, .int cn, .int 0, .int fp, .ref qt])), (qt, .inr (1, [.ref qb, .int (nI (L + 4))])), (qb, .inl (cB, 20000, .inl g6))] := hD
    have hK : va_K D zcl [(cB, .byte), (cB, .byte)] s := hK
    have hP := hP.sub (ws' := [(h0, .inr (0, [.ref qt, .ref qd, .ref qa, .ref qu])), (qt, .inr (1, [.ref qb, .int (nI (L + 4))])), (qb, .inl (cB, 20000, .inl g6)), (qd, .inr (2, [.ref qe, .int cn, .int 0, .int fp, .ref qt]))]) [0, 2, 3, 1] rfl
    have hD := hD.sub (ws' := [(h0, .inr (0, [.ref qt, .ref qd, .ref qa, .ref qu])), (qt, .inr (1, [.ref qb, .int (nI (L + 4))])), (qb, .inl (cB, 20000, .inl g6)), (qd, .inr (2, [.ref qe, .int cn, .int 0, .int fp, .ref qt]))]) [0, 2, 3, 1] (by decide) rfl
    have hK := hK.sub (tys' := [(cB, .byte)]) [0] rfl
    refine lv_aload_n hx hb d_G_feed_35 rfl (lv_at hl 0 rfl) ?_
    refine va_get (ci := 0) (C := "ZipGuard") (T := F_G) (N := 4) hx hb ht zi_G hown hK hP 0 rfl rfl 0 (by decide) (ht _ zm_395) (fun _ h9 => h9) rfl d_G_feed_36 ?_
    refine lv_iload_n hx hb d_G_feed_39 rfl (lv_at hl 2 rfl) ?_
    refine zjv (wr := [(h0, .inr (0, [.ref qt, .ref qd, .ref qa, .ref qu])), (qd, .inr (2, [.ref qe, .int cn, .int 0, .int fp, .ref qt]))]) (va_runV (As := [.int x2]) (rest := []) ⟨hx, hb, hml, hown, ht⟩ (c_T_app l D _ qt qb cB g6 (L + 4) x2 (by omega)) (cwV 1 ht (zt_goodV zm_548 zm_549 zm_550 zm_66 zm_551) rfl rfl rfl (by decide +kernel) ⟨Nat.le_of_ble_eq_true rfl, Nat.le_of_ble_eq_true rfl⟩) (zpreV zBlind_t hK hP hD [1, 2] [0] rfl (by decide) rfl (fun _ _ _ => trivial) (va_recv (q := ("ZipGuard$Tape", F_T, 2)) hK hP rfl (q0 := 1) (ci := 1) rfl)) rfl rfl hl.1 rfl (lv_room (Nat.le_of_ble_eq_true rfl)) d_G_feed_40 ⟨Nat.le_of_ble_eq_true rfl, Nat.le_of_ble_eq_true rfl⟩) hK hP hD hS hA [1, 2] [0, 3] rfl rfl (by decide) (by decide) (fun u H locs hp11 hP hD hK hS => ?_)
    obtain ⟨g9, rfl⟩ : ∃ z, z = u := ⟨u, rfl⟩
    dsimp only at hp11 hP hD hK
    have hP : va_P D zcl [(h0, .inr (0, [.ref qt, .ref qd, .ref qa, .ref qu])), (qd, .inr (2, [.ref qe, .int cn, .int 0, .int fp, .ref qt])), (qt, .inr (1, [.ref qb, .int (nI ((L + 4) + 4))])), (qb, .inl (cB, 20000, .inl g9))] H := hP
    have hD : va_D A [(h0, .inr (0, [.ref qt, .ref qd, .ref qa, .ref qu])), (qd, .inr (2, [.ref qe, .int cn, .int 0, .int fp, .ref qt])), (qt, .inr (1, [.ref qb, .int (nI ((L + 4) + 4))])), (qb, .inl (cB, 20000, .inl g9))] := hD
    have hK : va_K D zcl [(cB, .byte), (cB, .byte)] s := hK
    have hP := hP.sub (ws' := [(h0, .inr (0, [.ref qt, .ref qd, .ref qa, .ref qu])), (qt, .inr (1, [.ref qb, .int (nI (L + 8))])), (qb, .inl (cB, 20000, .inl g9)), (qd, .inr (2, [.ref qe, .int cn, .int 0, .int fp, .ref qt]))]) [0, 2, 3, 1] rfl
    have hD := hD.sub (ws' := [(h0, .inr (0, [.ref qt, .ref qd, .ref qa, .ref qu])), (qt, .inr (1, [.ref qb, .int (nI (L + 8))])), (qb, .inl (cB, 20000, .inl g9)), (qd, .inr (2, [.ref qe, .int cn, .int 0, .int fp, .ref qt]))]) [0, 2, 3, 1] (by decide) rfl
    have hK := hK.sub (tys' := [(cB, .byte)]) [0] rfl
    refine lv_aload_n hx hb d_G_feed_43 rfl (lv_at hl 0 rfl) ?_
    refine va_get (ci := 0) (C := "ZipGuard") (T := F_G) (N := 4) hx hb ht zi_G hown hK hP 0 rfl rfl 0 (by decide) (ht _ zm_395) (fun _ h9 => h9) rfl d_G_feed_44 ?_
    refine lv_iload_n hx hb d_G_feed_47 rfl (lv_at hl 3 rfl) ?_
    refine zjv (wr := [(h0, .inr (0, [.ref qt, .ref qd, .ref qa, .ref qu])), (qd, .inr (2, [.ref qe, .int cn, .int 0, .int fp, .ref qt]))]) (va_runV (As := [.int x3]) (rest := []) ⟨hx, hb, hml, hown, ht⟩ (c_T_app l D _ qt qb cB g9 (L + 8) x3 (by omega)) (cwV 1 ht (zt_goodV zm_548 zm_549 zm_550 zm_66 zm_551) rfl rfl rfl (by decide +kernel) ⟨Nat.le_of_ble_eq_true rfl, Nat.le_of_ble_eq_true rfl⟩) (zpreV zBlind_t hK hP hD [1, 2] [0] rfl (by decide) rfl (fun _ _ _ => trivial) (va_recv (q := ("ZipGuard$Tape", F_T, 2)) hK hP rfl (q0 := 1) (ci := 1) rfl)) rfl rfl hl.1 rfl (lv_room (Nat.le_of_ble_eq_true rfl)) d_G_feed_48 ⟨Nat.le_of_ble_eq_true rfl, Nat.le_of_ble_eq_true rfl⟩) hK hP hD hS hA [1, 2] [0, 3] rfl rfl (by decide) (by decide) (fun u H locs hp14 hP hD hK hS => ?_)
    obtain ⟨g12, rfl⟩ : ∃ z, z = u := ⟨u, rfl⟩
    dsimp only at hp14 hP hD hK
    have hP : va_P D zcl [(h0, .inr (0, [.ref qt, .ref qd, .ref qa, .ref qu])), (qd, .inr (2, [.ref qe, .int cn, .int 0, .int fp, .ref qt])), (qt, .inr (1, [.ref qb, .int (nI ((L + 8) + 4))])), (qb, .inl (cB, 20000, .inl g12))] H := hP
    have hD : va_D A [(h0, .inr (0, [.ref qt, .ref qd, .ref qa, .ref qu])), (qd, .inr (2, [.ref qe, .int cn, .int 0, .int fp, .ref qt])), (qt, .inr (1, [.ref qb, .int (nI ((L + 8) + 4))])), (qb, .inl (cB, 20000, .inl g12))] := hD
    have hK : va_K D zcl [(cB, .byte), (cB, .byte)] s := hK
    have hP := hP.sub (ws' := [(h0, .inr (0, [.ref qt, .ref qd, .ref qa, .ref qu])), (qt, .inr (1, [.ref qb, .int (nI (L + 12))])), (qb, .inl (cB, 20000, .inl g12)), (qd, .inr (2, [.ref qe, .int cn, .int 0, .int fp, .ref qt]))]) [0, 2, 3, 1] rfl
    have hD := hD.sub (ws' := [(h0, .inr (0, [.ref qt, .ref qd, .ref qa, .ref qu])), (qt, .inr (1, [.ref qb, .int (nI (L + 12))])), (qb, .inl (cB, 20000, .inl g12)), (qd, .inr (2, [.ref qe, .int cn, .int 0, .int fp, .ref qt]))]) [0, 2, 3, 1] (by decide) rfl
    have hK := hK.sub (tys' := [(cB, .byte)]) [0] rfl
    refine lv_aload_n hx hb d_G_feed_51 rfl (lv_at hl 0 rfl) ?_
    refine va_get (ci := 0) (C := "ZipGuard") (T := F_G) (N := 4) hx hb ht zi_G hown hK hP 0 rfl rfl 0 (by decide) (ht _ zm_395) (fun _ h9 => h9) rfl d_G_feed_52 ?_
    refine lv_iload hx hb d_G_feed_55 (lv_at hl 4 rfl) ?_
    refine zjv (wr := [(h0, .inr (0, [.ref qt, .ref qd, .ref qa, .ref qu])), (qd, .inr (2, [.ref qe, .int cn, .int 0, .int fp, .ref qt]))]) (va_runV (As := [.int x4]) (rest := []) ⟨hx, hb, hml, hown, ht⟩ (c_T_app l D _ qt qb cB g12 (L + 12) x4 (by omega)) (cwV 1 ht (zt_goodV zm_548 zm_549 zm_550 zm_66 zm_551) rfl rfl rfl (by decide +kernel) ⟨Nat.le_of_ble_eq_true rfl, Nat.le_of_ble_eq_true rfl⟩) (zpreV zBlind_t hK hP hD [1, 2] [0] rfl (by decide) rfl (fun _ _ _ => trivial) (va_recv (q := ("ZipGuard$Tape", F_T, 2)) hK hP rfl (q0 := 1) (ci := 1) rfl)) rfl rfl hl.1 rfl (lv_room (Nat.le_of_ble_eq_true rfl)) d_G_feed_57 ⟨Nat.le_of_ble_eq_true rfl, Nat.le_of_ble_eq_true rfl⟩) hK hP hD hS hA [1, 2] [0, 3] rfl rfl (by decide) (by decide) (fun u H locs hp17 hP hD hK hS => ?_)
    obtain ⟨g15, rfl⟩ : ∃ z, z = u := ⟨u, rfl⟩
    dsimp only at hp17 hP hD hK
    have hP : va_P D zcl [(h0, .inr (0, [.ref qt, .ref qd, .ref qa, .ref qu])), (qd, .inr (2, [.ref qe, .int cn, .int 0, .int fp, .ref qt])), (qt, .inr (1, [.ref qb, .int (nI ((L + 12) + 4))])), (qb, .inl (cB, 20000, .inl g15))] H := hP
    have hD : va_D A [(h0, .inr (0, [.ref qt, .ref qd, .ref qa, .ref qu])), (qd, .inr (2, [.ref qe, .int cn, .int 0, .int fp, .ref qt])), (qt, .inr (1, [.ref qb, .int (nI ((L + 12) + 4))])), (qb, .inl (cB, 20000, .inl g15))] := hD
    have hK : va_K D zcl [(cB, .byte), (cB, .byte)] s := hK
    have hP := hP.sub (ws' := [(h0, .inr (0, [.ref qt, .ref qd, .ref qa, .ref qu])), (qt, .inr (1, [.ref qb, .int (nI (L + 16))])), (qb, .inl (cB, 20000, .inl g15)), (qd, .inr (2, [.ref qe, .int cn, .int 0, .int fp, .ref qt]))]) [0, 2, 3, 1] rfl
    have hD := hD.sub (ws' := [(h0, .inr (0, [.ref qt, .ref qd, .ref qa, .ref qu])), (qt, .inr (1, [.ref qb, .int (nI (L + 16))])), (qb, .inl (cB, 20000, .inl g15)), (qd, .inr (2, [.ref qe, .int cn, .int 0, .int fp, .ref qt]))]) [0, 2, 3, 1] (by decide) rfl
    have hK := hK.sub (tys' := [(cB, .byte)]) [0] rfl
    refine lv_aload_n hx hb d_G_feed_60 rfl (lv_at hl 0 rfl) ?_
    refine va_get (ci := 0) (C := "ZipGuard") (T := F_G) (N := 4) hx hb ht zi_G hown hK hP 0 rfl rfl 0 (by decide) (ht _ zm_395) (fun _ h9 => h9) rfl d_G_feed_61 ?_
    refine lv_iload hx hb d_G_feed_64 (lv_at hl 5 rfl) ?_
    refine zjv (wr := [(h0, .inr (0, [.ref qt, .ref qd, .ref qa, .ref qu])), (qd, .inr (2, [.ref qe, .int cn, .int 0, .int fp, .ref qt]))]) (va_runV (As := [.int x5]) (rest := []) ⟨hx, hb, hml, hown, ht⟩ (c_T_app l D _ qt qb cB g15 (L + 16) x5 (by omega)) (cwV 1 ht (zt_goodV zm_548 zm_549 zm_550 zm_66 zm_551) rfl rfl rfl (by decide +kernel) ⟨Nat.le_of_ble_eq_true rfl, Nat.le_of_ble_eq_true rfl⟩) (zpreV zBlind_t hK hP hD [1, 2] [0] rfl (by decide) rfl (fun _ _ _ => trivial) (va_recv (q := ("ZipGuard$Tape", F_T, 2)) hK hP rfl (q0 := 1) (ci := 1) rfl)) rfl rfl hl.1 rfl (lv_room (Nat.le_of_ble_eq_true rfl)) d_G_feed_66 ⟨Nat.le_of_ble_eq_true rfl, Nat.le_of_ble_eq_true rfl⟩) hK hP hD hS hA [1, 2] [0, 3] rfl rfl (by decide) (by decide) (fun u H locs hp20 hP hD hK hS => ?_)
    obtain ⟨g18, rfl⟩ : ∃ z, z = u := ⟨u, rfl⟩
    dsimp only at hp20 hP hD hK
    have hP : va_P D zcl [(h0, .inr (0, [.ref qt, .ref qd, .ref qa, .ref qu])), (qd, .inr (2, [.ref qe, .int cn, .int 0, .int fp, .ref qt])), (qt, .inr (1, [.ref qb, .int (nI ((L + 16) + 4))])), (qb, .inl (cB, 20000, .inl g18))] H := hP
    have hD : va_D A [(h0, .inr (0, [.ref qt, .ref qd, .ref qa, .ref qu])), (qd, .inr (2, [.ref qe, .int cn, .int 0, .int fp, .ref qt])), (qt, .inr (1, [.ref qb, .int (nI ((L + 16) + 4))])), (qb, .inl (cB, 20000, .inl g18))] := hD
    have hK : va_K D zcl [(cB, .byte), (cB, .byte)] s := hK
    have hP := hP.sub (ws' := [(h0, .inr (0, [.ref qt, .ref qd, .ref qa, .ref qu])), (qt, .inr (1, [.ref qb, .int (nI (L + 20))])), (qb, .inl (cB, 20000, .inl g18)), (qd, .inr (2, [.ref qe, .int cn, .int 0, .int fp, .ref qt]))]) [0, 2, 3, 1] rfl
    have hD := hD.sub (ws' := [(h0, .inr (0, [.ref qt, .ref qd, .ref qa, .ref qu])), (qt, .inr (1, [.ref qb, .int (nI (L + 20))])), (qb, .inl (cB, 20000, .inl g18)), (qd, .inr (2, [.ref qe, .int cn, .int 0, .int fp, .ref qt]))]) [0, 2, 3, 1] (by decide) rfl
    have hK := hK.sub (tys' := [(cB, .byte)]) [0] rfl
    refine lv_aload_n hx hb d_G_feed_69 rfl (lv_at hl 0 rfl) ?_
    refine va_get (ci := 0) (C := "ZipGuard") (T := F_G) (N := 4) hx hb ht zi_G hown hK hP 0 rfl rfl 0 (by decide) (ht _ zm_395) (fun _ h9 => h9) rfl d_G_feed_70 ?_
    refine va_get (ci := 1) (C := "ZipGuard$Tape") (T := F_T) (N := 2) hx hb ht zi_T hown hK hP 1 rfl rfl 1 (by decide) (ht _ zm_98) (fun _ h9 => h9) rfl d_G_feed_73 ?_
    exact zreti hx hb hr hlk hK hP hD hS g18 [0, 1, 2, 3] [0] rfl (by decide) rfl (rfl) (Nat.le_of_ble_eq_true rfl) (Nat.le_of_ble_eq_true rfl) d_G_feed_76)
set_option maxHeartbeats 4000000 in
set_option maxRecDepth 100000 in
theorem c_T_keep (l : Launch) (D : va_G) (sz : Nat) (qt : Nat) (qb : Nat) (n0 : Int32) (n : Int32) (h0 : ¬ n < 0) (h1 : n ≤ n0) : Met l y_T_keepFirst (Cond.code y_T_keepFirst prog_6_method_4_code 2 (Option.none : Option Jvm.ClassFile.FieldType) :: zt) { frames := 0, cells := 0, slots := 0, locals := 0 } (zPc [.ref qt, .int n] D [(qt, .inr (1, [.ref qb, .int n0]))] [] sz (fun _ => True)) (va_Qv (fun (_ : Unit) => True) (fun u t => zB D ((fun (_ : Unit) => [(qt, .inr (1, [.ref qb, .int n]))]) u) ((fun (_ : Unit) => []) u) (va_A [(qt, .inr (1, [.ref qb, .int n0]))] sz) t) (va_A [(qt, .inr (1, [.ref qb, .int n0]))] sz)) 0 0 (va_A [(qt, .inr (1, [.ref qb, .int n0]))] sz) :=
  zMet (Qf := fun A => va_Qv (fun (_ : Unit) => True) (fun u t => zB D ((fun (_ : Unit) => [(qt, .inr (1, [.ref qb, .int n]))]) u) ((fun (_ : Unit) => []) u) A t) A) (by decide) (Nat.le_of_ble_eq_true rfl) (fun p e s m below meth c A ls hx hb hr hml hown ht hlk hnm hA hK hP hD hX hl => by
    have hS : va_S A s.heap s.heap [] := va_S.rf
    have hl : lv_has ls 2 [(0, .ref qt), (1, .int n)] := hl
    refine lv_iload_n hx hb d_T_keepFirst_0 rfl (lv_at hl 1 rfl) ?_
    refine lv_if_lt (tgt := 17) hx hb d_T_keepFirst_1 (by decide) (fun h => absurd h (h0)) (fun _ => ?_)
    refine lv_iload_n hx hb d_T_keepFirst_4 rfl (lv_at hl 1 rfl) ?_
    refine lv_aload_n hx hb d_T_keepFirst_5 rfl (lv_at hl 0 rfl) ?_
    refine va_get (ci := 1) (C := "ZipGuard$Tape") (T := F_T) (N := 2) hx hb ht zi_T hown hK hP 0 rfl rfl 1 (by decide) (ht _ zm_97) (fun _ h9 => h9) rfl d_T_keepFirst_6 ?_
    refine lv_icmp_gt (tgt := 17) hx hb d_T_keepFirst_9 (by decide) (fun h => absurd h (Int32.not_lt.mpr h1)) (fun _ => ?_)
    refine lv_aload_n hx hb d_T_keepFirst_12 rfl (lv_at hl 0 rfl) ?_
    refine lv_iload_n hx hb d_T_keepFirst_13 rfl (lv_at hl 1 rfl) ?_
    refine va_put (ci := 1) (v := .int n) (ty := .int) (C := "ZipGuard$Tape") (T := F_T) (N := 2) hx hb ht zi_T ty_T tk_T nm_T hown hK hP hD hS 0 rfl rfl 1 (by decide) (ht _ zm_97) (fun _ h9 => h9) rfl (by decide +kernel) rfl rfl (Nat.le_of_ble_eq_true rfl) d_T_keepFirst_14 (fun H locs hP hD hS => ?_)
    have hP : va_P D zcl [(qt, .inr (1, [.ref qb, .int n]))] H := hP
    have hD : va_D A [(qt, .inr (1, [.ref qb, .int n]))] := hD
    exact zretv hx hb hr hlk hK hP hD hS () [0] [] rfl (by decide) rfl (trivial) (Nat.le_of_ble_eq_true rfl) (Nat.le_of_ble_eq_true rfl) d_T_keepFirst_17)
set_option maxHeartbeats 4000000 in
set_option maxRecDepth 100000 in
theorem c_G_end (l : Launch) (D : va_G) (sz : Nat) (h0 : Nat) (qt : Nat) (qd : Nat) (qa : Nat) (qu : Nat) (qb : Nat) (qe : Nat) (n0 : Int32) (cn : Int32) (op : Int32) (fp : Int32) (n : Int32) (ha : ¬ n < 0) (hb1 : n ≤ n0) : Met l y_G_end (Cond.code y_G_end prog_1_method_3_code 2 (Option.none : Option Jvm.ClassFile.FieldType) :: zt) { frames := 1, cells := 0, slots := 0, locals := 21 } (zPc [.ref h0, .int n] D [(h0, .inr (0, [.ref qt, .ref qd, .ref qa, .ref qu])), (qt, .inr (1, [.ref qb, .int n0])), (qd, .inr (2, [.ref qe, .int cn, .int op, .int fp, .ref qt]))] [] sz (fun _ => True)) (va_Qv (fun (_ : Unit) => True) (fun u t => zB D ((fun (_ : Unit) => [(h0, .inr (0, [.ref qt, .ref qd, .ref qa, .ref qu])), (qt, .inr (1, [.ref qb, .int n])), (qd, .inr (2, [.ref qe, .int cn, .int 0, .int fp, .ref qt]))]) u) ((fun (_ : Unit) => []) u) (va_A [(h0, .inr (0, [.ref qt, .ref qd, .ref qa, .ref qu])), (qt, .inr (1, [.ref qb, .int n0])), (qd, .inr (2, [.ref qe, .int cn, .int op, .int fp, .ref qt]))] sz) t) (va_A [(h0, .inr (0, [.ref qt, .ref qd, .ref qa, .ref qu])), (qt, .inr (1, [.ref qb, .int n0])), (qd, .inr (2, [.ref qe, .int cn, .int op, .int fp, .ref qt]))] sz)) 0 0 (va_A [(h0, .inr (0, [.ref qt, .ref qd, .ref qa, .ref qu])), (qt, .inr (1, [.ref qb, .int n0])), (qd, .inr (2, [.ref qe, .int cn, .int op, .int fp, .ref qt]))] sz) :=
  zMet (Qf := fun A => va_Qv (fun (_ : Unit) => True) (fun u t => zB D ((fun (_ : Unit) => [(h0, .inr (0, [.ref qt, .ref qd, .ref qa, .ref qu])), (qt, .inr (1, [.ref qb, .int n])), (qd, .inr (2, [.ref qe, .int cn, .int 0, .int fp, .ref qt]))]) u) ((fun (_ : Unit) => []) u) A t) A) (by decide) (Nat.le_of_ble_eq_true rfl) (fun p e s m below meth c A ls hx hb hr hml hown ht hlk hnm hA hK hP hD hX hl => by
    have hS : va_S A s.heap s.heap [] := va_S.rf
    have hl : lv_has ls 2 [(0, .ref h0), (1, .int n)] := hl
    refine lv_iload_n hx hb d_G_end_0 rfl (lv_at hl 1 rfl) ?_
    refine lv_if_lt (tgt := 15) hx hb d_G_end_1 (by decide) (fun h => absurd h (ha)) (fun _ => ?_)
    refine lv_iload_n hx hb d_G_end_4 rfl (lv_at hl 1 rfl) ?_
    refine lv_aload_n hx hb d_G_end_5 rfl (lv_at hl 0 rfl) ?_
    refine va_get (ci := 0) (C := "ZipGuard") (T := F_G) (N := 4) hx hb ht zi_G hown hK hP 0 rfl rfl 0 (by decide) (ht _ zm_395) (fun _ h9 => h9) rfl d_G_end_6 ?_
    refine va_get (ci := 1) (C := "ZipGuard$Tape") (T := F_T) (N := 2) hx hb ht zi_T hown hK hP 1 rfl rfl 1 (by decide) (ht _ zm_98) (fun _ h9 => h9) rfl d_G_end_9 ?_
    refine lv_icmp_le (tgt := 23) hx hb d_G_end_12 (by decide) (fun _ => ?_) (fun h => absurd (hb1) h)
    refine lv_aload_n hx hb d_G_end_23 rfl (lv_at hl 0 rfl) ?_
    refine va_get (ci := 0) (C := "ZipGuard") (T := F_G) (N := 4) hx hb ht zi_G hown hK hP 0 rfl rfl 1 (by decide) (ht _ zm_396) (fun _ h9 => h9) rfl d_G_end_24 ?_
    refine zjv (wr := [(h0, .inr (0, [.ref qt, .ref qd, .ref qa, .ref qu])), (qt, .inr (1, [.ref qb, .int n0]))]) (va_runV (As := []) (rest := []) ⟨hx, hb, hml, hown, ht⟩ (c_D_shut l D _ qd qe qt cn op fp ) (cwV 0 ht (zt_goodV zm_544 zm_545 zm_546 zm_67 zm_547) rfl rfl rfl (by decide +kernel) ⟨Nat.le_of_ble_eq_true rfl, Nat.le_of_ble_eq_true rfl⟩) (zpreV zBlind_t hK hP hD [2] [] rfl (by decide) rfl (fun _ _ _ => trivial) (va_recv (q := ("ZipGuard$Directory", F_D, 5)) hK hP rfl (q0 := 2) (ci := 2) rfl)) rfl rfl hl.1 rfl (lv_room (Nat.le_of_ble_eq_true rfl)) d_G_end_27 ⟨Nat.le_of_ble_eq_true rfl, Nat.le_of_ble_eq_true rfl⟩) hK hP hD hS hA [2] [0, 1] rfl rfl (by decide) (by decide) (fun u H locs hp4 hP hD hK hS => ?_)
    have hP : va_P D zcl [(h0, .inr (0, [.ref qt, .ref qd, .ref qa, .ref qu])), (qt, .inr (1, [.ref qb, .int n0])), (qd, .inr (2, [.ref qe, .int cn, .int 0, .int fp, .ref qt]))] H := hP
    have hD : va_D A [(h0, .inr (0, [.ref qt, .ref qd, .ref qa, .ref qu])), (qt, .inr (1, [.ref qb, .int n0])), (qd, .inr (2, [.ref qe, .int cn, .int 0, .int fp, .ref qt]))] := hD
    have hK : va_K D zcl [] s := hK
    refine lv_aload_n hx hb d_G_end_30 rfl (lv_at hl 0 rfl) ?_
    refine va_get (ci := 0) (C := "ZipGuard") (T := F_G) (N := 4) hx hb ht zi_G hown hK hP 0 rfl rfl 0 (by decide) (ht _ zm_395) (fun _ h9 => h9) rfl d_G_end_31 ?_
    refine lv_iload_n hx hb d_G_end_34 rfl (lv_at hl 1 rfl) ?_
    refine zjv (wr := [(h0, .inr (0, [.ref qt, .ref qd, .ref qa, .ref qu])), (qd, .inr (2, [.ref qe, .int cn, .int 0, .int fp, .ref qt]))]) (va_runV (As := [.int n]) (rest := []) ⟨hx, hb, hml, hown, ht⟩ (c_T_keep l D _ qt qb n0 n ha hb1) (cwV 1 ht (zt_goodV zm_566 zm_567 zm_568 zm_66 zm_569) rfl rfl rfl (by decide +kernel) ⟨Nat.le_of_ble_eq_true rfl, Nat.le_of_ble_eq_true rfl⟩) (zpreV zBlind_t hK hP hD [1] [] rfl (by decide) rfl (fun _ _ _ => trivial) (va_recv (q := ("ZipGuard$Tape", F_T, 2)) hK hP rfl (q0 := 1) (ci := 1) rfl)) rfl rfl hl.1 rfl (lv_room (Nat.le_of_ble_eq_true rfl)) d_G_end_35 ⟨Nat.le_of_ble_eq_true rfl, Nat.le_of_ble_eq_true rfl⟩) hK hP hD hS hA [1] [0, 2] rfl rfl (by decide) (by decide) (fun u H locs hp6 hP hD hK hS => ?_)
    have hP : va_P D zcl [(h0, .inr (0, [.ref qt, .ref qd, .ref qa, .ref qu])), (qd, .inr (2, [.ref qe, .int cn, .int 0, .int fp, .ref qt])), (qt, .inr (1, [.ref qb, .int n]))] H := hP
    have hD : va_D A [(h0, .inr (0, [.ref qt, .ref qd, .ref qa, .ref qu])), (qd, .inr (2, [.ref qe, .int cn, .int 0, .int fp, .ref qt])), (qt, .inr (1, [.ref qb, .int n]))] := hD
    have hK : va_K D zcl [] s := hK
    exact zretv hx hb hr hlk hK hP hD hS () [0, 2, 1] [] rfl (by decide) rfl (trivial) (Nat.le_of_ble_eq_true rfl) (Nat.le_of_ble_eq_true rfl) d_G_end_38)
set_option maxHeartbeats 4000000 in
set_option maxRecDepth 100000 in
theorem c_G_endX (l : Launch) (D : va_G) (sz : Nat) (h0 : Nat) (qt : Nat) (qd : Nat) (qa : Nat) (qu : Nat) (qb : Nat) (qe : Nat) (n0 : Int32) (cn : Int32) (op : Int32) (fp : Int32) (n : Int32) (hl9 : l.stackTraces = false) (hbad : n < 0 ∨ ¬ n ≤ n0) : zTh l y_G_end (Cond.code y_G_end prog_1_method_3_code 2 (Option.none : Option Jvm.ClassFile.FieldType) :: zt) { frames := 6, cells := 1, slots := 6, locals := 90 } (zPc [.ref h0, .int n] D [(h0, .inr (0, [.ref qt, .ref qd, .ref qa, .ref qu])), (qt, .inr (1, [.ref qb, .int n0])), (qd, .inr (2, [.ref qe, .int cn, .int op, .int fp, .ref qt]))] [] sz (zG)) "java/lang/IllegalArgumentException" 1 6 :=
  zTh_of (by decide) (Nat.le_of_ble_eq_true rfl) (fun p e s m below meth c A ls hx hb hr hml hown ht hlk hno hA hK hP hD hX hl => by
    have hS : va_S A s.heap s.heap [] := va_S.rf
    have hl : lv_has ls 2 [(0, .ref h0), (1, .int n)] := hl
    refine lv_iload_n hx hb d_G_end_0 rfl (lv_at hl 1 rfl) ?_
    refine lv_if_lt (tgt := 15) hx hb d_G_end_1 (by decide) (fun hc1 => ?_) (fun hc1 => ?_)
    · skip
      exact zthrow (cls := zIAE) (names := zUP) (ik := 59) (ic := 61) (rest := []) hx hb hl9 hown (by decide) (by decide) (ht _ zm_561) (ht _ zm_77) (zhat zkey_IAE ht hX) (hl.1.trans hml.symm) d_G_end_15 d_G_end_18 d_G_end_19 d_G_end_22 hno (Nat.le_of_ble_eq_true rfl) (Nat.le_of_ble_eq_true rfl) (Nat.le_of_ble_eq_true rfl) (Nat.le_of_ble_eq_true rfl) hlk (Nat.le_of_ble_eq_true rfl) (Nat.le_of_ble_eq_true rfl)
    · skip
      refine lv_iload_n hx hb d_G_end_4 rfl (lv_at hl 1 rfl) ?_
      refine lv_aload_n hx hb d_G_end_5 rfl (lv_at hl 0 rfl) ?_
      refine va_get (ci := 0) (C := "ZipGuard") (T := F_G) (N := 4) hx hb ht zi_G hown hK hP 0 rfl rfl 0 (by decide) (ht _ zm_395) (fun _ h9 => h9) rfl d_G_end_6 ?_
      refine va_get (ci := 1) (C := "ZipGuard$Tape") (T := F_T) (N := 2) hx hb ht zi_T hown hK hP 1 rfl rfl 1 (by decide) (ht _ zm_98) (fun _ h9 => h9) rfl d_G_end_9 ?_
      refine lv_icmp_le (tgt := 23) hx hb d_G_end_12 (by decide) (fun h => absurd h (hbad.resolve_left hc1)) (fun _ => ?_)
      exact zthrow (cls := zIAE) (names := zUP) (ik := 59) (ic := 61) (rest := []) hx hb hl9 hown (by decide) (by decide) (ht _ zm_561) (ht _ zm_77) (zhat zkey_IAE ht hX) (hl.1.trans hml.symm) d_G_end_15 d_G_end_18 d_G_end_19 d_G_end_22 hno (Nat.le_of_ble_eq_true rfl) (Nat.le_of_ble_eq_true rfl) (Nat.le_of_ble_eq_true rfl) (Nat.le_of_ble_eq_true rfl) hlk (Nat.le_of_ble_eq_true rfl) (Nat.le_of_ble_eq_true rfl))
set_option maxHeartbeats 4000000 in
set_option maxRecDepth 100000 in
theorem c_G_alterX (l : Launch) (D : va_G) (sz : Nat) (h0 : Nat) (qt : Nat) (qd : Nat) (qa : Nat) (qu : Nat) (qb : Nat) (n0 : Int32) (n : Int32) (y : Int32) (hl9 : l.stackTraces = false) (hbad : n < 0 ∨ ¬ n < n0) : zTh l y_G_alter (Cond.code y_G_alter prog_1_method_4_code 3 (Option.some Jvm.ClassFile.FieldType.int) :: zt) { frames := 6, cells := 1, slots := 6, locals := 90 } (zPc [.ref h0, .int n, .int y] D [(h0, .inr (0, [.ref qt, .ref qd, .ref qa, .ref qu])), (qt, .inr (1, [.ref qb, .int n0]))] [] sz (zG)) "java/lang/IndexOutOfBoundsException" 1 6 :=
  zTh_of (by decide) (Nat.le_of_ble_eq_true rfl) (fun p e s m below meth c A ls hx hb hr hml hown ht hlk hno hA hK hP hD hX hl => by
    have hS : va_S A s.heap s.heap [] := va_S.rf
    have hl : lv_has ls 3 [(0, .ref h0), (1, .int n), (2, .int y)] := hl
    refine lv_iload_n hx hb d_G_alter_0 rfl (lv_at hl 1 rfl) ?_
    refine lv_if_lt (tgt := 15) hx hb d_G_alter_1 (by decide) (fun hc1 => ?_) (fun hc1 => ?_)
    · skip
      exact zthrow (cls := zIOB) (names := zUP) (ik := 65) (ic := 67) (rest := []) hx hb hl9 hown (by decide) (by decide) (ht _ zm_578) (ht _ zm_78) (zhat zkey_IOB ht hX) (hl.1.trans hml.symm) d_G_alter_15 d_G_alter_18 d_G_alter_19 d_G_alter_22 hno (Nat.le_of_ble_eq_true rfl) (Nat.le_of_ble_eq_true rfl) (Nat.le_of_ble_eq_true rfl) (Nat.le_of_ble_eq_true rfl) hlk (Nat.le_of_ble_eq_true rfl) (Nat.le_of_ble_eq_true rfl)
    · skip
      refine lv_iload_n hx hb d_G_alter_4 rfl (lv_at hl 1 rfl) ?_
      refine lv_aload_n hx hb d_G_alter_5 rfl (lv_at hl 0 rfl) ?_
      refine va_get (ci := 0) (C := "ZipGuard") (T := F_G) (N := 4) hx hb ht zi_G hown hK hP 0 rfl rfl 0 (by decide) (ht _ zm_395) (fun _ h9 => h9) rfl d_G_alter_6 ?_
      refine va_get (ci := 1) (C := "ZipGuard$Tape") (T := F_T) (N := 2) hx hb ht zi_T hown hK hP 1 rfl rfl 1 (by decide) (ht _ zm_98) (fun _ h9 => h9) rfl d_G_alter_9 ?_
      refine lv_icmp_lt (tgt := 23) hx hb d_G_alter_12 (by decide) (fun h => absurd h (hbad.resolve_left hc1)) (fun _ => ?_)
      exact zthrow (cls := zIOB) (names := zUP) (ik := 65) (ic := 67) (rest := []) hx hb hl9 hown (by decide) (by decide) (ht _ zm_578) (ht _ zm_78) (zhat zkey_IOB ht hX) (hl.1.trans hml.symm) d_G_alter_15 d_G_alter_18 d_G_alter_19 d_G_alter_22 hno (Nat.le_of_ble_eq_true rfl) (Nat.le_of_ble_eq_true rfl) (Nat.le_of_ble_eq_true rfl) (Nat.le_of_ble_eq_true rfl) hlk (Nat.le_of_ble_eq_true rfl) (Nat.le_of_ble_eq_true rfl))
set_option maxHeartbeats 4000000 in
set_option maxRecDepth 100000 in
theorem c_D_fault (l : Launch) (D : va_G) (sz : Nat) (qd : Nat) (qe : Nat) (qt : Nat) (cn : Int32) (op : Int32) (fp : Int32) (x : Int32) (y : Int32)  : Met l y_D_faultAt (Cond.code y_D_faultAt prog_4_method_4_code 3 (Option.some Jvm.ClassFile.FieldType.int) :: zt) { frames := 0, cells := 0, slots := 0, locals := 0 } (zPc [.ref qd, .int x, .int y] D [(qd, .inr (2, [.ref qe, .int cn, .int op, .int fp, .ref qt]))] [] sz (fun _ => True)) (va_Qi (fun (r : Int32) => fun (_ : Unit) => r = x) (fun u t => zB D ((fun (_ : Unit) => [(qd, .inr (2, [.ref qe, .int cn, .int op, .int y, .ref qt]))]) u) ((fun (_ : Unit) => []) u) (va_A [(qd, .inr (2, [.ref qe, .int cn, .int op, .int fp, .ref qt]))] sz) t) (va_A [(qd, .inr (2, [.ref qe, .int cn, .int op, .int fp, .ref qt]))] sz)) 0 0 (va_A [(qd, .inr (2, [.ref qe, .int cn, .int op, .int fp, .ref qt]))] sz) :=
  zMet (Qf := fun A => va_Qi (fun (r : Int32) => fun (_ : Unit) => r = x) (fun u t => zB D ((fun (_ : Unit) => [(qd, .inr (2, [.ref qe, .int cn, .int op, .int y, .ref qt]))]) u) ((fun (_ : Unit) => []) u) A t) A) (by decide) (Nat.le_of_ble_eq_true rfl) (fun p e s m below meth c A ls hx hb hr hml hown ht hlk hnm hA hK hP hD hX hl => by
    have hS : va_S A s.heap s.heap [] := va_S.rf
    have hl : lv_has ls 3 [(0, .ref qd), (1, .int x), (2, .int y)] := hl
    refine lv_aload_n hx hb d_D_faultAt_0 rfl (lv_at hl 0 rfl) ?_
    refine lv_iload_n hx hb d_D_faultAt_1 rfl (lv_at hl 2 rfl) ?_
    refine va_put (ci := 2) (v := .int y) (ty := .int) (C := "ZipGuard$Directory") (T := F_D) (N := 5) hx hb ht zi_D ty_D tk_D nm_D hown hK hP hD hS 0 rfl rfl 3 (by decide) (ht _ zm_185) (fun _ h9 => h9) rfl (by decide +kernel) rfl rfl (Nat.le_of_ble_eq_true rfl) d_D_faultAt_2 (fun H locs hP hD hS => ?_)
    have hP : va_P D zcl [(qd, .inr (2, [.ref qe, .int cn, .int op, .int y, .ref qt]))] H := hP
    have hD : va_D A [(qd, .inr (2, [.ref qe, .int cn, .int op, .int y, .ref qt]))] := hD
    refine lv_iload_n hx hb d_D_faultAt_5 rfl (lv_at hl 1 rfl) ?_
    exact zreti hx hb hr hlk hK hP hD hS () [0] [] rfl (by decide) rfl (rfl) (Nat.le_of_ble_eq_true rfl) (Nat.le_of_ble_eq_true rfl) d_D_faultAt_6)
set_option maxHeartbeats 4000000 in
set_option maxRecDepth 100000 in
theorem c_D_find0 (l : Launch) (D : va_G) (sz : Nat) (qd : Nat) (qe : Nat) (qt : Nat) (qb : Nat) (cn : Int32) (op : Int32) (fp : Int32)  : Met l y_D_findEnd (Cond.code y_D_findEnd prog_4_method_5_code 2 (Option.some Jvm.ClassFile.FieldType.int) :: zt) { frames := 0, cells := 0, slots := 0, locals := 0 } (zPc [.ref qd] D [(qd, .inr (2, [.ref qe, .int cn, .int op, .int fp, .ref qt])), (qt, .inr (1, [.ref qb, .int 0]))] [] sz (fun _ => True)) (va_Qi (fun (r : Int32) => fun (_ : Unit) => r = -1) (fun u t => zB D ((fun (_ : Unit) => [(qd, .inr (2, [.ref qe, .int cn, .int op, .int fp, .ref qt])), (qt, .inr (1, [.ref qb, .int 0]))]) u) ((fun (_ : Unit) => []) u) (va_A [(qd, .inr (2, [.ref qe, .int cn, .int op, .int fp, .ref qt])), (qt, .inr (1, [.ref qb, .int 0]))] sz) t) (va_A [(qd, .inr (2, [.ref qe, .int cn, .int op, .int fp, .ref qt])), (qt, .inr (1, [.ref qb, .int 0]))] sz)) 0 0 (va_A [(qd, .inr (2, [.ref qe, .int cn, .int op, .int fp, .ref qt])), (qt, .inr (1, [.ref qb, .int 0]))] sz) :=
  zMet (Qf := fun A => va_Qi (fun (r : Int32) => fun (_ : Unit) => r = -1) (fun u t => zB D ((fun (_ : Unit) => [(qd, .inr (2, [.ref qe, .int cn, .int op, .int fp, .ref qt])), (qt, .inr (1, [.ref qb, .int 0]))]) u) ((fun (_ : Unit) => []) u) A t) A) (by decide) (Nat.le_of_ble_eq_true rfl) (fun p e s m below meth c A ls hx hb hr hml hown ht hlk hnm hA hK hP hD hX hl => by
    have hS : va_S A s.heap s.heap [] := va_S.rf
    have hl : lv_has ls 2 [(0, .ref qd)] := hl
    refine lv_aload_n hx hb d_D_findEnd_0 rfl (lv_at hl 0 rfl) ?_
    refine va_get (ci := 2) (C := "ZipGuard$Directory") (T := F_D) (N := 5) hx hb ht zi_D hown hK hP 0 rfl rfl 4 (by decide) (ht _ zm_187) (fun _ h9 => h9) rfl d_D_findEnd_1 ?_
    refine va_get (ci := 1) (C := "ZipGuard$Tape") (T := F_T) (N := 2) hx hb ht zi_T hown hK hP 1 rfl rfl 1 (by decide) (ht _ zm_99) (fun _ h9 => h9) rfl d_D_findEnd_4 ?_
    refine lv_bipush (v := 22) hx hb d_D_findEnd_7 (by decide) ?_
    refine lv_isub hx hb d_D_findEnd_9 ?_
    refine lv_topi (fun z1 e_z1 => ?_)
    have e_z1 : z1 = (-22) := e_z1.trans (by decide)
    subst e_z1
    refine lv_istore_n (lv' := [(1, .int (-22)), (0, .ref qd)]) hx hb d_D_findEnd_10 rfl hl (by decide) rfl (fun ls hl => ?_)
    refine lv_iload_n hx hb d_D_findEnd_11 rfl (lv_at hl 0 rfl) ?_
    refine lv_if_lt (tgt := 63) hx hb d_D_findEnd_12 (by decide) (fun _ => ?_) (fun h => absurd (by decide) h)
    refine lv_iconst (v := (-1)) hx hb d_D_findEnd_63 (by decide) ?_
    exact zreti hx hb hr hlk hK hP hD hS () [0, 1] [] rfl (by decide) rfl (rfl) (Nat.le_of_ble_eq_true rfl) (Nat.le_of_ble_eq_true rfl) d_D_findEnd_64)
set_option maxHeartbeats 4000000 in
set_option maxRecDepth 100000 in
theorem c_D_read0 (l : Launch) (D : va_G) (sz : Nat) (qd : Nat) (qe : Nat) (qt : Nat) (qb : Nat) (cn : Int32) (op : Int32) (fp : Int32)  : Met l y_D_read (Cond.code y_D_read prog_4_method_3_code 3 (Option.some Jvm.ClassFile.FieldType.int) :: zt) { frames := 1, cells := 0, slots := 0, locals := 22 } (zPc [.ref qd] D [(qd, .inr (2, [.ref qe, .int cn, .int op, .int fp, .ref qt])), (qt, .inr (1, [.ref qb, .int 0]))] [] sz (fun _ => True)) (va_Qi (fun (r : Int32) => fun (_ : Unit) => r = -1) (fun u t => zB D ((fun (_ : Unit) => [(qd, .inr (2, [.ref qe, .int cn, .int 0, .int 0, .ref qt])), (qt, .inr (1, [.ref qb, .int 0]))]) u) ((fun (_ : Unit) => []) u) (va_A [(qd, .inr (2, [.ref qe, .int cn, .int op, .int fp, .ref qt])), (qt, .inr (1, [.ref qb, .int 0]))] sz) t) (va_A [(qd, .inr (2, [.ref qe, .int cn, .int op, .int fp, .ref qt])), (qt, .inr (1, [.ref qb, .int 0]))] sz)) 0 0 (va_A [(qd, .inr (2, [.ref qe, .int cn, .int op, .int fp, .ref qt])), (qt, .inr (1, [.ref qb, .int 0]))] sz) :=
  zMet (Qf := fun A => va_Qi (fun (r : Int32) => fun (_ : Unit) => r = -1) (fun u t => zB D ((fun (_ : Unit) => [(qd, .inr (2, [.ref qe, .int cn, .int 0, .int 0, .ref qt])), (qt, .inr (1, [.ref qb, .int 0]))]) u) ((fun (_ : Unit) => []) u) A t) A) (by decide) (Nat.le_of_ble_eq_true rfl) (fun p e s m below meth c A ls hx hb hr hml hown ht hlk hnm hA hK hP hD hX hl => by
    have hS : va_S A s.heap s.heap [] := va_S.rf
    have hl : lv_has ls 3 [(0, .ref qd)] := hl
    refine lv_aload_n hx hb d_D_read_0 rfl (lv_at hl 0 rfl) ?_
    refine lv_iconst (v := 0) hx hb d_D_read_1 (by decide) ?_
    refine va_put (ci := 2) (v := .int 0) (ty := .boolean) (C := "ZipGuard$Directory") (T := F_D) (N := 5) hx hb ht zi_D ty_D tk_D nm_D hown hK hP hD hS 0 rfl rfl 2 (by decide) (ht _ zm_183) (fun _ h9 => h9) rfl (by decide +kernel) rfl rfl (Nat.le_of_ble_eq_true rfl) d_D_read_2 (fun H locs hP hD hS => ?_)
    have hP : va_P D zcl [(qd, .inr (2, [.ref qe, .int cn, .int 0, .int fp, .ref qt])), (qt, .inr (1, [.ref qb, .int 0]))] H := hP
    have hD : va_D A [(qd, .inr (2, [.ref qe, .int cn, .int 0, .int fp, .ref qt])), (qt, .inr (1, [.ref qb, .int 0]))] := hD
    refine lv_aload_n hx hb d_D_read_5 rfl (lv_at hl 0 rfl) ?_
    refine lv_iconst (v := (-1)) hx hb d_D_read_6 (by decide) ?_
    refine va_put (ci := 2) (v := .int (-1)) (ty := .int) (C := "ZipGuard$Directory") (T := F_D) (N := 5) hx hb ht zi_D ty_D tk_D nm_D hown hK hP hD hS 0 rfl rfl 3 (by decide) (ht _ zm_185) (fun _ h9 => h9) rfl (by decide +kernel) rfl rfl (Nat.le_of_ble_eq_true rfl) d_D_read_7 (fun H locs hP hD hS => ?_)
    have hP : va_P D zcl [(qd, .inr (2, [.ref qe, .int cn, .int 0, .int (-1), .ref qt])), (qt, .inr (1, [.ref qb, .int 0]))] H := hP
    have hD : va_D A [(qd, .inr (2, [.ref qe, .int cn, .int 0, .int (-1), .ref qt])), (qt, .inr (1, [.ref qb, .int 0]))] := hD
    refine lv_aload_n hx hb d_D_read_10 rfl (lv_at hl 0 rfl) ?_
    refine zji (wr := []) (va_runV (As := []) (rest := []) ⟨hx, hb, hml, hown, ht⟩ (c_D_find0 l D _ qd qe qt qb cn 0 (-1) ) (cwV 0 ht (zt_goodV zm_420 zm_421 zm_2 zm_67 zm_422) rfl rfl rfl (by decide +kernel) ⟨Nat.le_of_ble_eq_true rfl, Nat.le_of_ble_eq_true rfl⟩) (zpreV zBlind_t hK hP hD [0, 1] [] rfl (by decide) rfl (fun _ _ _ => trivial) (va_recv (q := ("ZipGuard$Directory", F_D, 5)) hK hP rfl (q0 := 0) (ci := 2) rfl)) rfl rfl hl.1 rfl (lv_room (Nat.le_of_ble_eq_true rfl)) d_D_read_11 ⟨Nat.le_of_ble_eq_true rfl, Nat.le_of_ble_eq_true rfl⟩) hK hP hD hS hA [0, 1] [] rfl rfl (by decide) (by decide) (fun r1 u H locs hp2 hP hD hK hS => ?_)
    have hP : va_P D zcl [(qd, .inr (2, [.ref qe, .int cn, .int 0, .int (-1), .ref qt])), (qt, .inr (1, [.ref qb, .int 0]))] H := hP
    have hD : va_D A [(qd, .inr (2, [.ref qe, .int cn, .int 0, .int (-1), .ref qt])), (qt, .inr (1, [.ref qb, .int 0]))] := hD
    have hK : va_K D zcl [] s := hK
    subst hp2
    refine lv_istore_n (lv' := [(1, .int (-1)), (0, .ref qd)]) hx hb d_D_read_14 rfl hl (by decide) rfl (fun ls hl => ?_)
    refine lv_iload_n hx hb d_D_read_15 rfl (lv_at hl 0 rfl) ?_
    refine lv_if_ge (tgt := 34) hx hb d_D_read_16 (by decide) (fun h => absurd h (by decide)) (fun _ => ?_)
    refine lv_aload_n hx hb d_D_read_19 rfl (lv_at hl 1 rfl) ?_
    refine lv_iconst (v := (-1)) hx hb d_D_read_20 (by decide) ?_
    refine lv_aload_n hx hb d_D_read_21 rfl (lv_at hl 1 rfl) ?_
    refine va_get (ci := 2) (C := "ZipGuard$Directory") (T := F_D) (N := 5) hx hb ht zi_D hown hK hP 0 rfl rfl 4 (by decide) (ht _ zm_187) (fun _ h9 => h9) rfl d_D_read_22 ?_
    refine va_get (ci := 1) (C := "ZipGuard$Tape") (T := F_T) (N := 2) hx hb ht zi_T hown hK hP 1 rfl rfl 1 (by decide) (ht _ zm_99) (fun _ h9 => h9) rfl d_D_read_25 ?_
    refine zji (wr := [(qt, .inr (1, [.ref qb, .int 0]))]) (va_runV (As := [.int (-1), .int 0]) (rest := []) ⟨hx, hb, hml, hown, ht⟩ (c_D_fault l D _ qd qe qt cn 0 (-1) (-1) 0 ) (cwV 2 ht (zt_goodV zm_435 zm_436 zm_3 zm_67 zm_437) rfl rfl rfl (by decide +kernel) ⟨Nat.le_of_ble_eq_true rfl, Nat.le_of_ble_eq_true rfl⟩) (zpreV zBlind_t hK hP hD [0] [] rfl (by decide) rfl (fun _ _ _ => trivial) (va_recv (q := ("ZipGuard$Directory", F_D, 5)) hK hP rfl (q0 := 0) (ci := 2) rfl)) rfl rfl hl.1 rfl (lv_room (Nat.le_of_ble_eq_true rfl)) d_D_read_28 ⟨Nat.le_of_ble_eq_true rfl, Nat.le_of_ble_eq_true rfl⟩) hK hP hD hS hA [0] [1] rfl rfl (by decide) (by decide) (fun r4 u H locs hp5 hP hD hK hS => ?_)
    have hP : va_P D zcl [(qt, .inr (1, [.ref qb, .int 0])), (qd, .inr (2, [.ref qe, .int cn, .int 0, .int 0, .ref qt]))] H := hP
    have hD : va_D A [(qt, .inr (1, [.ref qb, .int 0])), (qd, .inr (2, [.ref qe, .int cn, .int 0, .int 0, .ref qt]))] := hD
    have hK : va_K D zcl [] s := hK
    subst hp5
    refine lv_goto (tgt := 39) hx hb d_D_read_31 (by decide) ?_
    refine lv_istore_n (lv' := [(2, .int (-1)), (1, .int (-1)), (0, .ref qd)]) hx hb d_D_read_39 rfl hl (by decide) rfl (fun ls hl => ?_)
    refine lv_iload_n hx hb d_D_read_40 rfl (lv_at hl 0 rfl) ?_
    refine lv_if_ge (tgt := 46) hx hb d_D_read_41 (by decide) (fun h => absurd h (by decide)) (fun _ => ?_)
    refine lv_iload_n hx hb d_D_read_44 rfl (lv_at hl 0 rfl) ?_
    exact zreti hx hb hr hlk hK hP hD hS () [1, 0] [] rfl (by decide) rfl (rfl) (Nat.le_of_ble_eq_true rfl) (Nat.le_of_ble_eq_true rfl) d_D_read_45)
set_option maxHeartbeats 4000000 in
set_option maxRecDepth 100000 in
theorem c_G_open0 (l : Launch) (D : va_G) (sz : Nat) (h0 : Nat) (qt : Nat) (qd : Nat) (qa : Nat) (qu : Nat) (qb : Nat) (qe : Nat) (qo : Nat) (cn : Int32) (op : Int32) (fp : Int32) (bu : Int32) (ra : Int32) (to : Int32) (rs : Int32)  : Met l y_G_open (Cond.code y_G_open prog_1_method_5_code 1 (Option.some Jvm.ClassFile.FieldType.int) :: zt) { frames := 2, cells := 0, slots := 0, locals := 44 } (zPc [.ref h0] D [(h0, .inr (0, [.ref qt, .ref qd, .ref qa, .ref qu])), (qt, .inr (1, [.ref qb, .int 0])), (qd, .inr (2, [.ref qe, .int cn, .int op, .int fp, .ref qt])), (qa, .inr (3, [.int bu, .int ra, .int to, .ref qo, .int rs]))] [] sz (fun _ => True)) (va_Qi (fun (r : Int32) => fun (_ : Unit) => r = -1) (fun u t => zB D ((fun (_ : Unit) => [(h0, .inr (0, [.ref qt, .ref qd, .ref qa, .ref qu])), (qt, .inr (1, [.ref qb, .int 0])), (qd, .inr (2, [.ref qe, .int cn, .int 0, .int 0, .ref qt])), (qa, .inr (3, [.int bu, .int ra, .int 0, .ref qo, .int rs]))]) u) ((fun (_ : Unit) => []) u) (va_A [(h0, .inr (0, [.ref qt, .ref qd, .ref qa, .ref qu])), (qt, .inr (1, [.ref qb, .int 0])), (qd, .inr (2, [.ref qe, .int cn, .int op, .int fp, .ref qt])), (qa, .inr (3, [.int bu, .int ra, .int to, .ref qo, .int rs]))] sz) t) (va_A [(h0, .inr (0, [.ref qt, .ref qd, .ref qa, .ref qu])), (qt, .inr (1, [.ref qb, .int 0])), (qd, .inr (2, [.ref qe, .int cn, .int op, .int fp, .ref qt])), (qa, .inr (3, [.int bu, .int ra, .int to, .ref qo, .int rs]))] sz)) 0 0 (va_A [(h0, .inr (0, [.ref qt, .ref qd, .ref qa, .ref qu])), (qt, .inr (1, [.ref qb, .int 0])), (qd, .inr (2, [.ref qe, .int cn, .int op, .int fp, .ref qt])), (qa, .inr (3, [.int bu, .int ra, .int to, .ref qo, .int rs]))] sz) :=
  zMet (Qf := fun A => va_Qi (fun (r : Int32) => fun (_ : Unit) => r = -1) (fun u t => zB D ((fun (_ : Unit) => [(h0, .inr (0, [.ref qt, .ref qd, .ref qa, .ref qu])), (qt, .inr (1, [.ref qb, .int 0])), (qd, .inr (2, [.ref qe, .int cn, .int 0, .int 0, .ref qt])), (qa, .inr (3, [.int bu, .int ra, .int 0, .ref qo, .int rs]))]) u) ((fun (_ : Unit) => []) u) A t) A) (by decide) (Nat.le_of_ble_eq_true rfl) (fun p e s m below meth c A ls hx hb hr hml hown ht hlk hnm hA hK hP hD hX hl => by
    have hS : va_S A s.heap s.heap [] := va_S.rf
    have hl : lv_has ls 1 [(0, .ref h0)] := hl
    refine lv_aload_n hx hb d_G_open_0 rfl (lv_at hl 0 rfl) ?_
    refine va_get (ci := 0) (C := "ZipGuard") (T := F_G) (N := 4) hx hb ht zi_G hown hK hP 0 rfl rfl 2 (by decide) (ht _ zm_397) (fun _ h9 => h9) rfl d_G_open_1 ?_
    refine zjv (wr := [(h0, .inr (0, [.ref qt, .ref qd, .ref qa, .ref qu])), (qt, .inr (1, [.ref qb, .int 0])), (qd, .inr (2, [.ref qe, .int cn, .int op, .int fp, .ref qt]))]) (va_runV (As := []) (rest := []) ⟨hx, hb, hml, hown, ht⟩ (c_A_clear l D _ qa qo bu ra to rs ) (cwV 0 ht (zt_goodV zm_412 zm_413 zm_414 zm_69 zm_415) rfl rfl rfl (by decide +kernel) ⟨Nat.le_of_ble_eq_true rfl, Nat.le_of_ble_eq_true rfl⟩) (zpreV zBlind_t hK hP hD [3] [] rfl (by decide) rfl (fun _ _ _ => trivial) (va_recv (q := ("ZipGuard$Target", F_A, 5)) hK hP rfl (q0 := 3) (ci := 3) rfl)) rfl rfl hl.1 rfl (lv_room (Nat.le_of_ble_eq_true rfl)) d_G_open_4 ⟨Nat.le_of_ble_eq_true rfl, Nat.le_of_ble_eq_true rfl⟩) hK hP hD hS hA [3] [0, 1, 2] rfl rfl (by decide) (by decide) (fun u H locs hp2 hP hD hK hS => ?_)
    have hP : va_P D zcl [(h0, .inr (0, [.ref qt, .ref qd, .ref qa, .ref qu])), (qt, .inr (1, [.ref qb, .int 0])), (qd, .inr (2, [.ref qe, .int cn, .int op, .int fp, .ref qt])), (qa, .inr (3, [.int bu, .int ra, .int 0, .ref qo, .int rs]))] H := hP
    have hD : va_D A [(h0, .inr (0, [.ref qt, .ref qd, .ref qa, .ref qu])), (qt, .inr (1, [.ref qb, .int 0])), (qd, .inr (2, [.ref qe, .int cn, .int op, .int fp, .ref qt])), (qa, .inr (3, [.int bu, .int ra, .int 0, .ref qo, .int rs]))] := hD
    have hK : va_K D zcl [] s := hK
    refine lv_aload_n hx hb d_G_open_7 rfl (lv_at hl 0 rfl) ?_
    refine va_get (ci := 0) (C := "ZipGuard") (T := F_G) (N := 4) hx hb ht zi_G hown hK hP 0 rfl rfl 1 (by decide) (ht _ zm_396) (fun _ h9 => h9) rfl d_G_open_8 ?_
    refine zji (wr := [(h0, .inr (0, [.ref qt, .ref qd, .ref qa, .ref qu])), (qa, .inr (3, [.int bu, .int ra, .int 0, .ref qo, .int rs]))]) (va_runV (As := []) (rest := []) ⟨hx, hb, hml, hown, ht⟩ (c_D_read0 l D _ qd qe qt qb cn op fp ) (cwV 0 ht (zt_goodV zm_416 zm_417 zm_418 zm_67 zm_419) rfl rfl rfl (by decide +kernel) ⟨Nat.le_of_ble_eq_true rfl, Nat.le_of_ble_eq_true rfl⟩) (zpreV zBlind_t hK hP hD [2, 1] [] rfl (by decide) rfl (fun _ _ _ => trivial) (va_recv (q := ("ZipGuard$Directory", F_D, 5)) hK hP rfl (q0 := 2) (ci := 2) rfl)) rfl rfl hl.1 rfl (lv_room (Nat.le_of_ble_eq_true rfl)) d_G_open_11 ⟨Nat.le_of_ble_eq_true rfl, Nat.le_of_ble_eq_true rfl⟩) hK hP hD hS hA [2, 1] [0, 3] rfl rfl (by decide) (by decide) (fun r3 u H locs hp4 hP hD hK hS => ?_)
    have hP : va_P D zcl [(h0, .inr (0, [.ref qt, .ref qd, .ref qa, .ref qu])), (qa, .inr (3, [.int bu, .int ra, .int 0, .ref qo, .int rs])), (qd, .inr (2, [.ref qe, .int cn, .int 0, .int 0, .ref qt])), (qt, .inr (1, [.ref qb, .int 0]))] H := hP
    have hD : va_D A [(h0, .inr (0, [.ref qt, .ref qd, .ref qa, .ref qu])), (qa, .inr (3, [.int bu, .int ra, .int 0, .ref qo, .int rs])), (qd, .inr (2, [.ref qe, .int cn, .int 0, .int 0, .ref qt])), (qt, .inr (1, [.ref qb, .int 0]))] := hD
    have hK : va_K D zcl [] s := hK
    exact zreti hx hb hr hlk hK hP hD hS () [0, 3, 2, 1] [] rfl (by decide) rfl (hp4) (Nat.le_of_ble_eq_true rfl) (Nat.le_of_ble_eq_true rfl) d_G_open_14)
set_option maxHeartbeats 4000000 in
set_option maxRecDepth 100000 in
theorem c_G_place (l : Launch) (D : va_G) (sz : Nat) (h0 : Nat) (qt : Nat) (qd : Nat) (qa : Nat) (qu : Nat) (qe : Nat) (cn : Int32) (op : Int32) (fp : Int32)  : Met l y_G_place (Cond.code y_G_place prog_1_method_6_code 1 (Option.some Jvm.ClassFile.FieldType.int) :: zt) { frames := 0, cells := 0, slots := 0, locals := 0 } (zPc [.ref h0] D [(h0, .inr (0, [.ref qt, .ref qd, .ref qa, .ref qu])), (qd, .inr (2, [.ref qe, .int cn, .int op, .int fp, .ref qt]))] [] sz (fun _ => True)) (va_Qi (fun (r : Int32) => fun (_ : Unit) => r = fp) (fun u t => zB D ((fun (_ : Unit) => [(h0, .inr (0, [.ref qt, .ref qd, .ref qa, .ref qu])), (qd, .inr (2, [.ref qe, .int cn, .int op, .int fp, .ref qt]))]) u) ((fun (_ : Unit) => []) u) (va_A [(h0, .inr (0, [.ref qt, .ref qd, .ref qa, .ref qu])), (qd, .inr (2, [.ref qe, .int cn, .int op, .int fp, .ref qt]))] sz) t) (va_A [(h0, .inr (0, [.ref qt, .ref qd, .ref qa, .ref qu])), (qd, .inr (2, [.ref qe, .int cn, .int op, .int fp, .ref qt]))] sz)) 0 0 (va_A [(h0, .inr (0, [.ref qt, .ref qd, .ref qa, .ref qu])), (qd, .inr (2, [.ref qe, .int cn, .int op, .int fp, .ref qt]))] sz) :=
  zMet (Qf := fun A => va_Qi (fun (r : Int32) => fun (_ : Unit) => r = fp) (fun u t => zB D ((fun (_ : Unit) => [(h0, .inr (0, [.ref qt, .ref qd, .ref qa, .ref qu])), (qd, .inr (2, [.ref qe, .int cn, .int op, .int fp, .ref qt]))]) u) ((fun (_ : Unit) => []) u) A t) A) (by decide) (Nat.le_of_ble_eq_true rfl) (fun p e s m below meth c A ls hx hb hr hml hown ht hlk hnm hA hK hP hD hX hl => by
    have hS : va_S A s.heap s.heap [] := va_S.rf
    have hl : lv_has ls 1 [(0, .ref h0)] := hl
    refine lv_aload_n hx hb d_G_place_0 rfl (lv_at hl 0 rfl) ?_
    refine va_get (ci := 0) (C := "ZipGuard") (T := F_G) (N := 4) hx hb ht zi_G hown hK hP 0 rfl rfl 1 (by decide) (ht _ zm_396) (fun _ h9 => h9) rfl d_G_place_1 ?_
    refine va_get (ci := 2) (C := "ZipGuard$Directory") (T := F_D) (N := 5) hx hb ht zi_D hown hK hP 1 rfl rfl 3 (by decide) (ht _ zm_186) (fun _ h9 => h9) rfl d_G_place_4 ?_
    exact zreti hx hb hr hlk hK hP hD hS () [0, 1] [] rfl (by decide) rfl (rfl) (Nat.le_of_ble_eq_true rfl) (Nat.le_of_ble_eq_true rfl) d_G_place_7)
set_option maxHeartbeats 4000000 in
set_option maxRecDepth 100000 in
theorem c_G_lim (l : Launch) (D : va_G) (sz : Nat) (h0 : Nat) (qt : Nat) (qd : Nat) (qa : Nat) (qu : Nat) (qo : Nat) (bu : Int32) (ra : Int32) (to : Int32) (rs : Int32) (x : Int32) (y : Int32) (h1 : ¬ x < 0) (h2 : ¬ 40000 < x) (h3 : ¬ y < 0) (h4 : y ≤ 2000) : Met l y_G_limits (Cond.code y_G_limits prog_1_method_7_code 3 (Option.none : Option Jvm.ClassFile.FieldType) :: zt) { frames := 0, cells := 0, slots := 0, locals := 0 } (zPc [.ref h0, .int x, .int y] D [(h0, .inr (0, [.ref qt, .ref qd, .ref qa, .ref qu])), (qa, .inr (3, [.int bu, .int ra, .int to, .ref qo, .int rs]))] [] sz (fun _ => True)) (va_Qv (fun (_ : Unit) => True) (fun u t => zB D ((fun (_ : Unit) => [(h0, .inr (0, [.ref qt, .ref qd, .ref qa, .ref qu])), (qa, .inr (3, [.int x, .int y, .int to, .ref qo, .int rs]))]) u) ((fun (_ : Unit) => []) u) (va_A [(h0, .inr (0, [.ref qt, .ref qd, .ref qa, .ref qu])), (qa, .inr (3, [.int bu, .int ra, .int to, .ref qo, .int rs]))] sz) t) (va_A [(h0, .inr (0, [.ref qt, .ref qd, .ref qa, .ref qu])), (qa, .inr (3, [.int bu, .int ra, .int to, .ref qo, .int rs]))] sz)) 0 0 (va_A [(h0, .inr (0, [.ref qt, .ref qd, .ref qa, .ref qu])), (qa, .inr (3, [.int bu, .int ra, .int to, .ref qo, .int rs]))] sz) :=
  zMet (Qf := fun A => va_Qv (fun (_ : Unit) => True) (fun u t => zB D ((fun (_ : Unit) => [(h0, .inr (0, [.ref qt, .ref qd, .ref qa, .ref qu])), (qa, .inr (3, [.int x, .int y, .int to, .ref qo, .int rs]))]) u) ((fun (_ : Unit) => []) u) A t) A) (by decide) (Nat.le_of_ble_eq_true rfl) (fun p e s m below meth c A ls hx hb hr hml hown ht hlk hnm hA hK hP hD hX hl => by
    have hS : va_S A s.heap s.heap [] := va_S.rf
    have hl : lv_has ls 3 [(0, .ref h0), (1, .int x), (2, .int y)] := hl
    refine lv_iload_n hx hb d_G_limits_0 rfl (lv_at hl 1 rfl) ?_
    refine lv_if_lt (tgt := 21) hx hb d_G_limits_1 (by decide) (fun h => absurd h (h1)) (fun _ => ?_)
    refine lv_iload_n hx hb d_G_limits_4 rfl (lv_at hl 1 rfl) ?_
    refine lv_ldc (v := 40000) hx hb hown (ht _ zm_603) d_G_limits_5 ?_
    refine lv_icmp_gt (tgt := 21) hx hb d_G_limits_7 (by decide) (fun h => absurd h (h2)) (fun _ => ?_)
    refine lv_iload_n hx hb d_G_limits_10 rfl (lv_at hl 2 rfl) ?_
    refine lv_if_lt (tgt := 21) hx hb d_G_limits_11 (by decide) (fun h => absurd h (h3)) (fun _ => ?_)
    refine lv_iload_n hx hb d_G_limits_14 rfl (lv_at hl 2 rfl) ?_
    refine lv_sipush (v := 2000) hx hb d_G_limits_15 (by decide) ?_
    refine lv_icmp_le (tgt := 29) hx hb d_G_limits_18 (by decide) (fun _ => ?_) (fun h => absurd (h4) h)
    refine lv_aload_n hx hb d_G_limits_29 rfl (lv_at hl 0 rfl) ?_
    refine va_get (ci := 0) (C := "ZipGuard") (T := F_G) (N := 4) hx hb ht zi_G hown hK hP 0 rfl rfl 2 (by decide) (ht _ zm_397) (fun _ h9 => h9) rfl d_G_limits_30 ?_
    refine lv_iload_n hx hb d_G_limits_33 rfl (lv_at hl 1 rfl) ?_
    refine va_put (ci := 3) (v := .int x) (ty := .int) (C := "ZipGuard$Target") (T := F_A) (N := 5) hx hb ht zi_A ty_A tk_A nm_A hown hK hP hD hS 1 rfl rfl 0 (by decide) (ht _ zm_207) (fun _ h9 => h9) rfl (by decide +kernel) rfl rfl (Nat.le_of_ble_eq_true rfl) d_G_limits_34 (fun H locs hP hD hS => ?_)
    have hP : va_P D zcl [(h0, .inr (0, [.ref qt, .ref qd, .ref qa, .ref qu])), (qa, .inr (3, [.int x, .int ra, .int to, .ref qo, .int rs]))] H := hP
    have hD : va_D A [(h0, .inr (0, [.ref qt, .ref qd, .ref qa, .ref qu])), (qa, .inr (3, [.int x, .int ra, .int to, .ref qo, .int rs]))] := hD
    refine lv_aload_n hx hb d_G_limits_37 rfl (lv_at hl 0 rfl) ?_
    refine va_get (ci := 0) (C := "ZipGuard") (T := F_G) (N := 4) hx hb ht zi_G hown hK hP 0 rfl rfl 2 (by decide) (ht _ zm_397) (fun _ h9 => h9) rfl d_G_limits_38 ?_
    refine lv_iload_n hx hb d_G_limits_41 rfl (lv_at hl 2 rfl) ?_
    refine va_put (ci := 3) (v := .int y) (ty := .int) (C := "ZipGuard$Target") (T := F_A) (N := 5) hx hb ht zi_A ty_A tk_A nm_A hown hK hP hD hS 1 rfl rfl 1 (by decide) (ht _ zm_209) (fun _ h9 => h9) rfl (by decide +kernel) rfl rfl (Nat.le_of_ble_eq_true rfl) d_G_limits_42 (fun H locs hP hD hS => ?_)
    have hP : va_P D zcl [(h0, .inr (0, [.ref qt, .ref qd, .ref qa, .ref qu])), (qa, .inr (3, [.int x, .int y, .int to, .ref qo, .int rs]))] H := hP
    have hD : va_D A [(h0, .inr (0, [.ref qt, .ref qd, .ref qa, .ref qu])), (qa, .inr (3, [.int x, .int y, .int to, .ref qo, .int rs]))] := hD
    exact zretv hx hb hr hlk hK hP hD hS () [0, 1] [] rfl (by decide) rfl (trivial) (Nat.le_of_ble_eq_true rfl) (Nat.le_of_ble_eq_true rfl) d_G_limits_45)
set_option maxHeartbeats 4000000 in
set_option maxRecDepth 100000 in
theorem c_G_limX (l : Launch) (D : va_G) (sz : Nat) (h0 : Nat) (qt : Nat) (qd : Nat) (qa : Nat) (qu : Nat) (qo : Nat) (bu : Int32) (ra : Int32) (to : Int32) (rs : Int32) (x : Int32) (y : Int32) (hl9 : l.stackTraces = false) (hbad : x < 0 ∨ 40000 < x ∨ y < 0 ∨ ¬ y ≤ 2000) : zTh l y_G_limits (Cond.code y_G_limits prog_1_method_7_code 3 (Option.none : Option Jvm.ClassFile.FieldType) :: zt) { frames := 6, cells := 1, slots := 6, locals := 90 } (zPc [.ref h0, .int x, .int y] D [(h0, .inr (0, [.ref qt, .ref qd, .ref qa, .ref qu])), (qa, .inr (3, [.int bu, .int ra, .int to, .ref qo, .int rs]))] [] sz (zG)) "java/lang/IllegalArgumentException" 1 6 :=
  zTh_of (by decide) (Nat.le_of_ble_eq_true rfl) (fun p e s m below meth c A ls hx hb hr hml hown ht hlk hno hA hK hP hD hX hl => by
    have hS : va_S A s.heap s.heap [] := va_S.rf
    have hl : lv_has ls 3 [(0, .ref h0), (1, .int x), (2, .int y)] := hl
    refine lv_iload_n hx hb d_G_limits_0 rfl (lv_at hl 1 rfl) ?_
    refine lv_if_lt (tgt := 21) hx hb d_G_limits_1 (by decide) (fun hc1 => ?_) (fun hc1 => ?_)
    · skip
      exact zthrow (cls := zIAE) (names := zUP) (ik := 59) (ic := 61) (rest := []) hx hb hl9 hown (by decide) (by decide) (ht _ zm_561) (ht _ zm_77) (zhat zkey_IAE ht hX) (hl.1.trans hml.symm) d_G_limits_21 d_G_limits_24 d_G_limits_25 d_G_limits_28 hno (Nat.le_of_ble_eq_true rfl) (Nat.le_of_ble_eq_true rfl) (Nat.le_of_ble_eq_true rfl) (Nat.le_of_ble_eq_true rfl) hlk (Nat.le_of_ble_eq_true rfl) (Nat.le_of_ble_eq_true rfl)
    · skip
      refine lv_iload_n hx hb d_G_limits_4 rfl (lv_at hl 1 rfl) ?_
      refine lv_ldc (v := 40000) hx hb hown (ht _ zm_603) d_G_limits_5 ?_
      refine lv_icmp_gt (tgt := 21) hx hb d_G_limits_7 (by decide) (fun hc2 => ?_) (fun hc2 => ?_)
      · skip
        exact zthrow (cls := zIAE) (names := zUP) (ik := 59) (ic := 61) (rest := []) hx hb hl9 hown (by decide) (by decide) (ht _ zm_561) (ht _ zm_77) (zhat zkey_IAE ht hX) (hl.1.trans hml.symm) d_G_limits_21 d_G_limits_24 d_G_limits_25 d_G_limits_28 hno (Nat.le_of_ble_eq_true rfl) (Nat.le_of_ble_eq_true rfl) (Nat.le_of_ble_eq_true rfl) (Nat.le_of_ble_eq_true rfl) hlk (Nat.le_of_ble_eq_true rfl) (Nat.le_of_ble_eq_true rfl)
      · skip
        refine lv_iload_n hx hb d_G_limits_10 rfl (lv_at hl 2 rfl) ?_
        refine lv_if_lt (tgt := 21) hx hb d_G_limits_11 (by decide) (fun hc3 => ?_) (fun hc3 => ?_)
        · skip
          exact zthrow (cls := zIAE) (names := zUP) (ik := 59) (ic := 61) (rest := []) hx hb hl9 hown (by decide) (by decide) (ht _ zm_561) (ht _ zm_77) (zhat zkey_IAE ht hX) (hl.1.trans hml.symm) d_G_limits_21 d_G_limits_24 d_G_limits_25 d_G_limits_28 hno (Nat.le_of_ble_eq_true rfl) (Nat.le_of_ble_eq_true rfl) (Nat.le_of_ble_eq_true rfl) (Nat.le_of_ble_eq_true rfl) hlk (Nat.le_of_ble_eq_true rfl) (Nat.le_of_ble_eq_true rfl)
        · skip
          refine lv_iload_n hx hb d_G_limits_14 rfl (lv_at hl 2 rfl) ?_
          refine lv_sipush (v := 2000) hx hb d_G_limits_15 (by decide) ?_
          refine lv_icmp_le (tgt := 29) hx hb d_G_limits_18 (by decide) (fun h => absurd h (((hbad.resolve_left hc1).resolve_left hc2).resolve_left hc3)) (fun _ => ?_)
          exact zthrow (cls := zIAE) (names := zUP) (ik := 59) (ic := 61) (rest := []) hx hb hl9 hown (by decide) (by decide) (ht _ zm_561) (ht _ zm_77) (zhat zkey_IAE ht hX) (hl.1.trans hml.symm) d_G_limits_21 d_G_limits_24 d_G_limits_25 d_G_limits_28 hno (Nat.le_of_ble_eq_true rfl) (Nat.le_of_ble_eq_true rfl) (Nat.le_of_ble_eq_true rfl) (Nat.le_of_ble_eq_true rfl) hlk (Nat.le_of_ble_eq_true rfl) (Nat.le_of_ble_eq_true rfl))
set_option maxHeartbeats 4000000 in
set_option maxRecDepth 100000 in
theorem c_G_oeX (l : Launch) (D : va_G) (sz : Nat) (h0 : Nat) (qt : Nat) (qd : Nat) (qa : Nat) (qu : Nat) (qe : Nat) (cn : Int32) (fp : Int32) (n : Int32) (hl9 : l.stackTraces = false) : zTh l y_G_openEntry (Cond.code y_G_openEntry prog_1_method_14_code 2 (Option.some (Jvm.ClassFile.FieldType.object "ZipGuard$Entry")) :: zt) { frames := 6, cells := 1, slots := 6, locals := 90 } (zPc [.ref h0, .int n] D [(h0, .inr (0, [.ref qt, .ref qd, .ref qa, .ref qu])), (qd, .inr (2, [.ref qe, .int cn, .int 0, .int fp, .ref qt]))] [] sz (zG)) "java/lang/IllegalStateException" 1 6 :=
  zTh_of (by decide) (Nat.le_of_ble_eq_true rfl) (fun p e s m below meth c A ls hx hb hr hml hown ht hlk hno hA hK hP hD hX hl => by
    have hS : va_S A s.heap s.heap [] := va_S.rf
    have hl : lv_has ls 2 [(0, .ref h0), (1, .int n)] := hl
    refine lv_aload_n hx hb d_G_openEntry_0 rfl (lv_at hl 0 rfl) ?_
    refine va_get (ci := 0) (C := "ZipGuard") (T := F_G) (N := 4) hx hb ht zi_G hown hK hP 0 rfl rfl 1 (by decide) (ht _ zm_396) (fun _ h9 => h9) rfl d_G_openEntry_1 ?_
    refine va_get (ci := 2) (C := "ZipGuard$Directory") (T := F_D) (N := 5) hx hb ht zi_D hown hK hP 1 rfl rfl 2 (by decide) (ht _ zm_184) (fun _ h9 => h9) rfl d_G_openEntry_4 ?_
    refine lv_if_ne (tgt := 18) hx hb d_G_openEntry_7 (by decide) (fun h => absurd (by decide) h) (fun _ => ?_)
    exact zthrow (cls := zISE) (names := zUP) (ik := 45) (ic := 47) (rest := []) hx hb hl9 hown (by decide) (by decide) (ht _ zm_524) (ht _ zm_80) (zhat zkey_ISE ht hX) (hl.1.trans hml.symm) d_G_openEntry_10 d_G_openEntry_13 d_G_openEntry_14 d_G_openEntry_17 hno (Nat.le_of_ble_eq_true rfl) (Nat.le_of_ble_eq_true rfl) (Nat.le_of_ble_eq_true rfl) (Nat.le_of_ble_eq_true rfl) hlk (Nat.le_of_ble_eq_true rfl) (Nat.le_of_ble_eq_true rfl))
set_option maxHeartbeats 4000000 in
set_option maxRecDepth 100000 in
theorem c_G_taX (l : Launch) (D : va_G) (sz : Nat) (h0 : Nat) (qt : Nat) (qd : Nat) (qa : Nat) (qu : Nat) (qe : Nat) (cn : Int32) (fp : Int32) (hl9 : l.stackTraces = false) : zTh l y_G_takeAll (Cond.code y_G_takeAll prog_1_method_9_code 2 (Option.some Jvm.ClassFile.FieldType.int) :: zt) { frames := 6, cells := 1, slots := 6, locals := 90 } (zPc [.ref h0] D [(h0, .inr (0, [.ref qt, .ref qd, .ref qa, .ref qu])), (qd, .inr (2, [.ref qe, .int cn, .int 0, .int fp, .ref qt]))] [] sz (zG)) "java/lang/IllegalStateException" 1 6 :=
  zTh_of (by decide) (Nat.le_of_ble_eq_true rfl) (fun p e s m below meth c A ls hx hb hr hml hown ht hlk hno hA hK hP hD hX hl => by
    have hS : va_S A s.heap s.heap [] := va_S.rf
    have hl : lv_has ls 2 [(0, .ref h0)] := hl
    refine lv_aload_n hx hb d_G_takeAll_0 rfl (lv_at hl 0 rfl) ?_
    refine va_get (ci := 0) (C := "ZipGuard") (T := F_G) (N := 4) hx hb ht zi_G hown hK hP 0 rfl rfl 1 (by decide) (ht _ zm_396) (fun _ h9 => h9) rfl d_G_takeAll_1 ?_
    refine va_get (ci := 2) (C := "ZipGuard$Directory") (T := F_D) (N := 5) hx hb ht zi_D hown hK hP 1 rfl rfl 2 (by decide) (ht _ zm_184) (fun _ h9 => h9) rfl d_G_takeAll_4 ?_
    refine lv_if_ne (tgt := 18) hx hb d_G_takeAll_7 (by decide) (fun h => absurd (by decide) h) (fun _ => ?_)
    exact zthrow (cls := zISE) (names := zUP) (ik := 45) (ic := 47) (rest := []) hx hb hl9 hown (by decide) (by decide) (ht _ zm_524) (ht _ zm_80) (zhat zkey_ISE ht hX) (hl.1.trans hml.symm) d_G_takeAll_10 d_G_takeAll_13 d_G_takeAll_14 d_G_takeAll_17 hno (Nat.le_of_ble_eq_true rfl) (Nat.le_of_ble_eq_true rfl) (Nat.le_of_ble_eq_true rfl) (Nat.le_of_ble_eq_true rfl) hlk (Nat.le_of_ble_eq_true rfl) (Nat.le_of_ble_eq_true rfl))
set_option maxHeartbeats 4000000 in
set_option maxRecDepth 100000 in
theorem c_G_takeX (l : Launch) (D : va_G) (sz : Nat) (h0 : Nat) (qt : Nat) (qd : Nat) (qa : Nat) (qu : Nat) (qe : Nat) (cn : Int32) (fp : Int32) (n : Int32) (hl9 : l.stackTraces = false) : zTh l y_G_take (Cond.code y_G_take prog_1_method_8_code 2 (Option.some Jvm.ClassFile.FieldType.int) :: zt) { frames := 7, cells := 1, slots := 6, locals := 111 } (zPc [.ref h0, .int n] D [(h0, .inr (0, [.ref qt, .ref qd, .ref qa, .ref qu])), (qd, .inr (2, [.ref qe, .int cn, .int 0, .int fp, .ref qt]))] [] sz (zG)) "java/lang/IllegalStateException" 1 6 :=
  zTh_of (by decide) (Nat.le_of_ble_eq_true rfl) (fun p e s m below meth c A ls hx hb hr hml hown ht hlk hno hA hK hP hD hX hl => by
    have hS : va_S A s.heap s.heap [] := va_S.rf
    have hl : lv_has ls 2 [(0, .ref h0), (1, .int n)] := hl
    refine lv_aload_n hx hb d_G_take_0 rfl (lv_at hl 0 rfl) ?_
    refine va_get (ci := 0) (C := "ZipGuard") (T := F_G) (N := 4) hx hb ht zi_G hown hK hP 0 rfl rfl 3 (by decide) (ht _ zm_398) (fun _ h9 => h9) rfl d_G_take_1 ?_
    refine lv_aload_n hx hb d_G_take_4 rfl (lv_at hl 0 rfl) ?_
    refine lv_iload_n hx hb d_G_take_5 rfl (lv_at hl 1 rfl) ?_
    exact zcallVT (As := [.int n]) (rest := [.ref qu]) ⟨hx, hb, hml, hown, ht⟩ (c_G_oeX l D _ h0 qt qd qa qu qe cn fp n hl9) (cwV 1 ht (zt_goodV zm_611 zm_612 zm_17 zm_65 zm_613) rfl rfl rfl (by decide +kernel) ⟨Nat.le_of_ble_eq_true rfl, Nat.le_of_ble_eq_true rfl⟩) (zpreV zBlind_G hK hP hD [0, 1] [] rfl (by decide) rfl (fun U hU hW => zBlind_G s U hW.alike hU hX) (va_recv (q := ("ZipGuard", F_G, 4)) hK hP rfl (q0 := 0) (ci := 0) rfl)) rfl hl.1 (lv_room (Nat.le_of_ble_eq_true rfl)) d_G_take_6 ⟨Nat.le_of_ble_eq_true rfl, Nat.le_of_ble_eq_true rfl⟩ (fun q ce H1 _ _ z3 z4 z5 => zout hno hlk z3 z4 z5 (Nat.le_of_ble_eq_true rfl) (Nat.le_of_ble_eq_true rfl)))
set_option maxHeartbeats 4000000 in
set_option maxRecDepth 100000 in
theorem c_G_entX (l : Launch) (D : va_G) (sz : Nat) (h0 : Nat) (qt : Nat) (qd : Nat) (qa : Nat) (qu : Nat) (qe : Nat) (cn : Int32) (fp : Int32) (n : Int32) (y : Int32) (hl9 : l.stackTraces = false) : zTh l y_G_entry (Cond.code y_G_entry prog_1_method_10_code 4 (Option.some Jvm.ClassFile.FieldType.int) :: zt) { frames := 7, cells := 1, slots := 6, locals := 111 } (zPc [.ref h0, .int n, .int y] D [(h0, .inr (0, [.ref qt, .ref qd, .ref qa, .ref qu])), (qd, .inr (2, [.ref qe, .int cn, .int 0, .int fp, .ref qt]))] [] sz (zG)) "java/lang/IllegalStateException" 1 6 :=
  zTh_of (by decide) (Nat.le_of_ble_eq_true rfl) (fun p e s m below meth c A ls hx hb hr hml hown ht hlk hno hA hK hP hD hX hl => by
    have hS : va_S A s.heap s.heap [] := va_S.rf
    have hl : lv_has ls 4 [(0, .ref h0), (1, .int n), (2, .int y)] := hl
    refine lv_aload_n hx hb d_G_entry_0 rfl (lv_at hl 0 rfl) ?_
    refine lv_iload_n hx hb d_G_entry_1 rfl (lv_at hl 1 rfl) ?_
    exact zcallVT (As := [.int n]) (rest := []) ⟨hx, hb, hml, hown, ht⟩ (c_G_oeX l D _ h0 qt qd qa qu qe cn fp n hl9) (cwV 1 ht (zt_goodV zm_611 zm_612 zm_17 zm_65 zm_613) rfl rfl rfl (by decide +kernel) ⟨Nat.le_of_ble_eq_true rfl, Nat.le_of_ble_eq_true rfl⟩) (zpreV zBlind_G hK hP hD [0, 1] [] rfl (by decide) rfl (fun U hU hW => zBlind_G s U hW.alike hU hX) (va_recv (q := ("ZipGuard", F_G, 4)) hK hP rfl (q0 := 0) (ci := 0) rfl)) rfl hl.1 (lv_room (Nat.le_of_ble_eq_true rfl)) d_G_entry_2 ⟨Nat.le_of_ble_eq_true rfl, Nat.le_of_ble_eq_true rfl⟩ (fun q ce H1 _ _ z3 z4 z5 => zout hno hlk z3 z4 z5 (Nat.le_of_ble_eq_true rfl) (Nat.le_of_ble_eq_true rfl)))
set_option maxHeartbeats 4000000 in
set_option maxRecDepth 100000 in
theorem c_G_namX (l : Launch) (D : va_G) (sz : Nat) (h0 : Nat) (qt : Nat) (qd : Nat) (qa : Nat) (qu : Nat) (qe : Nat) (cn : Int32) (fp : Int32) (n : Int32) (y : Int32) (hl9 : l.stackTraces = false) : zTh l y_G_name (Cond.code y_G_name prog_1_method_11_code 4 (Option.some Jvm.ClassFile.FieldType.int) :: zt) { frames := 7, cells := 1, slots := 6, locals := 111 } (zPc [.ref h0, .int n, .int y] D [(h0, .inr (0, [.ref qt, .ref qd, .ref qa, .ref qu])), (qd, .inr (2, [.ref qe, .int cn, .int 0, .int fp, .ref qt]))] [] sz (zG)) "java/lang/IllegalStateException" 1 6 :=
  zTh_of (by decide) (Nat.le_of_ble_eq_true rfl) (fun p e s m below meth c A ls hx hb hr hml hown ht hlk hno hA hK hP hD hX hl => by
    have hS : va_S A s.heap s.heap [] := va_S.rf
    have hl : lv_has ls 4 [(0, .ref h0), (1, .int n), (2, .int y)] := hl
    refine lv_aload_n hx hb d_G_name_0 rfl (lv_at hl 0 rfl) ?_
    refine lv_iload_n hx hb d_G_name_1 rfl (lv_at hl 1 rfl) ?_
    exact zcallVT (As := [.int n]) (rest := []) ⟨hx, hb, hml, hown, ht⟩ (c_G_oeX l D _ h0 qt qd qa qu qe cn fp n hl9) (cwV 1 ht (zt_goodV zm_611 zm_612 zm_17 zm_65 zm_613) rfl rfl rfl (by decide +kernel) ⟨Nat.le_of_ble_eq_true rfl, Nat.le_of_ble_eq_true rfl⟩) (zpreV zBlind_G hK hP hD [0, 1] [] rfl (by decide) rfl (fun U hU hW => zBlind_G s U hW.alike hU hX) (va_recv (q := ("ZipGuard", F_G, 4)) hK hP rfl (q0 := 0) (ci := 0) rfl)) rfl hl.1 (lv_room (Nat.le_of_ble_eq_true rfl)) d_G_name_2 ⟨Nat.le_of_ble_eq_true rfl, Nat.le_of_ble_eq_true rfl⟩ (fun q ce H1 _ _ z3 z4 z5 => zout hno hlk z3 z4 z5 (Nat.le_of_ble_eq_true rfl) (Nat.le_of_ble_eq_true rfl)))
set_option maxHeartbeats 4000000 in
set_option maxRecDepth 100000 in
theorem c_G_wriX (l : Launch) (D : va_G) (sz : Nat) (h0 : Nat) (qt : Nat) (qd : Nat) (qa : Nat) (qu : Nat) (qe : Nat) (cn : Int32) (fp : Int32) (n : Int32) (y : Int32) (hl9 : l.stackTraces = false) : zTh l y_G_written (Cond.code y_G_written prog_1_method_12_code 4 (Option.some Jvm.ClassFile.FieldType.int) :: zt) { frames := 7, cells := 1, slots := 6, locals := 111 } (zPc [.ref h0, .int n, .int y] D [(h0, .inr (0, [.ref qt, .ref qd, .ref qa, .ref qu])), (qd, .inr (2, [.ref qe, .int cn, .int 0, .int fp, .ref qt]))] [] sz (zG)) "java/lang/IllegalStateException" 1 6 :=
  zTh_of (by decide) (Nat.le_of_ble_eq_true rfl) (fun p e s m below meth c A ls hx hb hr hml hown ht hlk hno hA hK hP hD hX hl => by
    have hS : va_S A s.heap s.heap [] := va_S.rf
    have hl : lv_has ls 4 [(0, .ref h0), (1, .int n), (2, .int y)] := hl
    refine lv_aload_n hx hb d_G_written_0 rfl (lv_at hl 0 rfl) ?_
    refine lv_iload_n hx hb d_G_written_1 rfl (lv_at hl 1 rfl) ?_
    exact zcallVT (As := [.int n]) (rest := []) ⟨hx, hb, hml, hown, ht⟩ (c_G_oeX l D _ h0 qt qd qa qu qe cn fp n hl9) (cwV 1 ht (zt_goodV zm_611 zm_612 zm_17 zm_65 zm_613) rfl rfl rfl (by decide +kernel) ⟨Nat.le_of_ble_eq_true rfl, Nat.le_of_ble_eq_true rfl⟩) (zpreV zBlind_G hK hP hD [0, 1] [] rfl (by decide) rfl (fun U hU hW => zBlind_G s U hW.alike hU hX) (va_recv (q := ("ZipGuard", F_G, 4)) hK hP rfl (q0 := 0) (ci := 0) rfl)) rfl hl.1 (lv_room (Nat.le_of_ble_eq_true rfl)) d_G_written_2 ⟨Nat.le_of_ble_eq_true rfl, Nat.le_of_ble_eq_true rfl⟩ (fun q ce H1 _ _ z3 z4 z5 => zout hno hlk z3 z4 z5 (Nat.le_of_ble_eq_true rfl) (Nat.le_of_ble_eq_true rfl)))
set_option maxHeartbeats 4000000 in
set_option maxRecDepth 100000 in
theorem c_G_ab0 (l : Launch) (D : va_G) (sz : Nat) (h0 : Nat) (qt : Nat) (qd : Nat) (qa : Nat) (qu : Nat) (qb : Nat) (qe : Nat) (qo : Nat) (n0 : Int32) (cn : Int32) (fp : Int32) (bu : Int32) (ra : Int32) (to : Int32) (rs : Int32)  : Met l y_G_about (Cond.code y_G_about prog_1_method_13_code 2 (Option.some Jvm.ClassFile.FieldType.int) :: zt) { frames := 0, cells := 0, slots := 0, locals := 0 } (zPc [.ref h0, .int 0] D [(h0, .inr (0, [.ref qt, .ref qd, .ref qa, .ref qu])), (qt, .inr (1, [.ref qb, .int n0])), (qd, .inr (2, [.ref qe, .int cn, .int 0, .int fp, .ref qt])), (qa, .inr (3, [.int bu, .int ra, .int to, .ref qo, .int rs]))] [] sz (fun _ => True)) (va_Qi (fun (r : Int32) => fun (_ : Unit) => r = n0) (fun u t => zB D ((fun (_ : Unit) => [(h0, .inr (0, [.ref qt, .ref qd, .ref qa, .ref qu])), (qt, .inr (1, [.ref qb, .int n0])), (qd, .inr (2, [.ref qe, .int cn, .int 0, .int fp, .ref qt])), (qa, .inr (3, [.int bu, .int ra, .int to, .ref qo, .int rs]))]) u) ((fun (_ : Unit) => []) u) (va_A [(h0, .inr (0, [.ref qt, .ref qd, .ref qa, .ref qu])), (qt, .inr (1, [.ref qb, .int n0])), (qd, .inr (2, [.ref qe, .int cn, .int 0, .int fp, .ref qt])), (qa, .inr (3, [.int bu, .int ra, .int to, .ref qo, .int rs]))] sz) t) (va_A [(h0, .inr (0, [.ref qt, .ref qd, .ref qa, .ref qu])), (qt, .inr (1, [.ref qb, .int n0])), (qd, .inr (2, [.ref qe, .int cn, .int 0, .int fp, .ref qt])), (qa, .inr (3, [.int bu, .int ra, .int to, .ref qo, .int rs]))] sz)) 0 0 (va_A [(h0, .inr (0, [.ref qt, .ref qd, .ref qa, .ref qu])), (qt, .inr (1, [.ref qb, .int n0])), (qd, .inr (2, [.ref qe, .int cn, .int 0, .int fp, .ref qt])), (qa, .inr (3, [.int bu, .int ra, .int to, .ref qo, .int rs]))] sz) :=
  zMet (Qf := fun A => va_Qi (fun (r : Int32) => fun (_ : Unit) => r = n0) (fun u t => zB D ((fun (_ : Unit) => [(h0, .inr (0, [.ref qt, .ref qd, .ref qa, .ref qu])), (qt, .inr (1, [.ref qb, .int n0])), (qd, .inr (2, [.ref qe, .int cn, .int 0, .int fp, .ref qt])), (qa, .inr (3, [.int bu, .int ra, .int to, .ref qo, .int rs]))]) u) ((fun (_ : Unit) => []) u) A t) A) (by decide) (Nat.le_of_ble_eq_true rfl) (fun p e s m below meth c A ls hx hb hr hml hown ht hlk hnm hA hK hP hD hX hl => by
    have hS : va_S A s.heap s.heap [] := va_S.rf
    have hl : lv_has ls 2 [(0, .ref h0), (1, .int 0)] := hl
    refine lv_iload_n hx hb d_G_about_0 rfl (lv_at hl 1 rfl) ?_
    refine lv_tableIn (off := 35) (tgt := 36) hx hb d_G_about_1 (by decide) (by decide) (by decide) (by decide) ?_
    refine lv_aload_n hx hb d_G_about_36 rfl (lv_at hl 0 rfl) ?_
    refine va_get (ci := 0) (C := "ZipGuard") (T := F_G) (N := 4) hx hb ht zi_G hown hK hP 0 rfl rfl 0 (by decide) (ht _ zm_395) (fun _ h9 => h9) rfl d_G_about_37 ?_
    refine va_get (ci := 1) (C := "ZipGuard$Tape") (T := F_T) (N := 2) hx hb ht zi_T hown hK hP 1 rfl rfl 1 (by decide) (ht _ zm_98) (fun _ h9 => h9) rfl d_G_about_40 ?_
    exact zreti hx hb hr hlk hK hP hD hS () [0, 1, 2, 3] [] rfl (by decide) rfl (rfl) (Nat.le_of_ble_eq_true rfl) (Nat.le_of_ble_eq_true rfl) d_G_about_43)
set_option maxHeartbeats 4000000 in
set_option maxRecDepth 100000 in
theorem c_G_ab1 (l : Launch) (D : va_G) (sz : Nat) (h0 : Nat) (qt : Nat) (qd : Nat) (qa : Nat) (qu : Nat) (qb : Nat) (qe : Nat) (qo : Nat) (n0 : Int32) (cn : Int32) (fp : Int32) (bu : Int32) (ra : Int32) (to : Int32) (rs : Int32)  : Met l y_G_about (Cond.code y_G_about prog_1_method_13_code 2 (Option.some Jvm.ClassFile.FieldType.int) :: zt) { frames := 0, cells := 0, slots := 0, locals := 0 } (zPc [.ref h0, .int 1] D [(h0, .inr (0, [.ref qt, .ref qd, .ref qa, .ref qu])), (qt, .inr (1, [.ref qb, .int n0])), (qd, .inr (2, [.ref qe, .int cn, .int 0, .int fp, .ref qt])), (qa, .inr (3, [.int bu, .int ra, .int to, .ref qo, .int rs]))] [] sz (fun _ => True)) (va_Qi (fun (r : Int32) => fun (_ : Unit) => r = 0) (fun u t => zB D ((fun (_ : Unit) => [(h0, .inr (0, [.ref qt, .ref qd, .ref qa, .ref qu])), (qt, .inr (1, [.ref qb, .int n0])), (qd, .inr (2, [.ref qe, .int cn, .int 0, .int fp, .ref qt])), (qa, .inr (3, [.int bu, .int ra, .int to, .ref qo, .int rs]))]) u) ((fun (_ : Unit) => []) u) (va_A [(h0, .inr (0, [.ref qt, .ref qd, .ref qa, .ref qu])), (qt, .inr (1, [.ref qb, .int n0])), (qd, .inr (2, [.ref qe, .int cn, .int 0, .int fp, .ref qt])), (qa, .inr (3, [.int bu, .int ra, .int to, .ref qo, .int rs]))] sz) t) (va_A [(h0, .inr (0, [.ref qt, .ref qd, .ref qa, .ref qu])), (qt, .inr (1, [.ref qb, .int n0])), (qd, .inr (2, [.ref qe, .int cn, .int 0, .int fp, .ref qt])), (qa, .inr (3, [.int bu, .int ra, .int to, .ref qo, .int rs]))] sz)) 0 0 (va_A [(h0, .inr (0, [.ref qt, .ref qd, .ref qa, .ref qu])), (qt, .inr (1, [.ref qb, .int n0])), (qd, .inr (2, [.ref qe, .int cn, .int 0, .int fp, .ref qt])), (qa, .inr (3, [.int bu, .int ra, .int to, .ref qo, .int rs]))] sz) :=
  zMet (Qf := fun A => va_Qi (fun (r : Int32) => fun (_ : Unit) => r = 0) (fun u t => zB D ((fun (_ : Unit) => [(h0, .inr (0, [.ref qt, .ref qd, .ref qa, .ref qu])), (qt, .inr (1, [.ref qb, .int n0])), (qd, .inr (2, [.ref qe, .int cn, .int 0, .int fp, .ref qt])), (qa, .inr (3, [.int bu, .int ra, .int to, .ref qo, .int rs]))]) u) ((fun (_ : Unit) => []) u) A t) A) (by decide) (Nat.le_of_ble_eq_true rfl) (fun p e s m below meth c A ls hx hb hr hml hown ht hlk hnm hA hK hP hD hX hl => by
    have hS : va_S A s.heap s.heap [] := va_S.rf
    have hl : lv_has ls 2 [(0, .ref h0), (1, .int 1)] := hl
    refine lv_iload_n hx hb d_G_about_0 rfl (lv_at hl 1 rfl) ?_
    refine lv_tableIn (off := 43) (tgt := 44) hx hb d_G_about_1 (by decide) (by decide) (by decide) (by decide) ?_
    refine lv_aload_n hx hb d_G_about_44 rfl (lv_at hl 0 rfl) ?_
    refine va_get (ci := 0) (C := "ZipGuard") (T := F_G) (N := 4) hx hb ht zi_G hown hK hP 0 rfl rfl 1 (by decide) (ht _ zm_396) (fun _ h9 => h9) rfl d_G_about_45 ?_
    refine va_get (ci := 2) (C := "ZipGuard$Directory") (T := F_D) (N := 5) hx hb ht zi_D hown hK hP 2 rfl rfl 2 (by decide) (ht _ zm_184) (fun _ h9 => h9) rfl d_G_about_48 ?_
    refine lv_if_eq (tgt := 64) hx hb d_G_about_51 (by decide) (fun _ => ?_) (fun h => absurd (by decide) h)
    refine lv_iconst (v := 0) hx hb d_G_about_64 (by decide) ?_
    exact zreti hx hb hr hlk hK hP hD hS () [0, 1, 2, 3] [] rfl (by decide) rfl (rfl) (Nat.le_of_ble_eq_true rfl) (Nat.le_of_ble_eq_true rfl) d_G_about_65)
set_option maxHeartbeats 4000000 in
set_option maxRecDepth 100000 in
theorem c_G_ab2 (l : Launch) (D : va_G) (sz : Nat) (h0 : Nat) (qt : Nat) (qd : Nat) (qa : Nat) (qu : Nat) (qb : Nat) (qe : Nat) (qo : Nat) (n0 : Int32) (cn : Int32) (fp : Int32) (bu : Int32) (ra : Int32) (to : Int32) (rs : Int32)  : Met l y_G_about (Cond.code y_G_about prog_1_method_13_code 2 (Option.some Jvm.ClassFile.FieldType.int) :: zt) { frames := 0, cells := 0, slots := 0, locals := 0 } (zPc [.ref h0, .int 2] D [(h0, .inr (0, [.ref qt, .ref qd, .ref qa, .ref qu])), (qt, .inr (1, [.ref qb, .int n0])), (qd, .inr (2, [.ref qe, .int cn, .int 0, .int fp, .ref qt])), (qa, .inr (3, [.int bu, .int ra, .int to, .ref qo, .int rs]))] [] sz (fun _ => True)) (va_Qi (fun (r : Int32) => fun (_ : Unit) => r = to) (fun u t => zB D ((fun (_ : Unit) => [(h0, .inr (0, [.ref qt, .ref qd, .ref qa, .ref qu])), (qt, .inr (1, [.ref qb, .int n0])), (qd, .inr (2, [.ref qe, .int cn, .int 0, .int fp, .ref qt])), (qa, .inr (3, [.int bu, .int ra, .int to, .ref qo, .int rs]))]) u) ((fun (_ : Unit) => []) u) (va_A [(h0, .inr (0, [.ref qt, .ref qd, .ref qa, .ref qu])), (qt, .inr (1, [.ref qb, .int n0])), (qd, .inr (2, [.ref qe, .int cn, .int 0, .int fp, .ref qt])), (qa, .inr (3, [.int bu, .int ra, .int to, .ref qo, .int rs]))] sz) t) (va_A [(h0, .inr (0, [.ref qt, .ref qd, .ref qa, .ref qu])), (qt, .inr (1, [.ref qb, .int n0])), (qd, .inr (2, [.ref qe, .int cn, .int 0, .int fp, .ref qt])), (qa, .inr (3, [.int bu, .int ra, .int to, .ref qo, .int rs]))] sz)) 0 0 (va_A [(h0, .inr (0, [.ref qt, .ref qd, .ref qa, .ref qu])), (qt, .inr (1, [.ref qb, .int n0])), (qd, .inr (2, [.ref qe, .int cn, .int 0, .int fp, .ref qt])), (qa, .inr (3, [.int bu, .int ra, .int to, .ref qo, .int rs]))] sz) :=
  zMet (Qf := fun A => va_Qi (fun (r : Int32) => fun (_ : Unit) => r = to) (fun u t => zB D ((fun (_ : Unit) => [(h0, .inr (0, [.ref qt, .ref qd, .ref qa, .ref qu])), (qt, .inr (1, [.ref qb, .int n0])), (qd, .inr (2, [.ref qe, .int cn, .int 0, .int fp, .ref qt])), (qa, .inr (3, [.int bu, .int ra, .int to, .ref qo, .int rs]))]) u) ((fun (_ : Unit) => []) u) A t) A) (by decide) (Nat.le_of_ble_eq_true rfl) (fun p e s m below meth c A ls hx hb hr hml hown ht hlk hnm hA hK hP hD hX hl => by
    have hS : va_S A s.heap s.heap [] := va_S.rf
    have hl : lv_has ls 2 [(0, .ref h0), (1, .int 2)] := hl
    refine lv_iload_n hx hb d_G_about_0 rfl (lv_at hl 1 rfl) ?_
    refine lv_tableIn (off := 65) (tgt := 66) hx hb d_G_about_1 (by decide) (by decide) (by decide) (by decide) ?_
    refine lv_aload_n hx hb d_G_about_66 rfl (lv_at hl 0 rfl) ?_
    refine va_get (ci := 0) (C := "ZipGuard") (T := F_G) (N := 4) hx hb ht zi_G hown hK hP 0 rfl rfl 2 (by decide) (ht _ zm_397) (fun _ h9 => h9) rfl d_G_about_67 ?_
    refine va_get (ci := 3) (C := "ZipGuard$Target") (T := F_A) (N := 5) hx hb ht zi_A hown hK hP 3 rfl rfl 2 (by decide) (ht _ zm_211) (fun _ h9 => h9) rfl d_G_about_70 ?_
    exact zreti hx hb hr hlk hK hP hD hS () [0, 1, 2, 3] [] rfl (by decide) rfl (rfl) (Nat.le_of_ble_eq_true rfl) (Nat.le_of_ble_eq_true rfl) d_G_about_73)
set_option maxHeartbeats 4000000 in
set_option maxRecDepth 100000 in
theorem c_G_ab3 (l : Launch) (D : va_G) (sz : Nat) (h0 : Nat) (qt : Nat) (qd : Nat) (qa : Nat) (qu : Nat) (qb : Nat) (qe : Nat) (qo : Nat) (n0 : Int32) (cn : Int32) (fp : Int32) (bu : Int32) (ra : Int32) (to : Int32) (rs : Int32)  : Met l y_G_about (Cond.code y_G_about prog_1_method_13_code 2 (Option.some Jvm.ClassFile.FieldType.int) :: zt) { frames := 0, cells := 0, slots := 0, locals := 0 } (zPc [.ref h0, .int 3] D [(h0, .inr (0, [.ref qt, .ref qd, .ref qa, .ref qu])), (qt, .inr (1, [.ref qb, .int n0])), (qd, .inr (2, [.ref qe, .int cn, .int 0, .int fp, .ref qt])), (qa, .inr (3, [.int bu, .int ra, .int to, .ref qo, .int rs]))] [] sz (fun _ => True)) (va_Qi (fun (r : Int32) => fun (_ : Unit) => r = bu) (fun u t => zB D ((fun (_ : Unit) => [(h0, .inr (0, [.ref qt, .ref qd, .ref qa, .ref qu])), (qt, .inr (1, [.ref qb, .int n0])), (qd, .inr (2, [.ref qe, .int cn, .int 0, .int fp, .ref qt])), (qa, .inr (3, [.int bu, .int ra, .int to, .ref qo, .int rs]))]) u) ((fun (_ : Unit) => []) u) (va_A [(h0, .inr (0, [.ref qt, .ref qd, .ref qa, .ref qu])), (qt, .inr (1, [.ref qb, .int n0])), (qd, .inr (2, [.ref qe, .int cn, .int 0, .int fp, .ref qt])), (qa, .inr (3, [.int bu, .int ra, .int to, .ref qo, .int rs]))] sz) t) (va_A [(h0, .inr (0, [.ref qt, .ref qd, .ref qa, .ref qu])), (qt, .inr (1, [.ref qb, .int n0])), (qd, .inr (2, [.ref qe, .int cn, .int 0, .int fp, .ref qt])), (qa, .inr (3, [.int bu, .int ra, .int to, .ref qo, .int rs]))] sz)) 0 0 (va_A [(h0, .inr (0, [.ref qt, .ref qd, .ref qa, .ref qu])), (qt, .inr (1, [.ref qb, .int n0])), (qd, .inr (2, [.ref qe, .int cn, .int 0, .int fp, .ref qt])), (qa, .inr (3, [.int bu, .int ra, .int to, .ref qo, .int rs]))] sz) :=
  zMet (Qf := fun A => va_Qi (fun (r : Int32) => fun (_ : Unit) => r = bu) (fun u t => zB D ((fun (_ : Unit) => [(h0, .inr (0, [.ref qt, .ref qd, .ref qa, .ref qu])), (qt, .inr (1, [.ref qb, .int n0])), (qd, .inr (2, [.ref qe, .int cn, .int 0, .int fp, .ref qt])), (qa, .inr (3, [.int bu, .int ra, .int to, .ref qo, .int rs]))]) u) ((fun (_ : Unit) => []) u) A t) A) (by decide) (Nat.le_of_ble_eq_true rfl) (fun p e s m below meth c A ls hx hb hr hml hown ht hlk hnm hA hK hP hD hX hl => by
    have hS : va_S A s.heap s.heap [] := va_S.rf
    have hl : lv_has ls 2 [(0, .ref h0), (1, .int 3)] := hl
    refine lv_iload_n hx hb d_G_about_0 rfl (lv_at hl 1 rfl) ?_
    refine lv_tableIn (off := 73) (tgt := 74) hx hb d_G_about_1 (by decide) (by decide) (by decide) (by decide) ?_
    refine lv_aload_n hx hb d_G_about_74 rfl (lv_at hl 0 rfl) ?_
    refine va_get (ci := 0) (C := "ZipGuard") (T := F_G) (N := 4) hx hb ht zi_G hown hK hP 0 rfl rfl 2 (by decide) (ht _ zm_397) (fun _ h9 => h9) rfl d_G_about_75 ?_
    refine va_get (ci := 3) (C := "ZipGuard$Target") (T := F_A) (N := 5) hx hb ht zi_A hown hK hP 3 rfl rfl 0 (by decide) (ht _ zm_207) (fun _ h9 => h9) rfl d_G_about_78 ?_
    exact zreti hx hb hr hlk hK hP hD hS () [0, 1, 2, 3] [] rfl (by decide) rfl (rfl) (Nat.le_of_ble_eq_true rfl) (Nat.le_of_ble_eq_true rfl) d_G_about_81)
set_option maxHeartbeats 4000000 in
set_option maxRecDepth 100000 in
theorem c_G_ab4 (l : Launch) (D : va_G) (sz : Nat) (h0 : Nat) (qt : Nat) (qd : Nat) (qa : Nat) (qu : Nat) (qb : Nat) (qe : Nat) (qo : Nat) (n0 : Int32) (cn : Int32) (fp : Int32) (bu : Int32) (ra : Int32) (to : Int32) (rs : Int32)  : Met l y_G_about (Cond.code y_G_about prog_1_method_13_code 2 (Option.some Jvm.ClassFile.FieldType.int) :: zt) { frames := 0, cells := 0, slots := 0, locals := 0 } (zPc [.ref h0, .int 4] D [(h0, .inr (0, [.ref qt, .ref qd, .ref qa, .ref qu])), (qt, .inr (1, [.ref qb, .int n0])), (qd, .inr (2, [.ref qe, .int cn, .int 0, .int fp, .ref qt])), (qa, .inr (3, [.int bu, .int ra, .int to, .ref qo, .int rs]))] [] sz (fun _ => True)) (va_Qi (fun (r : Int32) => fun (_ : Unit) => r = ra) (fun u t => zB D ((fun (_ : Unit) => [(h0, .inr (0, [.ref qt, .ref qd, .ref qa, .ref qu])), (qt, .inr (1, [.ref qb, .int n0])), (qd, .inr (2, [.ref qe, .int cn, .int 0, .int fp, .ref qt])), (qa, .inr (3, [.int bu, .int ra, .int to, .ref qo, .int rs]))]) u) ((fun (_ : Unit) => []) u) (va_A [(h0, .inr (0, [.ref qt, .ref qd, .ref qa, .ref qu])), (qt, .inr (1, [.ref qb, .int n0])), (qd, .inr (2, [.ref qe, .int cn, .int 0, .int fp, .ref qt])), (qa, .inr (3, [.int bu, .int ra, .int to, .ref qo, .int rs]))] sz) t) (va_A [(h0, .inr (0, [.ref qt, .ref qd, .ref qa, .ref qu])), (qt, .inr (1, [.ref qb, .int n0])), (qd, .inr (2, [.ref qe, .int cn, .int 0, .int fp, .ref qt])), (qa, .inr (3, [.int bu, .int ra, .int to, .ref qo, .int rs]))] sz)) 0 0 (va_A [(h0, .inr (0, [.ref qt, .ref qd, .ref qa, .ref qu])), (qt, .inr (1, [.ref qb, .int n0])), (qd, .inr (2, [.ref qe, .int cn, .int 0, .int fp, .ref qt])), (qa, .inr (3, [.int bu, .int ra, .int to, .ref qo, .int rs]))] sz) :=
  zMet (Qf := fun A => va_Qi (fun (r : Int32) => fun (_ : Unit) => r = ra) (fun u t => zB D ((fun (_ : Unit) => [(h0, .inr (0, [.ref qt, .ref qd, .ref qa, .ref qu])), (qt, .inr (1, [.ref qb, .int n0])), (qd, .inr (2, [.ref qe, .int cn, .int 0, .int fp, .ref qt])), (qa, .inr (3, [.int bu, .int ra, .int to, .ref qo, .int rs]))]) u) ((fun (_ : Unit) => []) u) A t) A) (by decide) (Nat.le_of_ble_eq_true rfl) (fun p e s m below meth c A ls hx hb hr hml hown ht hlk hnm hA hK hP hD hX hl => by
    have hS : va_S A s.heap s.heap [] := va_S.rf
    have hl : lv_has ls 2 [(0, .ref h0), (1, .int 4)] := hl
    refine lv_iload_n hx hb d_G_about_0 rfl (lv_at hl 1 rfl) ?_
    refine lv_tableIn (off := 81) (tgt := 82) hx hb d_G_about_1 (by decide) (by decide) (by decide) (by decide) ?_
    refine lv_aload_n hx hb d_G_about_82 rfl (lv_at hl 0 rfl) ?_
    refine va_get (ci := 0) (C := "ZipGuard") (T := F_G) (N := 4) hx hb ht zi_G hown hK hP 0 rfl rfl 2 (by decide) (ht _ zm_397) (fun _ h9 => h9) rfl d_G_about_83 ?_
    refine va_get (ci := 3) (C := "ZipGuard$Target") (T := F_A) (N := 5) hx hb ht zi_A hown hK hP 3 rfl rfl 1 (by decide) (ht _ zm_209) (fun _ h9 => h9) rfl d_G_about_86 ?_
    exact zreti hx hb hr hlk hK hP hD hS () [0, 1, 2, 3] [] rfl (by decide) rfl (rfl) (Nat.le_of_ble_eq_true rfl) (Nat.le_of_ble_eq_true rfl) d_G_about_89)
set_option maxHeartbeats 4000000 in
set_option maxRecDepth 100000 in
theorem c_G_abX (l : Launch) (D : va_G) (sz : Nat) (h0 : Nat) (qt : Nat) (qd : Nat) (qa : Nat) (qu : Nat) (n : Int32) (hl9 : l.stackTraces = false) (hbad : n.toInt < 0 ∨ 4 < n.toInt) : zTh l y_G_about (Cond.code y_G_about prog_1_method_13_code 2 (Option.some Jvm.ClassFile.FieldType.int) :: zt) { frames := 6, cells := 1, slots := 6, locals := 90 } (zPc [.ref h0, .int n] D [(h0, .inr (0, [.ref qt, .ref qd, .ref qa, .ref qu]))] [] sz (zG)) "java/lang/IllegalArgumentException" 1 6 :=
  zTh_of (by decide) (Nat.le_of_ble_eq_true rfl) (fun p e s m below meth c A ls hx hb hr hml hown ht hlk hno hA hK hP hD hX hl => by
    have hS : va_S A s.heap s.heap [] := va_S.rf
    have hl : lv_has ls 2 [(0, .ref h0), (1, .int n)] := hl
    refine lv_iload_n hx hb d_G_about_0 rfl (lv_at hl 1 rfl) ?_
    refine lv_tableOut (tgt := 90) hx hb d_G_about_1 hbad (by decide) ?_
    exact zthrow (cls := zIAE) (names := zUP) (ik := 59) (ic := 61) (rest := []) hx hb hl9 hown (by decide) (by decide) (ht _ zm_561) (ht _ zm_77) (zhat zkey_IAE ht hX) (hl.1.trans hml.symm) d_G_about_90 d_G_about_93 d_G_about_94 d_G_about_97 hno (Nat.le_of_ble_eq_true rfl) (Nat.le_of_ble_eq_true rfl) (Nat.le_of_ble_eq_true rfl) (Nat.le_of_ble_eq_true rfl) hlk (Nat.le_of_ble_eq_true rfl) (Nat.le_of_ble_eq_true rfl))
