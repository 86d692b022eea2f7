set_option maxRecDepth 100000 in
theorem zm_17 : Jvm.Cond.selects "ZipGuard" ({ cls := "ZipGuard", name := "openEntry", desc := "(I)LZipGuard$Entry;" } : Jvm.MethodName) ({ cls := "ZipGuard", name := "openEntry", desc := "(I)LZipGuard$Entry;" } : Jvm.MethodName) ∈ zt := zt_mp (List.mem_of_getElem? (i := 17) rfl)
set_option maxRecDepth 100000 in
theorem zm_65 : Jvm.Cond.initialized "ZipGuard" ∈ zt := zt_m1 (List.mem_of_getElem? (i := 1) rfl)
set_option maxRecDepth 100000 in
theorem zm_77 : Jvm.Cond.initialized "java/lang/IllegalArgumentException" ∈ zt := zt_m1 (List.mem_of_getElem? (i := 13) rfl)
set_option maxRecDepth 100000 in
theorem zm_78 : Jvm.Cond.initialized "java/lang/IndexOutOfBoundsException" ∈ zt := zt_m1 (List.mem_of_getElem? (i := 14) rfl)
set_option maxRecDepth 100000 in
theorem zm_80 : Jvm.Cond.initialized "java/lang/IllegalStateException" ∈ zt := zt_m1 (List.mem_of_getElem? (i := 16) rfl)
set_option maxRecDepth 100000 in
theorem zm_98 : Jvm.Cond.fieldLink "ZipGuard" (55 : Nat) "ZipGuard$Tape" "length" "I" ∈ zt := zt_m1 (List.mem_of_getElem? (i := 34) rfl)
set_option maxRecDepth 100000 in
theorem zm_180 : Jvm.Cond.fieldLink "ZipGuard" (104 : Nat) "ZipGuard$Directory" "entries" "[LZipGuard$Entry;" ∈ zt := zt_m1 (List.mem_of_getElem? (i := 116) rfl)
set_option maxRecDepth 100000 in
theorem zm_182 : Jvm.Cond.fieldLink "ZipGuard" (101 : Nat) "ZipGuard$Directory" "count" "I" ∈ zt := zt_m1 (List.mem_of_getElem? (i := 118) rfl)
set_option maxRecDepth 100000 in
theorem zm_184 : Jvm.Cond.fieldLink "ZipGuard" (97 : Nat) "ZipGuard$Directory" "isOpen" "Z" ∈ zt := zt_m1 (List.mem_of_getElem? (i := 120) rfl)
set_option maxRecDepth 100000 in
theorem zm_186 : Jvm.Cond.fieldLink "ZipGuard" (79 : Nat) "ZipGuard$Directory" "faultPlace" "I" ∈ zt := zt_m1 (List.mem_of_getElem? (i := 122) rfl)
set_option maxRecDepth 100000 in
theorem zm_207 : Jvm.Cond.fieldLink "ZipGuard" (83 : Nat) "ZipGuard$Target" "budget" "I" ∈ zt := zt_m1 (List.mem_of_getElem? (i := 143) rfl)
set_option maxRecDepth 100000 in
theorem zm_209 : Jvm.Cond.fieldLink "ZipGuard" (86 : Nat) "ZipGuard$Target" "ratio" "I" ∈ zt := zt_m1 (List.mem_of_getElem? (i := 145) rfl)
set_option maxRecDepth 100000 in
theorem zm_211 : Jvm.Cond.fieldLink "ZipGuard" (143 : Nat) "ZipGuard$Target" "total" "I" ∈ zt := zt_m1 (List.mem_of_getElem? (i := 147) rfl)
set_option maxRecDepth 100000 in
theorem zm_395 : Jvm.Cond.fieldLink "ZipGuard" (10 : Nat) "ZipGuard" "tape" "LZipGuard$Tape;" ∈ zt := zt_m3 (List.mem_of_getElem? (i := 67) rfl)
set_option maxRecDepth 100000 in
theorem zm_396 : Jvm.Cond.fieldLink "ZipGuard" (21 : Nat) "ZipGuard" "directory" "LZipGuard$Directory;" ∈ zt := zt_m3 (List.mem_of_getElem? (i := 68) rfl)
set_option maxRecDepth 100000 in
theorem zm_397 : Jvm.Cond.fieldLink "ZipGuard" (28 : Nat) "ZipGuard" "target" "LZipGuard$Target;" ∈ zt := zt_m3 (List.mem_of_getElem? (i := 69) rfl)
set_option maxRecDepth 100000 in
theorem zm_398 : Jvm.Cond.fieldLink "ZipGuard" (37 : Nat) "ZipGuard" "unpacker" "LZipGuard$Unpacker;" ∈ zt := zt_m3 (List.mem_of_getElem? (i := 70) rfl)
set_option maxRecDepth 100000 in
theorem zm_412 : Jvm.Cond.methodLink "ZipGuard" (72 : Nat) ({ cls := "ZipGuard$Target", name := "clear", desc := "()V" } : Jvm.MethodName) ∈ zt := zt_m3 (List.mem_of_getElem? (i := 84) rfl)
set_option maxRecDepth 100000 in
theorem zm_413 : Jvm.Cond.instanceMethod ({ cls := "ZipGuard$Target", name := "clear", desc := "()V" } : Jvm.MethodName) ∈ zt := zt_m3 (List.mem_of_getElem? (i := 85) rfl)
set_option maxRecDepth 100000 in
theorem zm_414 : Jvm.Cond.selects "ZipGuard$Target" ({ cls := "ZipGuard$Target", name := "clear", desc := "()V" } : Jvm.MethodName) ({ cls := "ZipGuard$Target", name := "clear", desc := "()V" } : Jvm.MethodName) ∈ zt := zt_m3 (List.mem_of_getElem? (i := 86) rfl)
set_option maxRecDepth 100000 in
theorem zm_415 : Jvm.Cond.code ({ cls := "ZipGuard$Target", name := "clear", desc := "()V" } : Jvm.MethodName) prog_7_method_2_code (1 : Nat) (Option.none : Option Jvm.ClassFile.FieldType) ∈ zt := zt_m3 (List.mem_of_getElem? (i := 87) rfl)
set_option maxRecDepth 100000 in
theorem zm_416 : Jvm.Cond.methodLink "ZipGuard" (75 : Nat) ({ cls := "ZipGuard$Directory", name := "read", desc := "()I" } : Jvm.MethodName) ∈ zt := zt_m3 (List.mem_of_getElem? (i := 88) rfl)
set_option maxRecDepth 100000 in
theorem zm_417 : Jvm.Cond.instanceMethod ({ cls := "ZipGuard$Directory", name := "read", desc := "()I" } : Jvm.MethodName) ∈ zt := zt_m3 (List.mem_of_getElem? (i := 89) rfl)
set_option maxRecDepth 100000 in
theorem zm_418 : Jvm.Cond.selects "ZipGuard$Directory" ({ cls := "ZipGuard$Directory", name := "read", desc := "()I" } : Jvm.MethodName) ({ cls := "ZipGuard$Directory", name := "read", desc := "()I" } : Jvm.MethodName) ∈ zt := zt_m3 (List.mem_of_getElem? (i := 90) rfl)
set_option maxRecDepth 100000 in
theorem zm_419 : Jvm.Cond.code ({ cls := "ZipGuard$Directory", name := "read", desc := "()I" } : Jvm.MethodName) prog_4_method_3_code (3 : Nat) (Option.some Jvm.ClassFile.FieldType.int) ∈ zt := zt_m3 (List.mem_of_getElem? (i := 91) rfl)
set_option maxRecDepth 100000 in
theorem zm_520 : Jvm.Cond.methodLink "ZipGuard" (41 : Nat) ({ cls := "ZipGuard$Tape", name := "hasRoomFor", desc := "(I)Z" } : Jvm.MethodName) ∈ zt := zt_m4 (List.mem_of_getElem? (i := 9) rfl)
set_option maxRecDepth 100000 in
theorem zm_521 : Jvm.Cond.instanceMethod ({ cls := "ZipGuard$Tape", name := "hasRoomFor", desc := "(I)Z" } : Jvm.MethodName) ∈ zt := zt_m4 (List.mem_of_getElem? (i := 10) rfl)
set_option maxRecDepth 100000 in
theorem zm_522 : Jvm.Cond.selects "ZipGuard$Tape" ({ cls := "ZipGuard$Tape", name := "hasRoomFor", desc := "(I)Z" } : Jvm.MethodName) ({ cls := "ZipGuard$Tape", name := "hasRoomFor", desc := "(I)Z" } : Jvm.MethodName) ∈ zt := zt_m4 (List.mem_of_getElem? (i := 11) rfl)
set_option maxRecDepth 100000 in
theorem zm_523 : Jvm.Cond.code ({ cls := "ZipGuard$Tape", name := "hasRoomFor", desc := "(I)Z" } : Jvm.MethodName) prog_6_method_2_code (2 : Nat) (Option.some Jvm.ClassFile.FieldType.boolean) ∈ zt := zt_m4 (List.mem_of_getElem? (i := 12) rfl)
set_option maxRecDepth 100000 in
theorem zm_524 : Jvm.Cond.classLink "ZipGuard" (45 : Nat) "java/lang/IllegalStateException" ∈ zt := zt_m4 (List.mem_of_getElem? (i := 13) rfl)
set_option maxRecDepth 100000 in
theorem zm_544 : Jvm.Cond.methodLink "ZipGuard" (48 : Nat) ({ cls := "ZipGuard$Directory", name := "shut", desc := "()V" } : Jvm.MethodName) ∈ zt := zt_m4 (List.mem_of_getElem? (i := 33) rfl)
set_option maxRecDepth 100000 in
theorem zm_545 : Jvm.Cond.instanceMethod ({ cls := "ZipGuard$Directory", name := "shut", desc := "()V" } : Jvm.MethodName) ∈ zt := zt_m4 (List.mem_of_getElem? (i := 34) rfl)
set_option maxRecDepth 100000 in
theorem zm_546 : Jvm.Cond.selects "ZipGuard$Directory" ({ cls := "ZipGuard$Directory", name := "shut", desc := "()V" } : Jvm.MethodName) ({ cls := "ZipGuard$Directory", name := "shut", desc := "()V" } : Jvm.MethodName) ∈ zt := zt_m4 (List.mem_of_getElem? (i := 35) rfl)
set_option maxRecDepth 100000 in
theorem zm_547 : Jvm.Cond.code ({ cls := "ZipGuard$Directory", name := "shut", desc := "()V" } : Jvm.MethodName) prog_4_method_2_code (1 : Nat) (Option.none : Option Jvm.ClassFile.FieldType) ∈ zt := zt_m4 (List.mem_of_getElem? (i := 36) rfl)
set_option maxRecDepth 100000 in
theorem zm_548 : Jvm.Cond.methodLink "ZipGuard" (51 : Nat) ({ cls := "ZipGuard$Tape", name := "append", desc := "(I)V" } : Jvm.MethodName) ∈ zt := zt_m4 (List.mem_of_getElem? (i := 37) rfl)
set_option maxRecDepth 100000 in
theorem zm_549 : Jvm.Cond.instanceMethod ({ cls := "ZipGuard$Tape", name := "append", desc := "(I)V" } : Jvm.MethodName) ∈ zt := zt_m4 (List.mem_of_getElem? (i := 38) rfl)
set_option maxRecDepth 100000 in
theorem zm_550 : Jvm.Cond.selects "ZipGuard$Tape" ({ cls := "ZipGuard$Tape", name := "append", desc := "(I)V" } : Jvm.MethodName) ({ cls := "ZipGuard$Tape", name := "append", desc := "(I)V" } : Jvm.MethodName) ∈ zt := zt_m4 (List.mem_of_getElem? (i := 39) rfl)
set_option maxRecDepth 100000 in
theorem zm_551 : Jvm.Cond.code ({ cls := "ZipGuard$Tape", name := "append", desc := "(I)V" } : Jvm.MethodName) prog_6_method_3_code (3 : Nat) (Option.none : Option Jvm.ClassFile.FieldType) ∈ zt := zt_m4 (List.mem_of_getElem? (i := 40) rfl)
set_option maxRecDepth 100000 in
theorem zm_552 : Jvm.Cond.methodLink "ZipGuard$Tape" (17 : Nat) ({ cls := "ZipGuard$Tape", name := "hasRoomFor", desc := "(I)Z" } : Jvm.MethodName) ∈ zt := zt_m4 (List.mem_of_getElem? (i := 41) rfl)
set_option maxRecDepth 100000 in
theorem zm_561 : Jvm.Cond.classLink "ZipGuard" (59 : Nat) "java/lang/IllegalArgumentException" ∈ zt := zt_m4 (List.mem_of_getElem? (i := 50) rfl)
set_option maxRecDepth 100000 in
theorem zm_566 : Jvm.Cond.methodLink "ZipGuard" (62 : Nat) ({ cls := "ZipGuard$Tape", name := "keepFirst", desc := "(I)V" } : Jvm.MethodName) ∈ zt := zt_m4 (List.mem_of_getElem? (i := 55) rfl)
set_option maxRecDepth 100000 in
theorem zm_567 : Jvm.Cond.instanceMethod ({ cls := "ZipGuard$Tape", name := "keepFirst", desc := "(I)V" } : Jvm.MethodName) ∈ zt := zt_m4 (List.mem_of_getElem? (i := 56) rfl)
set_option maxRecDepth 100000 in
theorem zm_568 : Jvm.Cond.selects "ZipGuard$Tape" ({ cls := "ZipGuard$Tape", name := "keepFirst", desc := "(I)V" } : Jvm.MethodName) ({ cls := "ZipGuard$Tape", name := "keepFirst", desc := "(I)V" } : Jvm.MethodName) ∈ zt := zt_m4 (List.mem_of_getElem? (i := 57) rfl)
set_option maxRecDepth 100000 in
theorem zm_569 : Jvm.Cond.code ({ cls := "ZipGuard$Tape", name := "keepFirst", desc := "(I)V" } : Jvm.MethodName) prog_6_method_4_code (2 : Nat) (Option.none : Option Jvm.ClassFile.FieldType) ∈ zt := zt_m4 (List.mem_of_getElem? (i := 58) rfl)
set_option maxRecDepth 100000 in
theorem zm_578 : Jvm.Cond.classLink "ZipGuard" (65 : Nat) "java/lang/IndexOutOfBoundsException" ∈ zt := zt_m4 (List.mem_of_getElem? (i := 67) rfl)
set_option maxRecDepth 100000 in
theorem zm_592 : Jvm.Cond.methodLink "ZipGuard" (68 : Nat) ({ cls := "ZipGuard$Tape", name := "replace", desc := "(II)I" } : Jvm.MethodName) ∈ zt := zt_m4 (List.mem_of_getElem? (i := 81) rfl)
set_option maxRecDepth 100000 in
theorem zm_593 : Jvm.Cond.instanceMethod ({ cls := "ZipGuard$Tape", name := "replace", desc := "(II)I" } : Jvm.MethodName) ∈ zt := zt_m4 (List.mem_of_getElem? (i := 82) rfl)
set_option maxRecDepth 100000 in
theorem zm_594 : Jvm.Cond.selects "ZipGuard$Tape" ({ cls := "ZipGuard$Tape", name := "replace", desc := "(II)I" } : Jvm.MethodName) ({ cls := "ZipGuard$Tape", name := "replace", desc := "(II)I" } : Jvm.MethodName) ∈ zt := zt_m4 (List.mem_of_getElem? (i := 83) rfl)
set_option maxRecDepth 100000 in
theorem zm_595 : Jvm.Cond.code ({ cls := "ZipGuard$Tape", name := "replace", desc := "(II)I" } : Jvm.MethodName) prog_6_method_5_code (4 : Nat) (Option.some Jvm.ClassFile.FieldType.int) ∈ zt := zt_m4 (List.mem_of_getElem? (i := 84) rfl)
set_option maxRecDepth 100000 in
theorem zm_603 : Jvm.Cond.constant "ZipGuard" (82 : Nat) (40000 : Int32) ∈ zt := zt_m4 (List.mem_of_getElem? (i := 92) rfl)
set_option maxRecDepth 100000 in
theorem zm_611 : Jvm.Cond.methodLink "ZipGuard" (89 : Nat) ({ cls := "ZipGuard", name := "openEntry", desc := "(I)LZipGuard$Entry;" } : Jvm.MethodName) ∈ zt := zt_m4 (List.mem_of_getElem? (i := 100) rfl)
set_option maxRecDepth 100000 in
theorem zm_612 : Jvm.Cond.instanceMethod ({ cls := "ZipGuard", name := "openEntry", desc := "(I)LZipGuard$Entry;" } : Jvm.MethodName) ∈ zt := zt_m4 (List.mem_of_getElem? (i := 101) rfl)
set_option maxRecDepth 100000 in
theorem zm_613 : Jvm.Cond.code ({ cls := "ZipGuard", name := "openEntry", desc := "(I)LZipGuard$Entry;" } : Jvm.MethodName) prog_1_method_14_code (2 : Nat) (Option.some (Jvm.ClassFile.FieldType.object "ZipGuard$Entry")) ∈ zt := zt_m4 (List.mem_of_getElem? (i := 102) rfl)
theorem d_A_clear_0 : decode prog_7_method_2_code 0 = .ok (.aload_n 0, 1) := by decide +kernel
theorem d_A_clear_1 : decode prog_7_method_2_code 1 = .ok (.iconst 0, 1) := by decide +kernel
theorem d_A_clear_2 : decode prog_7_method_2_code 2 = .ok (.putfield 23, 3) := by decide +kernel
theorem d_A_clear_5 : decode prog_7_method_2_code 5 = .ok (.return_, 1) := by decide +kernel
theorem d_G_about_0 : decode prog_1_method_13_code 0 = .ok (.iload_n 1, 1) := by decide +kernel
theorem d_G_about_1 : decode prog_1_method_13_code 1 = .ok (.tableswitch 89 0 4 #[35, 43, 65, 73, 81], 35) := by decide +kernel
theorem d_G_about_36 : decode prog_1_method_13_code 36 = .ok (.aload_n 0, 1) := by decide +kernel
theorem d_G_about_37 : decode prog_1_method_13_code 37 = .ok (.getfield 10, 3) := by decide +kernel
theorem d_G_about_40 : decode prog_1_method_13_code 40 = .ok (.getfield 55, 3) := by decide +kernel
theorem d_G_about_43 : decode prog_1_method_13_code 43 = .ok (.ireturn, 1) := by decide +kernel
theorem d_G_about_44 : decode prog_1_method_13_code 44 = .ok (.aload_n 0, 1) := by decide +kernel
theorem d_G_about_45 : decode prog_1_method_13_code 45 = .ok (.getfield 21, 3) := by decide +kernel
theorem d_G_about_48 : decode prog_1_method_13_code 48 = .ok (.getfield 97, 3) := by decide +kernel
theorem d_G_about_51 : decode prog_1_method_13_code 51 = .ok (.ifCond .eq 13, 3) := by decide +kernel
theorem d_G_about_54 : decode prog_1_method_13_code 54 = .ok (.aload_n 0, 1) := by decide +kernel
theorem d_G_about_55 : decode prog_1_method_13_code 55 = .ok (.getfield 21, 3) := by decide +kernel
theorem d_G_about_58 : decode prog_1_method_13_code 58 = .ok (.getfield 101, 3) := by decide +kernel
theorem d_G_about_61 : decode prog_1_method_13_code 61 = .ok (.goto 4, 3) := by decide +kernel
theorem d_G_about_64 : decode prog_1_method_13_code 64 = .ok (.iconst 0, 1) := by decide +kernel
theorem d_G_about_65 : decode prog_1_method_13_code 65 = .ok (.ireturn, 1) := by decide +kernel
theorem d_G_about_66 : decode prog_1_method_13_code 66 = .ok (.aload_n 0, 1) := by decide +kernel
theorem d_G_about_67 : decode prog_1_method_13_code 67 = .ok (.getfield 28, 3) := by decide +kernel
theorem d_G_about_70 : decode prog_1_method_13_code 70 = .ok (.getfield 143, 3) := by decide +kernel
theorem d_G_about_73 : decode prog_1_method_13_code 73 = .ok (.ireturn, 1) := by decide +kernel
theorem d_G_about_74 : decode prog_1_method_13_code 74 = .ok (.aload_n 0, 1) := by decide +kernel
theorem d_G_about_75 : decode prog_1_method_13_code 75 = .ok (.getfield 28, 3) := by decide +kernel
theorem d_G_about_78 : decode prog_1_method_13_code 78 = .ok (.getfield 83, 3) := by decide +kernel
theorem d_G_about_81 : decode prog_1_method_13_code 81 = .ok (.ireturn, 1) := by decide +kernel
theorem d_G_about_82 : decode prog_1_method_13_code 82 = .ok (.aload_n 0, 1) := by decide +kernel
theorem d_G_about_83 : decode prog_1_method_13_code 83 = .ok (.getfield 28, 3) := by decide +kernel
theorem d_G_about_86 : decode prog_1_method_13_code 86 = .ok (.getfield 86, 3) := by decide +kernel
theorem d_G_about_89 : decode prog_1_method_13_code 89 = .ok (.ireturn, 1) := by decide +kernel
theorem d_G_about_90 : decode prog_1_method_13_code 90 = .ok (.new 59, 3) := by decide +kernel
theorem d_G_about_93 : decode prog_1_method_13_code 93 = .ok (.dup, 1) := by decide +kernel
theorem d_G_about_94 : decode prog_1_method_13_code 94 = .ok (.invokespecial 61, 3) := by decide +kernel
theorem d_G_about_97 : decode prog_1_method_13_code 97 = .ok (.athrow, 1) := by decide +kernel
theorem d_G_alter_0 : decode prog_1_method_4_code 0 = .ok (.iload_n 1, 1) := by decide +kernel
theorem d_G_alter_1 : decode prog_1_method_4_code 1 = .ok (.ifCond .lt 14, 3) := by decide +kernel
theorem d_G_alter_4 : decode prog_1_method_4_code 4 = .ok (.iload_n 1, 1) := by decide +kernel
theorem d_G_alter_5 : decode prog_1_method_4_code 5 = .ok (.aload_n 0, 1) := by decide +kernel
theorem d_G_alter_6 : decode prog_1_method_4_code 6 = .ok (.getfield 10, 3) := by decide +kernel
theorem d_G_alter_9 : decode prog_1_method_4_code 9 = .ok (.getfield 55, 3) := by decide +kernel
theorem d_G_alter_12 : decode prog_1_method_4_code 12 = .ok (.if_icmp .lt 11, 3) := by decide +kernel
theorem d_G_alter_15 : decode prog_1_method_4_code 15 = .ok (.new 65, 3) := by decide +kernel
theorem d_G_alter_18 : decode prog_1_method_4_code 18 = .ok (.dup, 1) := by decide +kernel
theorem d_G_alter_19 : decode prog_1_method_4_code 19 = .ok (.invokespecial 67, 3) := by decide +kernel
theorem d_G_alter_22 : decode prog_1_method_4_code 22 = .ok (.athrow, 1) := by decide +kernel
theorem d_G_alter_23 : decode prog_1_method_4_code 23 = .ok (.aload_n 0, 1) := by decide +kernel
theorem d_G_alter_24 : decode prog_1_method_4_code 24 = .ok (.getfield 10, 3) := by decide +kernel
theorem d_G_alter_27 : decode prog_1_method_4_code 27 = .ok (.iload_n 1, 1) := by decide +kernel
theorem d_G_alter_28 : decode prog_1_method_4_code 28 = .ok (.iload_n 2, 1) := by decide +kernel
theorem d_G_alter_29 : decode prog_1_method_4_code 29 = .ok (.invokevirtual 68, 3) := by decide +kernel
theorem d_G_alter_32 : decode prog_1_method_4_code 32 = .ok (.ireturn, 1) := by decide +kernel
theorem d_G_end_0 : decode prog_1_method_3_code 0 = .ok (.iload_n 1, 1) := by decide +kernel
theorem d_G_end_1 : decode prog_1_method_3_code 1 = .ok (.ifCond .lt 14, 3) := by decide +kernel
theorem d_G_end_4 : decode prog_1_method_3_code 4 = .ok (.iload_n 1, 1) := by decide +kernel
theorem d_G_end_5 : decode prog_1_method_3_code 5 = .ok (.aload_n 0, 1) := by decide +kernel
theorem d_G_end_6 : decode prog_1_method_3_code 6 = .ok (.getfield 10, 3) := by decide +kernel
theorem d_G_end_9 : decode prog_1_method_3_code 9 = .ok (.getfield 55, 3) := by decide +kernel
theorem d_G_end_12 : decode prog_1_method_3_code 12 = .ok (.if_icmp .le 11, 3) := by decide +kernel
theorem d_G_end_15 : decode prog_1_method_3_code 15 = .ok (.new 59, 3) := by decide +kernel
theorem d_G_end_18 : decode prog_1_method_3_code 18 = .ok (.dup, 1) := by decide +kernel
theorem d_G_end_19 : decode prog_1_method_3_code 19 = .ok (.invokespecial 61, 3) := by decide +kernel
theorem d_G_end_22 : decode prog_1_method_3_code 22 = .ok (.athrow, 1) := by decide +kernel
theorem d_G_end_23 : decode prog_1_method_3_code 23 = .ok (.aload_n 0, 1) := by decide +kernel
theorem d_G_end_24 : decode prog_1_method_3_code 24 = .ok (.getfield 21, 3) := by decide +kernel
theorem d_G_end_27 : decode prog_1_method_3_code 27 = .ok (.invokevirtual 48, 3) := by decide +kernel
theorem d_G_end_30 : decode prog_1_method_3_code 30 = .ok (.aload_n 0, 1) := by decide +kernel
theorem d_G_end_31 : decode prog_1_method_3_code 31 = .ok (.getfield 10, 3) := by decide +kernel
theorem d_G_end_34 : decode prog_1_method_3_code 34 = .ok (.iload_n 1, 1) := by decide +kernel
theorem d_G_end_35 : decode prog_1_method_3_code 35 = .ok (.invokevirtual 62, 3) := by decide +kernel
theorem d_G_end_38 : decode prog_1_method_3_code 38 = .ok (.return_, 1) := by decide +kernel
theorem d_G_entry_0 : decode prog_1_method_10_code 0 = .ok (.aload_n 0, 1) := by decide +kernel
theorem d_G_entry_1 : decode prog_1_method_10_code 1 = .ok (.iload_n 1, 1) := by decide +kernel
theorem d_G_entry_2 : decode prog_1_method_10_code 2 = .ok (.invokevirtual 89, 3) := by decide +kernel
theorem d_G_entry_5 : decode prog_1_method_10_code 5 = .ok (.astore_n 3, 1) := by decide +kernel
theorem d_G_entry_6 : decode prog_1_method_10_code 6 = .ok (.iload_n 2, 1) := by decide +kernel
theorem d_G_entry_7 : decode prog_1_method_10_code 7 = .ok (.tableswitch 94 0 7 #[45, 50, 55, 61, 66, 79, 84, 89], 45) := by decide +kernel
theorem d_G_entry_101 : decode prog_1_method_10_code 101 = .ok (.new 59, 3) := by decide +kernel
theorem d_G_entry_104 : decode prog_1_method_10_code 104 = .ok (.dup, 1) := by decide +kernel
theorem d_G_entry_105 : decode prog_1_method_10_code 105 = .ok (.invokespecial 61, 3) := by decide +kernel
theorem d_G_entry_108 : decode prog_1_method_10_code 108 = .ok (.athrow, 1) := by decide +kernel
theorem d_G_feed_0 : decode prog_1_method_2_code 0 = .ok (.aload_n 0, 1) := by decide +kernel
theorem d_G_feed_1 : decode prog_1_method_2_code 1 = .ok (.getfield 10, 3) := by decide +kernel
theorem d_G_feed_4 : decode prog_1_method_2_code 4 = .ok (.bipush 20, 2) := by decide +kernel
theorem d_G_feed_6 : decode prog_1_method_2_code 6 = .ok (.invokevirtual 41, 3) := by decide +kernel
theorem d_G_feed_9 : decode prog_1_method_2_code 9 = .ok (.ifCond .ne 11, 3) := by decide +kernel
theorem d_G_feed_12 : decode prog_1_method_2_code 12 = .ok (.new 45, 3) := by decide +kernel
theorem d_G_feed_15 : decode prog_1_method_2_code 15 = .ok (.dup, 1) := by decide +kernel
theorem d_G_feed_16 : decode prog_1_method_2_code 16 = .ok (.invokespecial 47, 3) := by decide +kernel
theorem d_G_feed_19 : decode prog_1_method_2_code 19 = .ok (.athrow, 1) := by decide +kernel
theorem d_G_feed_20 : decode prog_1_method_2_code 20 = .ok (.aload_n 0, 1) := by decide +kernel
theorem d_G_feed_21 : decode prog_1_method_2_code 21 = .ok (.getfield 21, 3) := by decide +kernel
theorem d_G_feed_24 : decode prog_1_method_2_code 24 = .ok (.invokevirtual 48, 3) := by decide +kernel
theorem d_G_feed_27 : decode prog_1_method_2_code 27 = .ok (.aload_n 0, 1) := by decide +kernel
theorem d_G_feed_28 : decode prog_1_method_2_code 28 = .ok (.getfield 10, 3) := by decide +kernel
theorem d_G_feed_31 : decode prog_1_method_2_code 31 = .ok (.iload_n 1, 1) := by decide +kernel
theorem d_G_feed_32 : decode prog_1_method_2_code 32 = .ok (.invokevirtual 51, 3) := by decide +kernel
theorem d_G_feed_35 : decode prog_1_method_2_code 35 = .ok (.aload_n 0, 1) := by decide +kernel
theorem d_G_feed_36 : decode prog_1_method_2_code 36 = .ok (.getfield 10, 3) := by decide +kernel
theorem d_G_feed_39 : decode prog_1_method_2_code 39 = .ok (.iload_n 2, 1) := by decide +kernel
theorem d_G_feed_40 : decode prog_1_method_2_code 40 = .ok (.invokevirtual 51, 3) := by decide +kernel
theorem d_G_feed_43 : decode prog_1_method_2_code 43 = .ok (.aload_n 0, 1) := by decide +kernel
theorem d_G_feed_44 : decode prog_1_method_2_code 44 = .ok (.getfield 10, 3) := by decide +kernel
theorem d_G_feed_47 : decode prog_1_method_2_code 47 = .ok (.iload_n 3, 1) := by decide +kernel
theorem d_G_feed_48 : decode prog_1_method_2_code 48 = .ok (.invokevirtual 51, 3) := by decide +kernel
theorem d_G_feed_51 : decode prog_1_method_2_code 51 = .ok (.aload_n 0, 1) := by decide +kernel
theorem d_G_feed_52 : decode prog_1_method_2_code 52 = .ok (.getfield 10, 3) := by decide +kernel
theorem d_G_feed_55 : decode prog_1_method_2_code 55 = .ok (.iload 4, 2) := by decide +kernel
theorem d_G_feed_57 : decode prog_1_method_2_code 57 = .ok (.invokevirtual 51, 3) := by decide +kernel
theorem d_G_feed_60 : decode prog_1_method_2_code 60 = .ok (.aload_n 0, 1) := by decide +kernel
theorem d_G_feed_61 : decode prog_1_method_2_code 61 = .ok (.getfield 10, 3) := by decide +kernel
theorem d_G_feed_64 : decode prog_1_method_2_code 64 = .ok (.iload 5, 2) := by decide +kernel
theorem d_G_feed_66 : decode prog_1_method_2_code 66 = .ok (.invokevirtual 51, 3) := by decide +kernel
theorem d_G_feed_69 : decode prog_1_method_2_code 69 = .ok (.aload_n 0, 1) := by decide +kernel
theorem d_G_feed_70 : decode prog_1_method_2_code 70 = .ok (.getfield 10, 3) := by decide +kernel
theorem d_G_feed_73 : decode prog_1_method_2_code 73 = .ok (.getfield 55, 3) := by decide +kernel
theorem d_G_feed_76 : decode prog_1_method_2_code 76 = .ok (.ireturn, 1) := by decide +kernel
theorem d_G_limits_0 : decode prog_1_method_7_code 0 = .ok (.iload_n 1, 1) := by decide +kernel
theorem d_G_limits_1 : decode prog_1_method_7_code 1 = .ok (.ifCond .lt 20, 3) := by decide +kernel
theorem d_G_limits_4 : decode prog_1_method_7_code 4 = .ok (.iload_n 1, 1) := by decide +kernel
theorem d_G_limits_5 : decode prog_1_method_7_code 5 = .ok (.ldc 82, 2) := by decide +kernel
theorem d_G_limits_7 : decode prog_1_method_7_code 7 = .ok (.if_icmp .gt 14, 3) := by decide +kernel
theorem d_G_limits_10 : decode prog_1_method_7_code 10 = .ok (.iload_n 2, 1) := by decide +kernel
theorem d_G_limits_11 : decode prog_1_method_7_code 11 = .ok (.ifCond .lt 10, 3) := by decide +kernel
theorem d_G_limits_14 : decode prog_1_method_7_code 14 = .ok (.iload_n 2, 1) := by decide +kernel
theorem d_G_limits_15 : decode prog_1_method_7_code 15 = .ok (.sipush 2000, 3) := by decide +kernel
theorem d_G_limits_18 : decode prog_1_method_7_code 18 = .ok (.if_icmp .le 11, 3) := by decide +kernel
theorem d_G_limits_21 : decode prog_1_method_7_code 21 = .ok (.new 59, 3) := by decide +kernel
theorem d_G_limits_24 : decode prog_1_method_7_code 24 = .ok (.dup, 1) := by decide +kernel
theorem d_G_limits_25 : decode prog_1_method_7_code 25 = .ok (.invokespecial 61, 3) := by decide +kernel
theorem d_G_limits_28 : decode prog_1_method_7_code 28 = .ok (.athrow, 1) := by decide +kernel
theorem d_G_limits_29 : decode prog_1_method_7_code 29 = .ok (.aload_n 0, 1) := by decide +kernel
theorem d_G_limits_30 : decode prog_1_method_7_code 30 = .ok (.getfield 28, 3) := by decide +kernel
theorem d_G_limits_33 : decode prog_1_method_7_code 33 = .ok (.iload_n 1, 1) := by decide +kernel
theorem d_G_limits_34 : decode prog_1_method_7_code 34 = .ok (.putfield 83, 3) := by decide +kernel
theorem d_G_limits_37 : decode prog_1_method_7_code 37 = .ok (.aload_n 0, 1) := by decide +kernel
theorem d_G_limits_38 : decode prog_1_method_7_code 38 = .ok (.getfield 28, 3) := by decide +kernel
theorem d_G_limits_41 : decode prog_1_method_7_code 41 = .ok (.iload_n 2, 1) := by decide +kernel
theorem d_G_limits_42 : decode prog_1_method_7_code 42 = .ok (.putfield 86, 3) := by decide +kernel
theorem d_G_limits_45 : decode prog_1_method_7_code 45 = .ok (.return_, 1) := by decide +kernel
theorem d_G_name_0 : decode prog_1_method_11_code 0 = .ok (.aload_n 0, 1) := by decide +kernel
theorem d_G_name_1 : decode prog_1_method_11_code 1 = .ok (.iload_n 1, 1) := by decide +kernel
theorem d_G_name_2 : decode prog_1_method_11_code 2 = .ok (.invokevirtual 89, 3) := by decide +kernel
theorem d_G_open_0 : decode prog_1_method_5_code 0 = .ok (.aload_n 0, 1) := by decide +kernel
theorem d_G_open_1 : decode prog_1_method_5_code 1 = .ok (.getfield 28, 3) := by decide +kernel
theorem d_G_open_4 : decode prog_1_method_5_code 4 = .ok (.invokevirtual 72, 3) := by decide +kernel
theorem d_G_open_7 : decode prog_1_method_5_code 7 = .ok (.aload_n 0, 1) := by decide +kernel
theorem d_G_open_8 : decode prog_1_method_5_code 8 = .ok (.getfield 21, 3) := by decide +kernel
theorem d_G_open_11 : decode prog_1_method_5_code 11 = .ok (.invokevirtual 75, 3) := by decide +kernel
theorem d_G_open_14 : decode prog_1_method_5_code 14 = .ok (.ireturn, 1) := by decide +kernel
theorem d_G_openEntry_0 : decode prog_1_method_14_code 0 = .ok (.aload_n 0, 1) := by decide +kernel
theorem d_G_openEntry_1 : decode prog_1_method_14_code 1 = .ok (.getfield 21, 3) := by decide +kernel
theorem d_G_openEntry_4 : decode prog_1_method_14_code 4 = .ok (.getfield 97, 3) := by decide +kernel
theorem d_G_openEntry_7 : decode prog_1_method_14_code 7 = .ok (.ifCond .ne 11, 3) := by decide +kernel
theorem d_G_openEntry_10 : decode prog_1_method_14_code 10 = .ok (.new 45, 3) := by decide +kernel
theorem d_G_openEntry_13 : decode prog_1_method_14_code 13 = .ok (.dup, 1) := by decide +kernel
theorem d_G_openEntry_14 : decode prog_1_method_14_code 14 = .ok (.invokespecial 47, 3) := by decide +kernel
theorem d_G_openEntry_17 : decode prog_1_method_14_code 17 = .ok (.athrow, 1) := by decide +kernel
theorem d_G_openEntry_18 : decode prog_1_method_14_code 18 = .ok (.iload_n 1, 1) := by decide +kernel
theorem d_G_openEntry_19 : decode prog_1_method_14_code 19 = .ok (.ifCond .lt 14, 3) := by decide +kernel
theorem d_G_openEntry_22 : decode prog_1_method_14_code 22 = .ok (.iload_n 1, 1) := by decide +kernel
theorem d_G_openEntry_23 : decode prog_1_method_14_code 23 = .ok (.aload_n 0, 1) := by decide +kernel
theorem d_G_openEntry_24 : decode prog_1_method_14_code 24 = .ok (.getfield 21, 3) := by decide +kernel
theorem d_G_openEntry_27 : decode prog_1_method_14_code 27 = .ok (.getfield 101, 3) := by decide +kernel
theorem d_G_openEntry_30 : decode prog_1_method_14_code 30 = .ok (.if_icmp .lt 11, 3) := by decide +kernel
theorem d_G_openEntry_33 : decode prog_1_method_14_code 33 = .ok (.new 65, 3) := by decide +kernel
theorem d_G_openEntry_36 : decode prog_1_method_14_code 36 = .ok (.dup, 1) := by decide +kernel
theorem d_G_openEntry_37 : decode prog_1_method_14_code 37 = .ok (.invokespecial 67, 3) := by decide +kernel
theorem d_G_openEntry_40 : decode prog_1_method_14_code 40 = .ok (.athrow, 1) := by decide +kernel
theorem d_G_openEntry_41 : decode prog_1_method_14_code 41 = .ok (.aload_n 0, 1) := by decide +kernel
theorem d_G_openEntry_42 : decode prog_1_method_14_code 42 = .ok (.getfield 21, 3) := by decide +kernel
theorem d_G_openEntry_45 : decode prog_1_method_14_code 45 = .ok (.getfield 104, 3) := by decide +kernel
theorem d_G_openEntry_48 : decode prog_1_method_14_code 48 = .ok (.iload_n 1, 1) := by decide +kernel
theorem d_G_openEntry_49 : decode prog_1_method_14_code 49 = .ok (.aaload, 1) := by decide +kernel
theorem d_G_openEntry_50 : decode prog_1_method_14_code 50 = .ok (.areturn, 1) := by decide +kernel
theorem d_G_place_0 : decode prog_1_method_6_code 0 = .ok (.aload_n 0, 1) := by decide +kernel
theorem d_G_place_1 : decode prog_1_method_6_code 1 = .ok (.getfield 21, 3) := by decide +kernel
theorem d_G_place_4 : decode prog_1_method_6_code 4 = .ok (.getfield 79, 3) := by decide +kernel
theorem d_G_place_7 : decode prog_1_method_6_code 7 = .ok (.ireturn, 1) := by decide +kernel
theorem d_G_take_0 : decode prog_1_method_8_code 0 = .ok (.aload_n 0, 1) := by decide +kernel
theorem d_G_take_1 : decode prog_1_method_8_code 1 = .ok (.getfield 37, 3) := by decide +kernel
theorem d_G_take_4 : decode prog_1_method_8_code 4 = .ok (.aload_n 0, 1) := by decide +kernel
theorem d_G_take_5 : decode prog_1_method_8_code 5 = .ok (.iload_n 1, 1) := by decide +kernel
theorem d_G_take_6 : decode prog_1_method_8_code 6 = .ok (.invokevirtual 89, 3) := by decide +kernel
theorem d_G_takeAll_0 : decode prog_1_method_9_code 0 = .ok (.aload_n 0, 1) := by decide +kernel
theorem d_G_takeAll_1 : decode prog_1_method_9_code 1 = .ok (.getfield 21, 3) := by decide +kernel
theorem d_G_takeAll_4 : decode prog_1_method_9_code 4 = .ok (.getfield 97, 3) := by decide +kernel
theorem d_G_takeAll_7 : decode prog_1_method_9_code 7 = .ok (.ifCond .ne 11, 3) := by decide +kernel
theorem d_G_takeAll_10 : decode prog_1_method_9_code 10 = .ok (.new 45, 3) := by decide +kernel
theorem d_G_takeAll_13 : decode prog_1_method_9_code 13 = .ok (.dup, 1) := by decide +kernel
theorem d_G_takeAll_14 : decode prog_1_method_9_code 14 = .ok (.invokespecial 47, 3) := by decide +kernel
theorem d_G_takeAll_17 : decode prog_1_method_9_code 17 = .ok (.athrow, 1) := by decide +kernel
theorem d_G_written_0 : decode prog_1_method_12_code 0 = .ok (.aload_n 0, 1) := by decide +kernel
theorem d_G_written_1 : decode prog_1_method_12_code 1 = .ok (.iload_n 1, 1) := by decide +kernel
theorem d_G_written_2 : decode prog_1_method_12_code 2 = .ok (.invokevirtual 89, 3) := by decide +kernel
theorem d_T_append_0 : decode prog_6_method_3_code 0 = .ok (.aload_n 0, 1) := by decide +kernel
theorem d_T_append_1 : decode prog_6_method_3_code 1 = .ok (.iconst 4, 1) := by decide +kernel
theorem d_T_append_2 : decode prog_6_method_3_code 2 = .ok (.invokevirtual 17, 3) := by decide +kernel
theorem d_T_append_5 : decode prog_6_method_3_code 5 = .ok (.ifCond .ne 4, 3) := by decide +kernel
theorem d_T_append_9 : decode prog_6_method_3_code 9 = .ok (.bipush 24, 2) := by decide +kernel
theorem d_T_append_11 : decode prog_6_method_3_code 11 = .ok (.istore_n 2, 1) := by decide +kernel
theorem d_T_append_12 : decode prog_6_method_3_code 12 = .ok (.iload_n 2, 1) := by decide +kernel
theorem d_T_append_13 : decode prog_6_method_3_code 13 = .ok (.ifCond .lt 32, 3) := by decide +kernel
theorem d_T_append_16 : decode prog_6_method_3_code 16 = .ok (.aload_n 0, 1) := by decide +kernel
theorem d_T_append_17 : decode prog_6_method_3_code 17 = .ok (.getfield 9, 3) := by decide +kernel
theorem d_T_append_20 : decode prog_6_method_3_code 20 = .ok (.aload_n 0, 1) := by decide +kernel
theorem d_T_append_21 : decode prog_6_method_3_code 21 = .ok (.getfield 13, 3) := by decide +kernel
theorem d_T_append_24 : decode prog_6_method_3_code 24 = .ok (.iload_n 1, 1) := by decide +kernel
theorem d_T_append_25 : decode prog_6_method_3_code 25 = .ok (.iload_n 2, 1) := by decide +kernel
theorem d_T_append_26 : decode prog_6_method_3_code 26 = .ok (.ishr, 1) := by decide +kernel
theorem d_T_append_27 : decode prog_6_method_3_code 27 = .ok (.i2b, 1) := by decide +kernel
theorem d_T_append_28 : decode prog_6_method_3_code 28 = .ok (.bastore, 1) := by decide +kernel
theorem d_T_append_29 : decode prog_6_method_3_code 29 = .ok (.aload_n 0, 1) := by decide +kernel
theorem d_T_append_30 : decode prog_6_method_3_code 30 = .ok (.dup, 1) := by decide +kernel
theorem d_T_append_31 : decode prog_6_method_3_code 31 = .ok (.getfield 13, 3) := by decide +kernel
theorem d_T_append_34 : decode prog_6_method_3_code 34 = .ok (.iconst 1, 1) := by decide +kernel
theorem d_T_append_35 : decode prog_6_method_3_code 35 = .ok (.iadd, 1) := by decide +kernel
theorem d_T_append_36 : decode prog_6_method_3_code 36 = .ok (.putfield 13, 3) := by decide +kernel
theorem d_T_append_39 : decode prog_6_method_3_code 39 = .ok (.iinc 2 (-8), 3) := by decide +kernel
theorem d_T_append_42 : decode prog_6_method_3_code 42 = .ok (.goto (-30), 3) := by decide +kernel
theorem d_T_append_45 : decode prog_6_method_3_code 45 = .ok (.return_, 1) := by decide +kernel
theorem d_T_hasRoomFor_0 : decode prog_6_method_2_code 0 = .ok (.aload_n 0, 1) := by decide +kernel
theorem d_T_hasRoomFor_1 : decode prog_6_method_2_code 1 = .ok (.getfield 13, 3) := by decide +kernel
theorem d_T_hasRoomFor_4 : decode prog_6_method_2_code 4 = .ok (.iload_n 1, 1) := by decide +kernel
theorem d_T_hasRoomFor_5 : decode prog_6_method_2_code 5 = .ok (.iadd, 1) := by decide +kernel
theorem d_T_hasRoomFor_6 : decode prog_6_method_2_code 6 = .ok (.aload_n 0, 1) := by decide +kernel
theorem d_T_hasRoomFor_7 : decode prog_6_method_2_code 7 = .ok (.getfield 9, 3) := by decide +kernel
theorem d_T_hasRoomFor_10 : decode prog_6_method_2_code 10 = .ok (.arraylength, 1) := by decide +kernel
theorem d_T_hasRoomFor_11 : decode prog_6_method_2_code 11 = .ok (.if_icmp .gt 7, 3) := by decide +kernel
theorem d_T_hasRoomFor_14 : decode prog_6_method_2_code 14 = .ok (.iconst 1, 1) := by decide +kernel
theorem d_T_hasRoomFor_15 : decode prog_6_method_2_code 15 = .ok (.goto 4, 3) := by decide +kernel
theorem d_T_hasRoomFor_18 : decode prog_6_method_2_code 18 = .ok (.iconst 0, 1) := by decide +kernel
theorem d_T_hasRoomFor_19 : decode prog_6_method_2_code 19 = .ok (.ireturn, 1) := by decide +kernel
theorem d_T_keepFirst_0 : decode prog_6_method_4_code 0 = .ok (.iload_n 1, 1) := by decide +kernel
theorem d_T_keepFirst_1 : decode prog_6_method_4_code 1 = .ok (.ifCond .lt 16, 3) := by decide +kernel
theorem d_T_keepFirst_4 : decode prog_6_method_4_code 4 = .ok (.iload_n 1, 1) := by decide +kernel
theorem d_T_keepFirst_5 : decode prog_6_method_4_code 5 = .ok (.aload_n 0, 1) := by decide +kernel
theorem d_T_keepFirst_6 : decode prog_6_method_4_code 6 = .ok (.getfield 13, 3) := by decide +kernel
theorem d_T_keepFirst_9 : decode prog_6_method_4_code 9 = .ok (.if_icmp .gt 8, 3) := by decide +kernel
theorem d_T_keepFirst_12 : decode prog_6_method_4_code 12 = .ok (.aload_n 0, 1) := by decide +kernel
theorem d_T_keepFirst_13 : decode prog_6_method_4_code 13 = .ok (.iload_n 1, 1) := by decide +kernel
theorem d_T_keepFirst_14 : decode prog_6_method_4_code 14 = .ok (.putfield 13, 3) := by decide +kernel
theorem d_T_keepFirst_17 : decode prog_6_method_4_code 17 = .ok (.return_, 1) := by decide +kernel
set_option maxHeartbeats 4000000 in
set_option maxRecDepth 100000 in
theorem a_T_has (l : Launch) (D : va_G) (qt : Nat) (qb : Nat) (cB : ClassId) (f : Nat → Int32) (L : Int) (i : Int) (hL : 0 ≤ L ∧ L ≤ 20000) (hi : 0 ≤ i ∧ i ≤ 1000) : Met l y_T_hasRoomFor (Cond.code y_T_hasRoomFor prog_6_method_2_code 2 (Option.some Jvm.ClassFile.FieldType.boolean) :: zt) { frames := 0, cells := 0, slots := 0, locals := 0 } (zPcR [.ref qt, .int (iI i)] D [(qt, .inr (1, [.ref qb, .int (iI L)])), (qb, .inl (cB, 20000, .inl f))] [(cB, .byte)] (fun _ => True)) (zQR (fun (r : Int32) => ∃ x : Int, r = iI x ∧ (0 ≤ x ∧ x ≤ 1 ∧ (x = 1 → L + i ≤ 20000) ∧ (x = 0 → 20000 < L + i)))) 0 0 (fun _ => False) :=
  zMetR (by decide) (Nat.le_of_ble_eq_true rfl) (fun p e s m below meth c ls hx hb hr hml hown ht hlk hK hP hX hl => by
    have hl : lv_has ls 2 [(0, .ref qt), (1, .int (iI i))] := hl
    refine lv_aload_n hx hb d_T_hasRoomFor_0 rfl (lv_at hl 0 rfl) ?_
    refine va_get (ci := 1) (C := "ZipGuard$Tape") (T := F_T) (N := 2) hx hb ht zi_T hown hK hP 0 rfl rfl 1 (by decide) (ht _ zm_97) (fun _ h9 => h9) rfl d_T_hasRoomFor_1 ?_
    refine lv_iload_n hx hb d_T_hasRoomFor_4 rfl (lv_at hl 1 rfl) ?_
    refine zv_iadd (z := L + i) hx hb d_T_hasRoomFor_5 (by omega) ?_
    refine lv_aload_n hx hb d_T_hasRoomFor_6 rfl (lv_at hl 0 rfl) ?_
    refine va_get (ci := 1) (C := "ZipGuard$Tape") (T := F_T) (N := 2) hx hb ht zi_T hown hK hP 0 rfl rfl 0 (by decide) (ht _ zm_96) (fun _ h9 => h9) rfl d_T_hasRoomFor_7 ?_
    refine va_alen (v := iI 20000) hx hb hK hP 1 0 rfl rfl rfl d_T_hasRoomFor_10 ?_
    refine zv_icmp_gt (tgt := 18) hx hb d_T_hasRoomFor_11 (by decide) (by omega) (by omega) (fun hc_1 => ?_) (fun hc_1 => ?_)
    · skip
      refine lv_iconst (v := iI 0) hx hb d_T_hasRoomFor_18 (by decide) ?_
      exact zretRz hx hb hr hlk (⟨_, rfl, by omega⟩) (zn01 (by omega)) d_T_hasRoomFor_19
    · skip
      refine lv_iconst (v := iI 1) hx hb d_T_hasRoomFor_14 (by decide) ?_
      refine lv_goto (tgt := 19) hx hb d_T_hasRoomFor_15 (by decide) ?_
      exact zretRz hx hb hr hlk (⟨_, rfl, by omega⟩) (zn01 (by omega)) d_T_hasRoomFor_19)
set_option maxHeartbeats 4000000 in
set_option maxRecDepth 100000 in
theorem a_T_app (l : Launch) (D : va_G) (sz : Nat) (qt : Nat) (qb : Nat) (cB : ClassId) (f : Nat → Int32) (L : Int) (nu : Int) (hL : 0 ≤ L ∧ L ≤ 20000) (hr4 : L + 4 ≤ 20000) : Met l y_T_append (Cond.code y_T_append prog_6_method_3_code 3 (Option.none : Option Jvm.ClassFile.FieldType) :: zt) { frames := 1, cells := 0, slots := 0, locals := 21 } (zPc [.ref qt, .int (iI nu)] D [(qt, .inr (1, [.ref qb, .int (iI L)])), (qb, .inl (cB, 20000, .inl f))] [(cB, .byte)] sz (fun _ => True)) (va_Qv (fun (u9 : Int × (Nat → Int32)) => match u9 with | (L1, f1) => (zAp f f1 L nu) ∧ L1 = L + 4) (fun u9 t => zB D ((fun (u9 : Int × (Nat → Int32)) => match u9 with | (L1, f1) => [(qt, .inr (1, [.ref qb, .int (iI L1)])), (qb, .inl (cB, 20000, .inl f1))]) u9) ((fun (u9 : Int × (Nat → Int32)) => match u9 with | (L1, f1) => [(cB, .byte)]) u9) (va_A [(qt, .inr (1, [.ref qb, .int (iI L)])), (qb, .inl (cB, 20000, .inl f))] sz) t) (va_A [(qt, .inr (1, [.ref qb, .int (iI L)])), (qb, .inl (cB, 20000, .inl f))] sz)) 0 0 (va_A [(qt, .inr (1, [.ref qb, .int (iI L)])), (qb, .inl (cB, 20000, .inl f))] sz) :=
  zMet (Qf := fun A => va_Qv (fun (u9 : Int × (Nat → Int32)) => match u9 with | (L1, f1) => (zAp f f1 L nu) ∧ L1 = L + 4) (fun u9 t => zB D ((fun (u9 : Int × (Nat → Int32)) => match u9 with | (L1, f1) => [(qt, .inr (1, [.ref qb, .int (iI L1)])), (qb, .inl (cB, 20000, .inl f1))]) u9) ((fun (u9 : Int × (Nat → Int32)) => match u9 with | (L1, f1) => [(cB, .byte)]) u9) A t) A) (by decide) (Nat.le_of_ble_eq_true rfl) (fun p e s m below meth c A ls hx hb hr hml hown ht hlk hnm hA hK hP hD hX hl => by
    have hS : va_S A s.heap s.heap [] := va_S.rf
    have hl : lv_has ls 3 [(0, .ref qt), (1, .int (iI nu))] := hl
    refine lv_aload_n hx hb d_T_append_0 rfl (lv_at hl 0 rfl) ?_
    refine lv_iconst (v := iI 4) hx hb d_T_append_1 (by decide) ?_
    refine zjR (va_runV (As := [.int (iI 4)]) (rest := []) ⟨hx, hb, hml, hown, ht⟩ (a_T_has l D qt qb cB f L 4 (by omega) (by omega)) (cwV 1 ht (zt_goodV zm_552 zm_521 zm_522 zm_66 zm_523) rfl rfl rfl (by decide +kernel) ⟨Nat.le_of_ble_eq_true rfl, Nat.le_of_ble_eq_true rfl⟩) (zpreRV zBlind_t hK hP [0, 1] [0] rfl rfl (fun _ _ _ => trivial) (va_recv (q := ("ZipGuard$Tape", F_T, 2)) hK hP rfl (q0 := 0) (ci := 1) rfl)) rfl rfl hl.1 rfl (lv_room (Nat.le_of_ble_eq_true rfl)) d_T_append_2 ⟨Nat.le_of_ble_eq_true rfl, Nat.le_of_ble_eq_true rfl⟩) (fun r1 hp2 => ?_)
    obtain ⟨x_3, he_4, hp2⟩ := hp2
    subst he_4
    refine zv_if_ne (tgt := 9) hx hb d_T_append_5 (by decide) (by omega) (fun hc_5 => ?_) (fun hc_5 => ?_)
    · skip
      refine lv_bipush (v := iI 24) hx hb d_T_append_9 (by decide) ?_
      refine lv_istore_n (lv' := [(2, .int (iI 24)), (0, .ref qt), (1, .int (iI nu))]) hx hb d_T_append_11 rfl hl (by decide) rfl (fun ls hl => ?_)
      have lp12 : ∀ (j : Nat) (sh : Int) (L2 : Int) (f2 : Nat → Int32) (H : Heap) (locs : List Loc) (ls : Array Slot), (8 * (L2 - L) = 24 - sh ∧ -8 ≤ sh ∧ sh ≤ 24) → (∀ i : Nat, ((i : Int) < L ∨ L + 4 ≤ (i : Int)) → f2 i = f i) → (∀ j : Int, 0 ≤ j → 8 * j < 24 - sh → f2 (L + j).toNat = zfy nu (24 - 8 * j)) → (sh + 8 < (j : Int)) → va_P D zcl [(qt, .inr (1, [.ref qb, .int (iI L2)])), (qb, .inl (cB, 20000, .inl f2))] H → va_D A [(qt, .inr (1, [.ref qb, .int (iI L2)])), (qb, .inl (cB, 20000, .inl f2))] → va_S A s.heap H locs → lv_has ls 3 [(2, .int (iI sh)), (0, .ref qt), (1, .int (iI nu))] → W p l e { frames := 1, cells := 0, slots := 0, locals := 21 } s m [.ref qt, .int (iI nu)].toArray below meth c H locs 0 0 (MQ below ((fun A => va_Qv (fun (u9 : Int × (Nat → Int32)) => match u9 with | (L1, f1) => (zAp f f1 L nu) ∧ L1 = L + 4) (fun u9 t => zB D ((fun (u9 : Int × (Nat → Int32)) => match u9 with | (L1, f1) => [(qt, .inr (1, [.ref qb, .int (iI L1)])), (qb, .inl (cB, 20000, .inl f1))]) u9) ((fun (u9 : Int × (Nat → Int32)) => match u9 with | (L1, f1) => [(cB, .byte)]) u9) A t) A) A) [.ref qt, .int (iI nu)].toArray s 0 0 A) (F0 m 12 ls []) := by
        intro j
        induction j with
        | zero => intro sh L2 f2 H locs ls hsh hlo hhi hj12 hP hD hS hl; exfalso; omega
        | succ j ih12 =>
          intro sh L2 f2 H locs ls hsh hlo hhi hj12 hP hD hS hl
          refine lv_iload_n hx hb d_T_append_12 rfl (lv_at hl 0 rfl) ?_
          refine zv_if_lt (tgt := 45) hx hb d_T_append_13 (by decide) (by omega) (fun hc_6 => ?_) (fun hc_6 => ?_)
          · skip
            exact zretv hx hb hr hlk hK hP hD hS (L2, f2) [0, 1] [0] rfl (by decide) rfl (⟨⟨hlo, fun j h1 h2 => hhi j h1 (by omega)⟩, by omega⟩) (Nat.le_of_ble_eq_true rfl) (Nat.le_of_ble_eq_true rfl) d_T_append_45
          · skip
            refine lv_aload_n hx hb d_T_append_16 rfl (lv_at hl 1 rfl) ?_
            refine va_get (ci := 1) (C := "ZipGuard$Tape") (T := F_T) (N := 2) hx hb ht zi_T hown hK hP 0 rfl rfl 0 (by decide) (ht _ zm_96) (fun _ h9 => h9) rfl d_T_append_17 ?_
            refine lv_aload_n hx hb d_T_append_20 rfl (lv_at hl 1 rfl) ?_
            refine va_get (ci := 1) (C := "ZipGuard$Tape") (T := F_T) (N := 2) hx hb ht zi_T hown hK hP 0 rfl rfl 1 (by decide) (ht _ zm_97) (fun _ h9 => h9) rfl d_T_append_21 ?_
            refine lv_iload_n hx hb d_T_append_24 rfl (lv_at hl 2 rfl) ?_
            refine lv_iload_n hx hb d_T_append_25 rfl (lv_at hl 0 rfl) ?_
            refine lv_ishr hx hb d_T_append_26 ?_
            refine lv_i2b hx hb d_T_append_27 rfl ?_
            refine zv_bast hx hb hK hP hD hS 1 0 rfl rfl (by omega) (by decide) d_T_append_28 (fun g_7 H locs hg_8 hP hD hS => ?_)
            have hP : va_P D zcl [(qt, .inr (1, [.ref qb, .int (iI L2)])), (qb, .inl (cB, 20000, .inl g_7))] H := hP
            have hD : va_D A [(qt, .inr (1, [.ref qb, .int (iI L2)])), (qb, .inl (cB, 20000, .inl g_7))] := hD
            refine lv_aload_n hx hb d_T_append_29 rfl (lv_at hl 1 rfl) ?_
            refine lv_dup hx hb d_T_append_30 rfl ?_
            refine va_get (ci := 1) (C := "ZipGuard$Tape") (T := F_T) (N := 2) hx hb ht zi_T hown hK hP 0 rfl rfl 1 (by decide) (ht _ zm_97) (fun _ h9 => h9) rfl d_T_append_31 ?_
            refine lv_iconst (v := iI 1) hx hb d_T_append_34 (by decide) ?_
            refine zv_iadd (z := L2 + 1) hx hb d_T_append_35 (by omega) ?_
            refine va_put (ci := 1) (v := .int (iI (L2 + 1))) (ty := .int) (C := "ZipGuard$Tape") (T := F_T) (N := 2) hx hb ht zi_T ty_T tk_T nm_T hown hK hP hD hS 0 rfl rfl 1 (by decide) (ht _ zm_97) (fun _ h9 => h9) rfl (by decide +kernel) rfl rfl (Nat.le_of_ble_eq_true rfl) d_T_append_36 (fun H locs hP hD hS => ?_)
            have hP : va_P D zcl [(qt, .inr (1, [.ref qb, .int (iI (L2 + 1))])), (qb, .inl (cB, 20000, .inl g_7))] H := hP
            have hD : va_D A [(qt, .inr (1, [.ref qb, .int (iI (L2 + 1))])), (qb, .inl (cB, 20000, .inl g_7))] := hD
            refine lv_iinc (k := 0) (v := iI (sh - 8)) (lv' := [(2, .int (iI (sh - 8))), (0, .ref qt), (1, .int (iI nu))]) hx hb d_T_append_39 hl rfl (zinc (by omega)) (by decide) rfl (fun ls hl => ?_)
            refine lv_goto (tgt := 12) hx hb d_T_append_42 (by decide) ?_
            exact ih12 (sh - 8) (L2 + 1) g_7 _ _ _ (by omega) (zap_lo hg_8 (by omega) hlo) (zap_hi hg_8 (by omega) (by omega) hhi) (by omega) hP hD hS hl
      exact lp12 ((24 + 8 + 1 : Int)).toNat 24 L f _ _ _ (by omega) (fun _ _ => rfl) (fun j h1 h2 => absurd h2 (by omega)) (by omega) hP hD hS hl
    · skip
      exfalso; omega)
set_option maxHeartbeats 4000000 in
set_option maxRecDepth 100000 in
theorem a_T_keep (l : Launch) (D : va_G) (sz : Nat) (qt : Nat) (qb : Nat) (L : Int) (n : Int) (hL : 0 ≤ L ∧ L ≤ 20000) (hn : 0 ≤ n ∧ n ≤ L) : Met l y_T_keepFirst (Cond.code y_T_keepFirst prog_6_method_4_code 2 (Option.none : Option Jvm.ClassFile.FieldType) :: zt) { frames := 0, cells := 0, slots := 0, locals := 0 } (zPc [.ref qt, .int (iI n)] D [(qt, .inr (1, [.ref qb, .int (iI L)]))] [] sz (fun _ => True)) (va_Qv (fun (_ : Unit) => True) (fun u9 t => zB D ((fun (_ : Unit) => [(qt, .inr (1, [.ref qb, .int (iI n)]))]) u9) ((fun (_ : Unit) => []) u9) (va_A [(qt, .inr (1, [.ref qb, .int (iI L)]))] sz) t) (va_A [(qt, .inr (1, [.ref qb, .int (iI L)]))] sz)) 0 0 (va_A [(qt, .inr (1, [.ref qb, .int (iI L)]))] sz) :=
  zMet (Qf := fun A => va_Qv (fun (_ : Unit) => True) (fun u9 t => zB D ((fun (_ : Unit) => [(qt, .inr (1, [.ref qb, .int (iI n)]))]) u9) ((fun (_ : Unit) => []) u9) A t) A) (by decide) (Nat.le_of_ble_eq_true rfl) (fun p e s m below meth c A ls hx hb hr hml hown ht hlk hnm hA hK hP hD hX hl => by
    have hS : va_S A s.heap s.heap [] := va_S.rf
    have hl : lv_has ls 2 [(0, .ref qt), (1, .int (iI n))] := hl
    refine lv_iload_n hx hb d_T_keepFirst_0 rfl (lv_at hl 1 rfl) ?_
    refine zv_if_lt (tgt := 17) hx hb d_T_keepFirst_1 (by decide) (by omega) (fun hc_1 => by omega) (fun hc_1 => ?_)
    refine lv_iload_n hx hb d_T_keepFirst_4 rfl (lv_at hl 1 rfl) ?_
    refine lv_aload_n hx hb d_T_keepFirst_5 rfl (lv_at hl 0 rfl) ?_
    refine va_get (ci := 1) (C := "ZipGuard$Tape") (T := F_T) (N := 2) hx hb ht zi_T hown hK hP 0 rfl rfl 1 (by decide) (ht _ zm_97) (fun _ h9 => h9) rfl d_T_keepFirst_6 ?_
    refine zv_icmp_gt (tgt := 17) hx hb d_T_keepFirst_9 (by decide) (by omega) (by omega) (fun hc_2 => by omega) (fun hc_2 => ?_)
    refine lv_aload_n hx hb d_T_keepFirst_12 rfl (lv_at hl 0 rfl) ?_
    refine lv_iload_n hx hb d_T_keepFirst_13 rfl (lv_at hl 1 rfl) ?_
    refine va_put (ci := 1) (v := .int (iI n)) (ty := .int) (C := "ZipGuard$Tape") (T := F_T) (N := 2) hx hb ht zi_T ty_T tk_T nm_T hown hK hP hD hS 0 rfl rfl 1 (by decide) (ht _ zm_97) (fun _ h9 => h9) rfl (by decide +kernel) rfl rfl (Nat.le_of_ble_eq_true rfl) d_T_keepFirst_14 (fun H locs hP hD hS => ?_)
    have hP : va_P D zcl [(qt, .inr (1, [.ref qb, .int (iI n)]))] H := hP
    have hD : va_D A [(qt, .inr (1, [.ref qb, .int (iI n)]))] := hD
    exact zretv hx hb hr hlk hK hP hD hS () [0] [] rfl (by decide) rfl (trivial) (Nat.le_of_ble_eq_true rfl) (Nat.le_of_ble_eq_true rfl) d_T_keepFirst_17)
set_option maxHeartbeats 4000000 in
set_option maxRecDepth 100000 in
theorem a_T_rep (l : Launch) (D : va_G) (sz : Nat) (qt : Nat) (qb : Nat) (cB : ClassId) (f : Nat → Int32) (L : Int) (i : Int) (b : Int) (hL : 0 ≤ L ∧ L ≤ 20000) (hi : 0 ≤ i ∧ i < L) : Met l y_T_replace (Cond.code y_T_replace prog_6_method_5_code 4 (Option.some Jvm.ClassFile.FieldType.int) :: zt) { frames := 1, cells := 0, slots := 0, locals := 21 } (zPc [.ref qt, .int (iI i), .int (iI b)] D [(qt, .inr (1, [.ref qb, .int (iI L)])), (qb, .inl (cB, 20000, .inl f))] [(cB, .byte)] sz (fun _ => True)) (va_Qi (fun (r : Int32) => fun (u9 : Int × (Nat → Int32)) => match u9 with | (x, f1) => r = (iI x) ∧ ((x = zB1 f i ∧ f1 = upd f i.toNat (zcb b)) ∧ 0 ≤ x ∧ x ≤ 255)) (fun u9 t => zB D ((fun (u9 : Int × (Nat → Int32)) => match u9 with | (x, f1) => [(qt, .inr (1, [.ref qb, .int (iI L)])), (qb, .inl (cB, 20000, .inl f1))]) u9) ((fun (u9 : Int × (Nat → Int32)) => match u9 with | (x, f1) => [(cB, .byte)]) u9) (va_A [(qt, .inr (1, [.ref qb, .int (iI L)])), (qb, .inl (cB, 20000, .inl f))] sz) t) (va_A [(qt, .inr (1, [.ref qb, .int (iI L)])), (qb, .inl (cB, 20000, .inl f))] sz)) 0 0 (va_A [(qt, .inr (1, [.ref qb, .int (iI L)])), (qb, .inl (cB, 20000, .inl f))] sz) :=
  zMet (Qf := fun A => va_Qi (fun (r : Int32) => fun (u9 : Int × (Nat → Int32)) => match u9 with | (x, f1) => r = (iI x) ∧ ((x = zB1 f i ∧ f1 = upd f i.toNat (zcb b)) ∧ 0 ≤ x ∧ x ≤ 255)) (fun u9 t => zB D ((fun (u9 : Int × (Nat → Int32)) => match u9 with | (x, f1) => [(qt, .inr (1, [.ref qb, .int (iI L)])), (qb, .inl (cB, 20000, .inl f1))]) u9) ((fun (u9 : Int × (Nat → Int32)) => match u9 with | (x, f1) => [(cB, .byte)]) u9) A t) A) (by decide) (Nat.le_of_ble_eq_true rfl) (fun p e s m below meth c A ls hx hb hr hml hown ht hlk hnm hA hK hP hD hX hl => by
    have hS : va_S A s.heap s.heap [] := va_S.rf
    have hl : lv_has ls 4 [(0, .ref qt), (1, .int (iI i)), (2, .int (iI b))] := hl
    refine lv_aload_n hx hb d_T_replace_0 rfl (lv_at hl 0 rfl) ?_
    refine lv_iload_n hx hb d_T_replace_1 rfl (lv_at hl 1 rfl) ?_
    refine zjR (va_runV (As := [.int (iI i)]) (rest := []) ⟨hx, hb, hml, hown, ht⟩ (a_T_by l D qt qb cB f L i (by omega) (by omega)) (cwV 1 ht (zt_goodV zm_427 zm_428 zm_429 zm_66 zm_430) rfl rfl rfl (by decide +kernel) ⟨Nat.le_of_ble_eq_true rfl, Nat.le_of_ble_eq_true rfl⟩) (zpreRV zBlind_t hK hP [0, 1] [0] rfl rfl (fun _ _ _ => trivial) (va_recv (q := ("ZipGuard$Tape", F_T, 2)) hK hP rfl (q0 := 0) (ci := 1) rfl)) rfl rfl hl.1 rfl (lv_room (Nat.le_of_ble_eq_true rfl)) d_T_replace_2 ⟨Nat.le_of_ble_eq_true rfl, Nat.le_of_ble_eq_true rfl⟩) (fun r1 hp2 => ?_)
    obtain ⟨x_3, he_4, hp2⟩ := hp2
    subst he_4
    refine lv_istore_n (lv' := [(3, .int (iI x_3)), (0, .ref qt), (1, .int (iI i)), (2, .int (iI b))]) hx hb d_T_replace_5 rfl hl (by decide) rfl (fun ls hl => ?_)
    refine lv_iload_n hx hb d_T_replace_6 rfl (lv_at hl 2 rfl) ?_
    refine zv_if_lt (tgt := 26) hx hb d_T_replace_7 (by decide) (by omega) (fun hc_5 => by omega) (fun hc_5 => ?_)
    refine lv_iload_n hx hb d_T_replace_10 rfl (lv_at hl 2 rfl) ?_
    refine lv_aload_n hx hb d_T_replace_11 rfl (lv_at hl 1 rfl) ?_
    refine va_get (ci := 1) (C := "ZipGuard$Tape") (T := F_T) (N := 2) hx hb ht zi_T hown hK hP 0 rfl rfl 1 (by decide) (ht _ zm_97) (fun _ h9 => h9) rfl d_T_replace_12 ?_
    refine zv_icmp_ge (tgt := 26) hx hb d_T_replace_15 (by decide) (by omega) (by omega) (fun hc_6 => by omega) (fun hc_6 => ?_)
    refine lv_aload_n hx hb d_T_replace_18 rfl (lv_at hl 1 rfl) ?_
    refine va_get (ci := 1) (C := "ZipGuard$Tape") (T := F_T) (N := 2) hx hb ht zi_T hown hK hP 0 rfl rfl 0 (by decide) (ht _ zm_96) (fun _ h9 => h9) rfl d_T_replace_19 ?_
    refine lv_iload_n hx hb d_T_replace_22 rfl (lv_at hl 2 rfl) ?_
    refine lv_iload_n hx hb d_T_replace_23 rfl (lv_at hl 3 rfl) ?_
    refine lv_i2b hx hb d_T_replace_24 rfl ?_
    refine zv_bast hx hb hK hP hD hS 1 0 rfl rfl (by omega) (by decide) d_T_replace_25 (fun g_7 H locs hg_8 hP hD hS => ?_)
    have hP : va_P D zcl [(qt, .inr (1, [.ref qb, .int (iI L)])), (qb, .inl (cB, 20000, .inl g_7))] H := hP
    have hD : va_D A [(qt, .inr (1, [.ref qb, .int (iI L)])), (qb, .inl (cB, 20000, .inl g_7))] := hD
    refine lv_iload_n hx hb d_T_replace_26 rfl (lv_at hl 0 rfl) ?_
    exact zreti hx hb hr hlk hK hP hD hS (x_3, g_7) [0, 1] [0] rfl (by decide) rfl (⟨rfl, ⟨⟨by rw [hp2.1]; exact if_pos hi, hg_8⟩, by omega⟩⟩) (Nat.le_of_ble_eq_true rfl) (Nat.le_of_ble_eq_true rfl) d_T_replace_27)
set_option maxHeartbeats 4000000 in
set_option maxRecDepth 100000 in
theorem a_A_clear (l : Launch) (D : va_G) (sz : Nat) (qa : Nat) (qo : Nat) (bu : Nat) (ra : Nat) (to : Nat) (ks : Int32)  : Met l y_A_clear (Cond.code y_A_clear prog_7_method_2_code 1 (Option.none : Option Jvm.ClassFile.FieldType) :: zt) { frames := 0, cells := 0, slots := 0, locals := 0 } (zPc [.ref qa] D [(qa, .inr (3, [.int (nI bu), .int (nI ra), .int (nI to), .ref qo, .int ks]))] [] sz (fun _ => True)) (va_Qv (fun (_ : Unit) => True) (fun u9 t => zB D ((fun (_ : Unit) => [(qa, .inr (3, [.int (nI bu), .int (nI ra), .int (nI 0), .ref qo, .int ks]))]) u9) ((fun (_ : Unit) => []) u9) (va_A [(qa, .inr (3, [.int (nI bu), .int (nI ra), .int (nI to), .ref qo, .int ks]))] sz) t) (va_A [(qa, .inr (3, [.int (nI bu), .int (nI ra), .int (nI to), .ref qo, .int ks]))] sz)) 0 0 (va_A [(qa, .inr (3, [.int (nI bu), .int (nI ra), .int (nI to), .ref qo, .int ks]))] sz) :=
  zMet (Qf := fun A => va_Qv (fun (_ : Unit) => True) (fun u9 t => zB D ((fun (_ : Unit) => [(qa, .inr (3, [.int (nI bu), .int (nI ra), .int (nI 0), .ref qo, .int ks]))]) u9) ((fun (_ : Unit) => []) u9) A t) A) (by decide) (Nat.le_of_ble_eq_true rfl) (fun p e s m below meth c A ls hx hb hr hml hown ht hlk hnm hA hK hP hD hX hl => by
    have hS : va_S A s.heap s.heap [] := va_S.rf
    have hl : lv_has ls 1 [(0, .ref qa)] := hl
    refine lv_aload_n hx hb d_A_clear_0 rfl (lv_at hl 0 rfl) ?_
    refine lv_iconst (v := iI 0) hx hb d_A_clear_1 (by decide) ?_
    refine va_put (ci := 3) (v := .int (iI 0)) (ty := .int) (C := "ZipGuard$Target") (T := F_A) (N := 5) hx hb ht zi_A ty_A tk_A nm_A hown hK hP hD hS 0 rfl rfl 2 (by decide) (ht _ zm_210) (fun _ h9 => h9) rfl (by decide +kernel) rfl rfl (Nat.le_of_ble_eq_true rfl) d_A_clear_2 (fun H locs hP hD hS => ?_)
    have hP : va_P D zcl [(qa, .inr (3, [.int (nI bu), .int (nI ra), .int (iI 0), .ref qo, .int ks]))] H := hP
    have hD : va_D A [(qa, .inr (3, [.int (nI bu), .int (nI ra), .int (iI 0), .ref qo, .int ks]))] := hD
    have hP : va_P D zcl [(qa, .inr (3, [.int (nI bu), .int (nI ra), .int (nI 0), .ref qo, .int ks]))] H := hP
    have hD : va_D A [(qa, .inr (3, [.int (nI bu), .int (nI ra), .int (nI 0), .ref qo, .int ks]))] := hD
    exact zretv hx hb hr hlk hK hP hD hS () [0] [] rfl (by decide) rfl (trivial) (Nat.le_of_ble_eq_true rfl) (Nat.le_of_ble_eq_true rfl) d_A_clear_5)
set_option maxHeartbeats 4000000 in
set_option maxRecDepth 100000 in
theorem a_A_byof (l : Launch) (D : va_G) (qa : Nat) (qo : Nat) (bu : Nat) (ra : Nat) (to : Nat) (ks : Int32) (cO : ClassId) (ft : Nat → Int32) (qe : Nat) (qnb : Nat) (nl : Int) (fo : Int) (me : Int) (pk : Int) (ez : Int) (su : Int) (lp : Int) (pp : Int) (st : Int) (op : Int) (ol : Int) (k : Int) (h1 : 0 ≤ op ∧ op ≤ 40000 ∧ 0 ≤ k ∧ k ≤ 40000) : Met l y_A_byteOf (Cond.code y_A_byteOf prog_7_method_5_code 4 (Option.some Jvm.ClassFile.FieldType.int) :: zt) { frames := 0, cells := 0, slots := 0, locals := 0 } (zPcR [.ref qa, .ref qe, .int (iI k)] D [(qa, .inr (3, [.int (nI bu), .int (nI ra), .int (nI to), .ref qo, .int ks])), (qo, .inl (cO, 40000, .inl ft)), (qe, .inr (7, [.ref qnb, .int (iI nl), .int (iI fo), .int (iI me), .int (iI pk), .long (lI ez), .int (iI su), .int (iI lp), .int (iI pp), .int (iI st), .int (iI op), .int (iI ol)]))] [(cO, .byte)] (fun _ => True)) (zQR (fun (r : Int32) => ∃ x : Int, r = iI x ∧ ((op + k < 40000 → x = zB1 ft (op + k)) ∧ -2147483648 ≤ x ∧ x ≤ 2147483647))) 0 0 (fun _ => False) :=
  zMetR (by decide) (Nat.le_of_ble_eq_true rfl) (fun p e s m below meth c ls hx hb hr hml hown ht hlk hK hP hX hl => by
    have hl : lv_has ls 4 [(0, .ref qa), (1, .ref qe), (2, .int (iI k))] := hl
    refine lv_aload_n hx hb d_A_byteOf_0 rfl (lv_at hl 1 rfl) ?_
    refine va_get (ci := 7) (C := "ZipGuard$Entry") (T := F_E) (N := 12) hx hb ht zi_E hown hK hP 2 rfl rfl 10 (by decide) (ht _ zm_149) (fun _ h9 => h9) rfl d_A_byteOf_1 ?_
    refine lv_iload_n hx hb d_A_byteOf_4 rfl (lv_at hl 2 rfl) ?_
    refine zv_iadd (z := op + k) hx hb d_A_byteOf_5 (by omega) ?_
    refine lv_istore_n (lv' := [(3, .int (iI (op + k))), (0, .ref qa), (1, .ref qe), (2, .int (iI k))]) hx hb d_A_byteOf_6 rfl hl (by decide) rfl (fun ls hl => ?_)
    refine lv_iload_n hx hb d_A_byteOf_7 rfl (lv_at hl 0 rfl) ?_
    refine zv_if_lt (tgt := 33) hx hb d_A_byteOf_8 (by decide) (by omega) (fun hc_1 => ?_) (fun hc_1 => ?_)
    · skip
      refine lv_iconst (v := iI 0) hx hb d_A_byteOf_33 (by decide) ?_
      exact zretR hx hb hr hlk (⟨_, rfl, by omega⟩) d_A_byteOf_34
    · skip
      refine lv_iload_n hx hb d_A_byteOf_11 rfl (lv_at hl 0 rfl) ?_
      refine lv_aload_n hx hb d_A_byteOf_12 rfl (lv_at hl 1 rfl) ?_
      refine va_get (ci := 3) (C := "ZipGuard$Target") (T := F_A) (N := 5) hx hb ht zi_A hown hK hP 0 rfl rfl 3 (by decide) (ht _ zm_212) (fun _ h9 => h9) rfl d_A_byteOf_13 ?_
      refine va_alen (v := iI 40000) hx hb hK hP 1 0 rfl rfl rfl d_A_byteOf_16 ?_
      refine zv_icmp_ge (tgt := 33) hx hb d_A_byteOf_17 (by decide) (by omega) (by omega) (fun hc_2 => ?_) (fun hc_2 => ?_)
      · skip
        refine lv_iconst (v := iI 0) hx hb d_A_byteOf_33 (by decide) ?_
        exact zretR hx hb hr hlk (⟨_, rfl, by omega⟩) d_A_byteOf_34
      · skip
        refine lv_aload_n hx hb d_A_byteOf_20 rfl (lv_at hl 1 rfl) ?_
        refine va_get (ci := 3) (C := "ZipGuard$Target") (T := F_A) (N := 5) hx hb ht zi_A hown hK hP 0 rfl rfl 3 (by decide) (ht _ zm_212) (fun _ h9 => h9) rfl d_A_byteOf_21 ?_
        refine lv_iload_n hx hb d_A_byteOf_24 rfl (lv_at hl 0 rfl) ?_
        refine zv_bald hx hb hK hP 1 0 rfl rfl (by omega) (by decide) d_A_byteOf_25 (fun x_3 hz_4 ha_5 ha_6 => ?_)
        refine lv_sipush (v := iI 255) hx hb d_A_byteOf_26 (by decide) ?_
        refine zv_byte (f := ft) (k := op + k) hx hb d_A_byteOf_29 hz_4 (fun x_7 hz_8 ha_9 ha_10 => ?_)
        refine lv_goto (tgt := 34) hx hb d_A_byteOf_30 (by decide) ?_
        exact zretR hx hb hr hlk (⟨_, rfl, by omega⟩) d_A_byteOf_34)
set_option maxHeartbeats 4000000 in
set_option maxRecDepth 100000 in
theorem a_G_feed (l : Launch) (D : va_G) (sz : Nat) (qg : Nat) (qa : Nat) (qu : Nat) (qd : Nat) (qt : Nat) (qb : Nat) (cB : ClassId) (f : Nat → Int32) (L : Int) (qn : Nat) (ct : Int) (io : Int) (fp : Int) (a0 : Int) (a1 : Int) (a2 : Int) (a3 : Int) (a4 : Int) (hL : 0 ≤ L ∧ L ≤ 20000) (hr : L + 20 ≤ 20000) : Met l y_G_feed (Cond.code y_G_feed prog_1_method_2_code 6 (Option.some Jvm.ClassFile.FieldType.int) :: zt) { frames := 2, cells := 0, slots := 0, locals := 43 } (zPc [.ref qg, .int (iI a0), .int (iI a1), .int (iI a2), .int (iI a3), .int (iI a4)] D [(qg, .inr (0, [.ref qt, .ref qd, .ref qa, .ref qu])), (qt, .inr (1, [.ref qb, .int (iI L)])), (qb, .inl (cB, 20000, .inl f)), (qd, .inr (2, [.ref qn, .int (iI ct), .int (iI io), .int (iI fp), .ref qt]))] [(cB, .byte)] sz (fun _ => True)) (va_Qi (fun (r : Int32) => fun (u9 : Int × Int × (Nat → Int32)) => match u9 with | (L1, x, f1) => r = (iI x) ∧ ((zFd f f1 L a0 a1 a2 a3 a4) ∧ L1 = L + 20 ∧ x = L + 20)) (fun u9 t => zB D ((fun (u9 : Int × Int × (Nat → Int32)) => match u9 with | (L1, x, f1) => [(qg, .inr (0, [.ref qt, .ref qd, .ref qa, .ref qu])), (qt, .inr (1, [.ref qb, .int (iI L1)])), (qb, .inl (cB, 20000, .inl f1)), (qd, .inr (2, [.ref qn, .int (iI ct), .int (iI 0), .int (iI fp), .ref qt]))]) u9) ((fun (u9 : Int × Int × (Nat → Int32)) => match u9 with | (L1, x, f1) => [(cB, .byte)]) u9) (va_A [(qg, .inr (0, [.ref qt, .ref qd, .ref qa, .ref qu])), (qt, .inr (1, [.ref qb, .int (iI L)])), (qb, .inl (cB, 20000, .inl f)), (qd, .inr (2, [.ref qn, .int (iI ct), .int (iI io), .int (iI fp), .ref qt]))] sz) t) (va_A [(qg, .inr (0, [.ref qt, .ref qd, .ref qa, .ref qu])), (qt, .inr (1, [.ref qb, .int (iI L)])), (qb, .inl (cB, 20000, .inl f)), (qd, .inr (2, [.ref qn, .int (iI ct), .int (iI io), .int (iI fp), .ref qt]))] sz)) 0 0 (va_A [(qg, .inr (0, [.ref qt, .ref qd, .ref qa, .ref qu])), (qt, .inr (1, [.ref qb, .int (iI L)])), (qb, .inl (cB, 20000, .inl f)), (qd, .inr (2, [.ref qn, .int (iI ct), .int (iI io), .int (iI fp), .ref qt]))] sz) :=
  zMet (Qf := fun A => va_Qi (fun (r : Int32) => fun (u9 : Int × Int × (Nat → Int32)) => match u9 with | (L1, x, f1) => r = (iI x) ∧ ((zFd f f1 L a0 a1 a2 a3 a4) ∧ L1 = L + 20 ∧ x = L + 20)) (fun u9 t => zB D ((fun (u9 : Int × Int × (Nat → Int32)) => match u9 with | (L1, x, f1) => [(qg, .inr (0, [.ref qt, .ref qd, .ref qa, .ref qu])), (qt, .inr (1, [.ref qb, .int (iI L1)])), (qb, .inl (cB, 20000, .inl f1)), (qd, .inr (2, [.ref qn, .int (iI ct), .int (iI 0), .int (iI fp), .ref qt]))]) u9) ((fun (u9 : Int × Int × (Nat → Int32)) => match u9 with | (L1, x, f1) => [(cB, .byte)]) u9) A t) A) (by decide) (Nat.le_of_ble_eq_true rfl) (fun p e s m below meth c A ls hx hb hr hml hown ht hlk hnm hA hK hP hD hX hl => by
    have hS : va_S A s.heap s.heap [] := va_S.rf
    have hl : lv_has ls 6 [(0, .ref qg), (1, .int (iI a0)), (2, .int (iI a1)), (3, .int (iI a2)), (4, .int (iI a3)), (5, .int (iI a4))] := hl
    refine lv_aload_n hx hb d_G_feed_0 rfl (lv_at hl 0 rfl) ?_
    refine va_get (ci := 0) (C := "ZipGuard") (T := F_G) (N := 4) hx hb ht zi_G hown hK hP 0 rfl rfl 0 (by decide) (ht _ zm_395) (fun _ h9 => h9) rfl d_G_feed_1 ?_
    refine lv_bipush (v := iI 20) hx hb d_G_feed_4 (by decide) ?_
    refine zjR (va_runV (As := [.int (iI 20)]) (rest := []) ⟨hx, hb, hml, hown, ht⟩ (a_T_has l D qt qb cB f L 20 (by omega) (by omega)) (cwV 1 ht (zt_goodV zm_520 zm_521 zm_522 zm_66 zm_523) rfl rfl rfl (by decide +kernel) ⟨Nat.le_of_ble_eq_true rfl, Nat.le_of_ble_eq_true rfl⟩) (zpreRV zBlind_t hK hP [1, 2] [0] rfl rfl (fun _ _ _ => trivial) (va_recv (q := ("ZipGuard$Tape", F_T, 2)) hK hP rfl (q0 := 1) (ci := 1) rfl)) rfl rfl hl.1 rfl (lv_room (Nat.le_of_ble_eq_true rfl)) d_G_feed_6 ⟨Nat.le_of_ble_eq_true rfl, Nat.le_of_ble_eq_true rfl⟩) (fun r1 hp2 => ?_)
    obtain ⟨x_3, he_4, hp2⟩ := hp2
    subst he_4
    refine zv_if_ne (tgt := 20) hx hb d_G_feed_9 (by decide) (by omega) (fun hc_5 => ?_) (fun hc_5 => ?_)
    · skip
      refine lv_aload_n hx hb d_G_feed_20 rfl (lv_at hl 0 rfl) ?_
      refine va_get (ci := 0) (C := "ZipGuard") (T := F_G) (N := 4) hx hb ht zi_G hown hK hP 0 rfl rfl 1 (by decide) (ht _ zm_396) (fun _ h9 => h9) rfl d_G_feed_21 ?_
      refine zjv (wr := [(qg, .inr (0, [.ref qt, .ref qd, .ref qa, .ref qu])), (qt, .inr (1, [.ref qb, .int (iI L)])), (qb, .inl (cB, 20000, .inl f))]) (va_runV (As := []) (rest := []) ⟨hx, hb, hml, hown, ht⟩ (a_D_shut l D _ qd qn ct io fp qt ) (cwV 0 ht (zt_goodV zm_544 zm_545 zm_546 zm_67 zm_547) rfl rfl rfl (by decide +kernel) ⟨Nat.le_of_ble_eq_true rfl, Nat.le_of_ble_eq_true rfl⟩) (zpreV zBlind_t hK hP hD [3] [] rfl (by decide) rfl (fun _ _ _ => trivial) (va_recv (q := ("ZipGuard$Directory", F_D, 5)) hK hP rfl (q0 := 3) (ci := 2) rfl)) rfl rfl hl.1 rfl (lv_room (Nat.le_of_ble_eq_true rfl)) d_G_feed_24 ⟨Nat.le_of_ble_eq_true rfl, Nat.le_of_ble_eq_true rfl⟩) hK hP hD hS hA [3] [0, 1, 2] rfl rfl (by decide) (by decide) (fun u9 H locs hp7 hP hD hK hS => ?_)
      have hP : va_P D zcl [(qg, .inr (0, [.ref qt, .ref qd, .ref qa, .ref qu])), (qt, .inr (1, [.ref qb, .int (iI L)])), (qb, .inl (cB, 20000, .inl f)), (qd, .inr (2, [.ref qn, .int (iI ct), .int (iI 0), .int (iI fp), .ref qt]))] H := hP
      have hD : va_D A [(qg, .inr (0, [.ref qt, .ref qd, .ref qa, .ref qu])), (qt, .inr (1, [.ref qb, .int (iI L)])), (qb, .inl (cB, 20000, .inl f)), (qd, .inr (2, [.ref qn, .int (iI ct), .int (iI 0), .int (iI fp), .ref qt]))] := hD
      have hK : va_K D zcl [(cB, .byte)] s := hK
      refine lv_aload_n hx hb d_G_feed_27 rfl (lv_at hl 0 rfl) ?_
      refine va_get (ci := 0) (C := "ZipGuard") (T := F_G) (N := 4) hx hb ht zi_G hown hK hP 0 rfl rfl 0 (by decide) (ht _ zm_395) (fun _ h9 => h9) rfl d_G_feed_28 ?_
      refine lv_iload_n hx hb d_G_feed_31 rfl (lv_at hl 1 rfl) ?_
      refine zjv (wr := [(qg, .inr (0, [.ref qt, .ref qd, .ref qa, .ref qu])), (qd, .inr (2, [.ref qn, .int (iI ct), .int (iI 0), .int (iI fp), .ref qt]))]) (va_runV (As := [.int (iI a0)]) (rest := []) ⟨hx, hb, hml, hown, ht⟩ (a_T_app l D _ qt qb cB f L a0 (by omega) (by omega)) (cwV 1 ht (zt_goodV zm_548 zm_549 zm_550 zm_66 zm_551) rfl rfl rfl (by decide +kernel) ⟨Nat.le_of_ble_eq_true rfl, Nat.le_of_ble_eq_true rfl⟩) (zpreV zBlind_t hK hP hD [1, 2] [0] rfl (by decide) rfl (fun _ _ _ => trivial) (va_recv (q := ("ZipGuard$Tape", F_T, 2)) hK hP rfl (q0 := 1) (ci := 1) rfl)) rfl rfl hl.1 rfl (lv_room (Nat.le_of_ble_eq_true rfl)) d_G_feed_32 ⟨Nat.le_of_ble_eq_true rfl, Nat.le_of_ble_eq_true rfl⟩) hK hP hD hS hA [1, 2] [0, 3] rfl rfl (by decide) (by decide) (fun u9 H locs hp11 hP hD hK hS => ?_)
      obtain ⟨L_8, f_9⟩ := u9
      dsimp only at hp11 hP hD hK
      have hP : va_P D zcl [(qg, .inr (0, [.ref qt, .ref qd, .ref qa, .ref qu])), (qd, .inr (2, [.ref qn, .int (iI ct), .int (iI 0), .int (iI fp), .ref qt])), (qt, .inr (1, [.ref qb, .int (iI L_8)])), (qb, .inl (cB, 20000, .inl f_9))] H := hP
      have hD : va_D A [(qg, .inr (0, [.ref qt, .ref qd, .ref qa, .ref qu])), (qd, .inr (2, [.ref qn, .int (iI ct), .int (iI 0), .int (iI fp), .ref qt])), (qt, .inr (1, [.ref qb, .int (iI L_8)])), (qb, .inl (cB, 20000, .inl f_9))] := hD
      have hK : va_K D zcl [(cB, .byte), (cB, .byte)] s := hK
      have hP := hP.sub (ws' := [(qg, .inr (0, [.ref qt, .ref qd, .ref qa, .ref qu])), (qt, .inr (1, [.ref qb, .int (iI L_8)])), (qb, .inl (cB, 20000, .inl f_9)), (qd, .inr (2, [.ref qn, .int (iI ct), .int (iI 0), .int (iI fp), .ref qt]))]) [0, 2, 3, 1] rfl
      have hD := hD.sub (ws' := [(qg, .inr (0, [.ref qt, .ref qd, .ref qa, .ref qu])), (qt, .inr (1, [.ref qb, .int (iI L_8)])), (qb, .inl (cB, 20000, .inl f_9)), (qd, .inr (2, [.ref qn, .int (iI ct), .int (iI 0), .int (iI fp), .ref qt]))]) [0, 2, 3, 1] (by decide) rfl
      have hK := hK.sub (tys' := [(cB, .byte)]) [0] rfl
      refine lv_aload_n hx hb d_G_feed_35 rfl (lv_at hl 0 rfl) ?_
      refine va_get (ci := 0) (C := "ZipGuard") (T := F_G) (N := 4) hx hb ht zi_G hown hK hP 0 rfl rfl 0 (by decide) (ht _ zm_395) (fun _ h9 => h9) rfl d_G_feed_36 ?_
      refine lv_iload_n hx hb d_G_feed_39 rfl (lv_at hl 2 rfl) ?_
      refine zjv (wr := [(qg, .inr (0, [.ref qt, .ref qd, .ref qa, .ref qu])), (qd, .inr (2, [.ref qn, .int (iI ct), .int (iI 0), .int (iI fp), .ref qt]))]) (va_runV (As := [.int (iI a1)]) (rest := []) ⟨hx, hb, hml, hown, ht⟩ (a_T_app l D _ qt qb cB f_9 L_8 a1 (by omega) (by omega)) (cwV 1 ht (zt_goodV zm_548 zm_549 zm_550 zm_66 zm_551) rfl rfl rfl (by decide +kernel) ⟨Nat.le_of_ble_eq_true rfl, Nat.le_of_ble_eq_true rfl⟩) (zpreV zBlind_t hK hP hD [1, 2] [0] rfl (by decide) rfl (fun _ _ _ => trivial) (va_recv (q := ("ZipGuard$Tape", F_T, 2)) hK hP rfl (q0 := 1) (ci := 1) rfl)) rfl rfl hl.1 rfl (lv_room (Nat.le_of_ble_eq_true rfl)) d_G_feed_40 ⟨Nat.le_of_ble_eq_true rfl, Nat.le_of_ble_eq_true rfl⟩) hK hP hD hS hA [1, 2] [0, 3] rfl rfl (by decide) (by decide) (fun u9 H locs hp15 hP hD hK hS => ?_)
      obtain ⟨L_12, f_13⟩ := u9
      dsimp only at hp15 hP hD hK
      have hP : va_P D zcl [(qg, .inr (0, [.ref qt, .ref qd, .ref qa, .ref qu])), (qd, .inr (2, [.ref qn, .int (iI ct), .int (iI 0), .int (iI fp), .ref qt])), (qt, .inr (1, [.ref qb, .int (iI L_12)])), (qb, .inl (cB, 20000, .inl f_13))] H := hP
      have hD : va_D A [(qg, .inr (0, [.ref qt, .ref qd, .ref qa, .ref qu])), (qd, .inr (2, [.ref qn, .int (iI ct), .int (iI 0), .int (iI fp), .ref qt])), (qt, .inr (1, [.ref qb, .int (iI L_12)])), (qb, .inl (cB, 20000, .inl f_13))] := hD
      have hK : va_K D zcl [(cB, .byte), (cB, .byte)] s := hK
      have hP := hP.sub (ws' := [(qg, .inr (0, [.ref qt, .ref qd, .ref qa, .ref qu])), (qt, .inr (1, [.ref qb, .int (iI L_12)])), (qb, .inl (cB, 20000, .inl f_13)), (qd, .inr (2, [.ref qn, .int (iI ct), .int (iI 0), .int (iI fp), .ref qt]))]) [0, 2, 3, 1] rfl
      have hD := hD.sub (ws' := [(qg, .inr (0, [.ref qt, .ref qd, .ref qa, .ref qu])), (qt, .inr (1, [.ref qb, .int (iI L_12)])), (qb, .inl (cB, 20000, .inl f_13)), (qd, .inr (2, [.ref qn, .int (iI ct), .int (iI 0), .int (iI fp), .ref qt]))]) [0, 2, 3, 1] (by decide) rfl
      have hK := hK.sub (tys' := [(cB, .byte)]) [0] rfl
      refine lv_aload_n hx hb d_G_feed_43 rfl (lv_at hl 0 rfl) ?_
      refine va_get (ci := 0) (C := "ZipGuard") (T := F_G) (N := 4) hx hb ht zi_G hown hK hP 0 rfl rfl 0 (by decide) (ht _ zm_395) (fun _ h9 => h9) rfl d_G_feed_44 ?_
      refine lv_iload_n hx hb d_G_feed_47 rfl (lv_at hl 3 rfl) ?_
      refine zjv (wr := [(qg, .inr (0, [.ref qt, .ref qd, .ref qa, .ref qu])), (qd, .inr (2, [.ref qn, .int (iI ct), .int (iI 0), .int (iI fp), .ref qt]))]) (va_runV (As := [.int (iI a2)]) (rest := []) ⟨hx, hb, hml, hown, ht⟩ (a_T_app l D _ qt qb cB f_13 L_12 a2 (by omega) (by omega)) (cwV 1 ht (zt_goodV zm_548 zm_549 zm_550 zm_66 zm_551) rfl rfl rfl (by decide +kernel) ⟨Nat.le_of_ble_eq_true rfl, Nat.le_of_ble_eq_true rfl⟩) (zpreV zBlind_t hK hP hD [1, 2] [0] rfl (by decide) rfl (fun _ _ _ => trivial) (va_recv (q := ("ZipGuard$Tape", F_T, 2)) hK hP rfl (q0 := 1) (ci := 1) rfl)) rfl rfl hl.1 rfl (lv_room (Nat.le_of_ble_eq_true rfl)) d_G_feed_48 ⟨Nat.le_of_ble_eq_true rfl, Nat.le_of_ble_eq_true rfl⟩) hK hP hD hS hA [1, 2] [0, 3] rfl rfl (by decide) (by decide) (fun u9 H locs hp19 hP hD hK hS => ?_)
      obtain ⟨L_16, f_17⟩ := u9
      dsimp only at hp19 hP hD hK
      have hP : va_P D zcl [(qg, .inr (0, [.ref qt, .ref qd, .ref qa, .ref qu])), (qd, .inr (2, [.ref qn, .int (iI ct), .int (iI 0), .int (iI fp), .ref qt])), (qt, .inr (1, [.ref qb, .int (iI L_16)])), (qb, .inl (cB, 20000, .inl f_17))] H := hP
      have hD : va_D A [(qg, .inr (0, [.ref qt, .ref qd, .ref qa, .ref qu])), (qd, .inr (2, [.ref qn, .int (iI ct), .int (iI 0), .int (iI fp), .ref qt])), (qt, .inr (1, [.ref qb, .int (iI L_16)])), (qb, .inl (cB, 20000, .inl f_17))] := hD
      have hK : va_K D zcl [(cB, .byte), (cB, .byte)] s := hK
      have hP := hP.sub (ws' := [(qg, .inr (0, [.ref qt, .ref qd, .ref qa, .ref qu])), (qt, .inr (1, [.ref qb, .int (iI L_16)])), (qb, .inl (cB, 20000, .inl f_17)), (qd, .inr (2, [.ref qn, .int (iI ct), .int (iI 0), .int (iI fp), .ref qt]))]) [0, 2, 3, 1] rfl
      have hD := hD.sub (ws' := [(qg, .inr (0, [.ref qt, .ref qd, .ref qa, .ref qu])), (qt, .inr (1, [.ref qb, .int (iI L_16)])), (qb, .inl (cB, 20000, .inl f_17)), (qd, .inr (2, [.ref qn, .int (iI ct), .int (iI 0), .int (iI fp), .ref qt]))]) [0, 2, 3, 1] (by decide) rfl
      have hK := hK.sub (tys' := [(cB, .byte)]) [0] rfl
      refine lv_aload_n hx hb d_G_feed_51 rfl (lv_at hl 0 rfl) ?_
      refine va_get (ci := 0) (C := "ZipGuard") (T := F_G) (N := 4) hx hb ht zi_G hown hK hP 0 rfl rfl 0 (by decide) (ht _ zm_395) (fun _ h9 => h9) rfl d_G_feed_52 ?_
      refine lv_iload hx hb d_G_feed_55 (lv_at hl 4 rfl) ?_
      refine zjv (wr := [(qg, .inr (0, [.ref qt, .ref qd, .ref qa, .ref qu])), (qd, .inr (2, [.ref qn, .int (iI ct), .int (iI 0), .int (iI fp), .ref qt]))]) (va_runV (As := [.int (iI a3)]) (rest := []) ⟨hx, hb, hml, hown, ht⟩ (a_T_app l D _ qt qb cB f_17 L_16 a3 (by omega) (by omega)) (cwV 1 ht (zt_goodV zm_548 zm_549 zm_550 zm_66 zm_551) rfl rfl rfl (by decide +kernel) ⟨Nat.le_of_ble_eq_true rfl, Nat.le_of_ble_eq_true rfl⟩) (zpreV zBlind_t hK hP hD [1, 2] [0] rfl (by decide) rfl (fun _ _ _ => trivial) (va_recv (q := ("ZipGuard$Tape", F_T, 2)) hK hP rfl (q0 := 1) (ci := 1) rfl)) rfl rfl hl.1 rfl (lv_room (Nat.le_of_ble_eq_true rfl)) d_G_feed_57 ⟨Nat.le_of_ble_eq_true rfl, Nat.le_of_ble_eq_true rfl⟩) hK hP hD hS hA [1, 2] [0, 3] rfl rfl (by decide) (by decide) (fun u9 H locs hp23 hP hD hK hS => ?_)
      obtain ⟨L_20, f_21⟩ := u9
      dsimp only at hp23 hP hD hK
      have hP : va_P D zcl [(qg, .inr (0, [.ref qt, .ref qd, .ref qa, .ref qu])), (qd, .inr (2, [.ref qn, .int (iI ct), .int (iI 0), .int (iI fp), .ref qt])), (qt, .inr (1, [.ref qb, .int (iI L_20)])), (qb, .inl (cB, 20000, .inl f_21))] H := hP
      have hD : va_D A [(qg, .inr (0, [.ref qt, .ref qd, .ref qa, .ref qu])), (qd, .inr (2, [.ref qn, .int (iI ct), .int (iI 0), .int (iI fp), .ref qt])), (qt, .inr (1, [.ref qb, .int (iI L_20)])), (qb, .inl (cB, 20000, .inl f_21))] := hD
      have hK : va_K D zcl [(cB, .byte), (cB, .byte)] s := hK
      have hP := hP.sub (ws' := [(qg, .inr (0, [.ref qt, .ref qd, .ref qa, .ref qu])), (qt, .inr (1, [.ref qb, .int (iI L_20)])), (qb, .inl (cB, 20000, .inl f_21)), (qd, .inr (2, [.ref qn, .int (iI ct), .int (iI 0), .int (iI fp), .ref qt]))]) [0, 2, 3, 1] rfl
      have hD := hD.sub (ws' := [(qg, .inr (0, [.ref qt, .ref qd, .ref qa, .ref qu])), (qt, .inr (1, [.ref qb, .int (iI L_20)])), (qb, .inl (cB, 20000, .inl f_21)), (qd, .inr (2, [.ref qn, .int (iI ct), .int (iI 0), .int (iI fp), .ref qt]))]) [0, 2, 3, 1] (by decide) rfl
      have hK := hK.sub (tys' := [(cB, .byte)]) [0] rfl
      refine lv_aload_n hx hb d_G_feed_60 rfl (lv_at hl 0 rfl) ?_
      refine va_get (ci := 0) (C := "ZipGuard") (T := F_G) (N := 4) hx hb ht zi_G hown hK hP 0 rfl rfl 0 (by decide) (ht _ zm_395) (fun _ h9 => h9) rfl d_G_feed_61 ?_
      refine lv_iload hx hb d_G_feed_64 (lv_at hl 5 rfl) ?_
      refine zjv (wr := [(qg, .inr (0, [.ref qt, .ref qd, .ref qa, .ref qu])), (qd, .inr (2, [.ref qn, .int (iI ct), .int (iI 0), .int (iI fp), .ref qt]))]) (va_runV (As := [.int (iI a4)]) (rest := []) ⟨hx, hb, hml, hown, ht⟩ (a_T_app l D _ qt qb cB f_21 L_20 a4 (by omega) (by omega)) (cwV 1 ht (zt_goodV zm_548 zm_549 zm_550 zm_66 zm_551) rfl rfl rfl (by decide +kernel) ⟨Nat.le_of_ble_eq_true rfl, Nat.le_of_ble_eq_true rfl⟩) (zpreV zBlind_t hK hP hD [1, 2] [0] rfl (by decide) rfl (fun _ _ _ => trivial) (va_recv (q := ("ZipGuard$Tape", F_T, 2)) hK hP rfl (q0 := 1) (ci := 1) rfl)) rfl rfl hl.1 rfl (lv_room (Nat.le_of_ble_eq_true rfl)) d_G_feed_66 ⟨Nat.le_of_ble_eq_true rfl, Nat.le_of_ble_eq_true rfl⟩) hK hP hD hS hA [1, 2] [0, 3] rfl rfl (by decide) (by decide) (fun u9 H locs hp27 hP hD hK hS => ?_)
      obtain ⟨L_24, f_25⟩ := u9
      dsimp only at hp27 hP hD hK
      have hP : va_P D zcl [(qg, .inr (0, [.ref qt, .ref qd, .ref qa, .ref qu])), (qd, .inr (2, [.ref qn, .int (iI ct), .int (iI 0), .int (iI fp), .ref qt])), (qt, .inr (1, [.ref qb, .int (iI L_24)])), (qb, .inl (cB, 20000, .inl f_25))] H := hP
      have hD : va_D A [(qg, .inr (0, [.ref qt, .ref qd, .ref qa, .ref qu])), (qd, .inr (2, [.ref qn, .int (iI ct), .int (iI 0), .int (iI fp), .ref qt])), (qt, .inr (1, [.ref qb, .int (iI L_24)])), (qb, .inl (cB, 20000, .inl f_25))] := hD
      have hK : va_K D zcl [(cB, .byte), (cB, .byte)] s := hK
      have hP := hP.sub (ws' := [(qg, .inr (0, [.ref qt, .ref qd, .ref qa, .ref qu])), (qt, .inr (1, [.ref qb, .int (iI L_24)])), (qb, .inl (cB, 20000, .inl f_25)), (qd, .inr (2, [.ref qn, .int (iI ct), .int (iI 0), .int (iI fp), .ref qt]))]) [0, 2, 3, 1] rfl
      have hD := hD.sub (ws' := [(qg, .inr (0, [.ref qt, .ref qd, .ref qa, .ref qu])), (qt, .inr (1, [.ref qb, .int (iI L_24)])), (qb, .inl (cB, 20000, .inl f_25)), (qd, .inr (2, [.ref qn, .int (iI ct), .int (iI 0), .int (iI fp), .ref qt]))]) [0, 2, 3, 1] (by decide) rfl
      have hK := hK.sub (tys' := [(cB, .byte)]) [0] rfl
      refine lv_aload_n hx hb d_G_feed_69 rfl (lv_at hl 0 rfl) ?_
      refine va_get (ci := 0) (C := "ZipGuard") (T := F_G) (N := 4) hx hb ht zi_G hown hK hP 0 rfl rfl 0 (by decide) (ht _ zm_395) (fun _ h9 => h9) rfl d_G_feed_70 ?_
      refine va_get (ci := 1) (C := "ZipGuard$Tape") (T := F_T) (N := 2) hx hb ht zi_T hown hK hP 1 rfl rfl 1 (by decide) (ht _ zm_98) (fun _ h9 => h9) rfl d_G_feed_73 ?_
      exact zreti hx hb hr hlk hK hP hD hS (L_24, L_24, f_25) [0, 1, 2, 3] [0] rfl (by decide) rfl (⟨rfl, ⟨zfeed5 (by omega) (by omega) (by omega) (by omega) (by omega) hp11.1 hp15.1 hp19.1 hp23.1 hp27.1, by omega⟩⟩) (Nat.le_of_ble_eq_true rfl) (Nat.le_of_ble_eq_true rfl) d_G_feed_76
    · skip
      exfalso; omega)
set_option maxHeartbeats 4000000 in
set_option maxRecDepth 100000 in
theorem a_G_feedX (l : Launch) (D : va_G) (sz : Nat) (qg : Nat) (qa : Nat) (qu : Nat) (qd : Nat) (qt : Nat) (qb : Nat) (cB : ClassId) (f : Nat → Int32) (L : Int) (a0 : Int) (a1 : Int) (a2 : Int) (a3 : Int) (a4 : Int) (hl9 : l.stackTraces = false) (hL : 0 ≤ L ∧ L ≤ 20000) (hr : 20000 < L + 20) : zTh l y_G_feed (Cond.code y_G_feed prog_1_method_2_code 6 (Option.some Jvm.ClassFile.FieldType.int) :: zt) { frames := 6, cells := 1, slots := 6, locals := 90 } (zPc [.ref qg, .int (iI a0), .int (iI a1), .int (iI a2), .int (iI a3), .int (iI a4)] D [(qg, .inr (0, [.ref qt, .ref qd, .ref qa, .ref qu])), (qt, .inr (1, [.ref qb, .int (iI L)])), (qb, .inl (cB, 20000, .inl f))] [(cB, .byte)] sz (zG)) "java/lang/IllegalStateException" 1 6 :=
  zTh_of (by decide) (Nat.le_of_ble_eq_true rfl) (fun p e s m below meth c A ls hx hb hr hml hown ht hlk hno hA hK hP hD hX hl => by
    have hS : va_S A s.heap s.heap [] := va_S.rf
    have hl : lv_has ls 6 [(0, .ref qg), (1, .int (iI a0)), (2, .int (iI a1)), (3, .int (iI a2)), (4, .int (iI a3)), (5, .int (iI a4))] := hl
    refine lv_aload_n hx hb d_G_feed_0 rfl (lv_at hl 0 rfl) ?_
    refine va_get (ci := 0) (C := "ZipGuard") (T := F_G) (N := 4) hx hb ht zi_G hown hK hP 0 rfl rfl 0 (by decide) (ht _ zm_395) (fun _ h9 => h9) rfl d_G_feed_1 ?_
    refine lv_bipush (v := iI 20) hx hb d_G_feed_4 (by decide) ?_
    refine zjR (va_runV (As := [.int (iI 20)]) (rest := []) ⟨hx, hb, hml, hown, ht⟩ (a_T_has l D qt qb cB f L 20 (by omega) (by omega)) (cwV 1 ht (zt_goodV zm_520 zm_521 zm_522 zm_66 zm_523) rfl rfl rfl (by decide +kernel) ⟨Nat.le_of_ble_eq_true rfl, Nat.le_of_ble_eq_true rfl⟩) (zpreRV zBlind_t hK hP [1, 2] [0] rfl rfl (fun _ _ _ => trivial) (va_recv (q := ("ZipGuard$Tape", F_T, 2)) hK hP rfl (q0 := 1) (ci := 1) rfl)) rfl rfl hl.1 rfl (lv_room (Nat.le_of_ble_eq_true rfl)) d_G_feed_6 ⟨Nat.le_of_ble_eq_true rfl, Nat.le_of_ble_eq_true rfl⟩) (fun r1 hp2 => ?_)
    obtain ⟨x_3, he_4, hp2⟩ := hp2
    subst he_4
    refine zv_if_ne (tgt := 20) hx hb d_G_feed_9 (by decide) (by omega) (fun hc_5 => ?_) (fun hc_5 => ?_)
    · skip
      exfalso; omega
    · skip
      exact zthrow (cls := zISE) (names := zUP) (ik := 45) (ic := 47) (rest := []) hx hb hl9 hown (by decide) (by decide) (ht _ zm_524) (ht _ zm_80) (zhat zkey_ISE ht hX) (hl.1.trans hml.symm) d_G_feed_12 d_G_feed_15 d_G_feed_16 d_G_feed_19 hno (Nat.le_of_ble_eq_true rfl) (Nat.le_of_ble_eq_true rfl) (Nat.le_of_ble_eq_true rfl) (Nat.le_of_ble_eq_true rfl) hlk (Nat.le_of_ble_eq_true rfl) (Nat.le_of_ble_eq_true rfl))
set_option maxHeartbeats 4000000 in
set_option maxRecDepth 100000 in
theorem a_G_end (l : Launch) (D : va_G) (sz : Nat) (qg : Nat) (qa : Nat) (qu : Nat) (qd : Nat) (qt : Nat) (qb : Nat) (qn : Nat) (L : Int) (ct : Int) (io : Int) (fp : Int) (n : Int) (hL : 0 ≤ L ∧ L ≤ 20000) (hn : 0 ≤ n ∧ n ≤ L) : Met l y_G_end (Cond.code y_G_end prog_1_method_3_code 2 (Option.none : Option Jvm.ClassFile.FieldType) :: zt) { frames := 1, cells := 0, slots := 0, locals := 21 } (zPc [.ref qg, .int (iI n)] D [(qg, .inr (0, [.ref qt, .ref qd, .ref qa, .ref qu])), (qt, .inr (1, [.ref qb, .int (iI L)])), (qd, .inr (2, [.ref qn, .int (iI ct), .int (iI io), .int (iI fp), .ref qt]))] [] sz (fun _ => True)) (va_Qv (fun (_ : Unit) => True) (fun u9 t => zB D ((fun (_ : Unit) => [(qg, .inr (0, [.ref qt, .ref qd, .ref qa, .ref qu])), (qt, .inr (1, [.ref qb, .int (iI n)])), (qd, .inr (2, [.ref qn, .int (iI ct), .int (iI 0), .int (iI fp), .ref qt]))]) u9) ((fun (_ : Unit) => []) u9) (va_A [(qg, .inr (0, [.ref qt, .ref qd, .ref qa, .ref qu])), (qt, .inr (1, [.ref qb, .int (iI L)])), (qd, .inr (2, [.ref qn, .int (iI ct), .int (iI io), .int (iI fp), .ref qt]))] sz) t) (va_A [(qg, .inr (0, [.ref qt, .ref qd, .ref qa, .ref qu])), (qt, .inr (1, [.ref qb, .int (iI L)])), (qd, .inr (2, [.ref qn, .int (iI ct), .int (iI io), .int (iI fp), .ref qt]))] sz)) 0 0 (va_A [(qg, .inr (0, [.ref qt, .ref qd, .ref qa, .ref qu])), (qt, .inr (1, [.ref qb, .int (iI L)])), (qd, .inr (2, [.ref qn, .int (iI ct), .int (iI io), .int (iI fp), .ref qt]))] sz) :=
  zMet (Qf := fun A => va_Qv (fun (_ : Unit) => True) (fun u9 t => zB D ((fun (_ : Unit) => [(qg, .inr (0, [.ref qt, .ref qd, .ref qa, .ref qu])), (qt, .inr (1, [.ref qb, .int (iI n)])), (qd, .inr (2, [.ref qn, .int (iI ct), .int (iI 0), .int (iI fp), .ref qt]))]) u9) ((fun (_ : Unit) => []) u9) A t) A) (by decide) (Nat.le_of_ble_eq_true rfl) (fun p e s m below meth c A ls hx hb hr hml hown ht hlk hnm hA hK hP hD hX hl => by
    have hS : va_S A s.heap s.heap [] := va_S.rf
    have hl : lv_has ls 2 [(0, .ref qg), (1, .int (iI n))] := hl
    refine lv_iload_n hx hb d_G_end_0 rfl (lv_at hl 1 rfl) ?_
    refine zv_if_lt (tgt := 15) hx hb d_G_end_1 (by decide) (by omega) (fun hc_1 => by omega) (fun hc_1 => ?_)
    refine lv_iload_n hx hb d_G_end_4 rfl (lv_at hl 1 rfl) ?_
    refine lv_aload_n hx hb d_G_end_5 rfl (lv_at hl 0 rfl) ?_
    refine va_get (ci := 0) (C := "ZipGuard") (T := F_G) (N := 4) hx hb ht zi_G hown hK hP 0 rfl rfl 0 (by decide) (ht _ zm_395) (fun _ h9 => h9) rfl d_G_end_6 ?_
    refine va_get (ci := 1) (C := "ZipGuard$Tape") (T := F_T) (N := 2) hx hb ht zi_T hown hK hP 1 rfl rfl 1 (by decide) (ht _ zm_98) (fun _ h9 => h9) rfl d_G_end_9 ?_
    refine zv_icmp_le (tgt := 23) hx hb d_G_end_12 (by decide) (by omega) (by omega) (fun hc_2 => ?_) (fun hc_2 => by omega)
    refine lv_aload_n hx hb d_G_end_23 rfl (lv_at hl 0 rfl) ?_
    refine va_get (ci := 0) (C := "ZipGuard") (T := F_G) (N := 4) hx hb ht zi_G hown hK hP 0 rfl rfl 1 (by decide) (ht _ zm_396) (fun _ h9 => h9) rfl d_G_end_24 ?_
    refine zjv (wr := [(qg, .inr (0, [.ref qt, .ref qd, .ref qa, .ref qu])), (qt, .inr (1, [.ref qb, .int (iI L)]))]) (va_runV (As := []) (rest := []) ⟨hx, hb, hml, hown, ht⟩ (a_D_shut l D _ qd qn ct io fp qt ) (cwV 0 ht (zt_goodV zm_544 zm_545 zm_546 zm_67 zm_547) rfl rfl rfl (by decide +kernel) ⟨Nat.le_of_ble_eq_true rfl, Nat.le_of_ble_eq_true rfl⟩) (zpreV zBlind_t hK hP hD [2] [] rfl (by decide) rfl (fun _ _ _ => trivial) (va_recv (q := ("ZipGuard$Directory", F_D, 5)) hK hP rfl (q0 := 2) (ci := 2) rfl)) rfl rfl hl.1 rfl (lv_room (Nat.le_of_ble_eq_true rfl)) d_G_end_27 ⟨Nat.le_of_ble_eq_true rfl, Nat.le_of_ble_eq_true rfl⟩) hK hP hD hS hA [2] [0, 1] rfl rfl (by decide) (by decide) (fun u9 H locs hp4 hP hD hK hS => ?_)
    have hP : va_P D zcl [(qg, .inr (0, [.ref qt, .ref qd, .ref qa, .ref qu])), (qt, .inr (1, [.ref qb, .int (iI L)])), (qd, .inr (2, [.ref qn, .int (iI ct), .int (iI 0), .int (iI fp), .ref qt]))] H := hP
    have hD : va_D A [(qg, .inr (0, [.ref qt, .ref qd, .ref qa, .ref qu])), (qt, .inr (1, [.ref qb, .int (iI L)])), (qd, .inr (2, [.ref qn, .int (iI ct), .int (iI 0), .int (iI fp), .ref qt]))] := hD
    have hK : va_K D zcl [] s := hK
    refine lv_aload_n hx hb d_G_end_30 rfl (lv_at hl 0 rfl) ?_
    refine va_get (ci := 0) (C := "ZipGuard") (T := F_G) (N := 4) hx hb ht zi_G hown hK hP 0 rfl rfl 0 (by decide) (ht _ zm_395) (fun _ h9 => h9) rfl d_G_end_31 ?_
    refine lv_iload_n hx hb d_G_end_34 rfl (lv_at hl 1 rfl) ?_
    refine zjv (wr := [(qg, .inr (0, [.ref qt, .ref qd, .ref qa, .ref qu])), (qd, .inr (2, [.ref qn, .int (iI ct), .int (iI 0), .int (iI fp), .ref qt]))]) (va_runV (As := [.int (iI n)]) (rest := []) ⟨hx, hb, hml, hown, ht⟩ (a_T_keep l D _ qt qb L n (by omega) (by omega)) (cwV 1 ht (zt_goodV zm_566 zm_567 zm_568 zm_66 zm_569) rfl rfl rfl (by decide +kernel) ⟨Nat.le_of_ble_eq_true rfl, Nat.le_of_ble_eq_true rfl⟩) (zpreV zBlind_t hK hP hD [1] [] rfl (by decide) rfl (fun _ _ _ => trivial) (va_recv (q := ("ZipGuard$Tape", F_T, 2)) hK hP rfl (q0 := 1) (ci := 1) rfl)) rfl rfl hl.1 rfl (lv_room (Nat.le_of_ble_eq_true rfl)) d_G_end_35 ⟨Nat.le_of_ble_eq_true rfl, Nat.le_of_ble_eq_true rfl⟩) hK hP hD hS hA [1] [0, 2] rfl rfl (by decide) (by decide) (fun u9 H locs hp6 hP hD hK hS => ?_)
    have hP : va_P D zcl [(qg, .inr (0, [.ref qt, .ref qd, .ref qa, .ref qu])), (qd, .inr (2, [.ref qn, .int (iI ct), .int (iI 0), .int (iI fp), .ref qt])), (qt, .inr (1, [.ref qb, .int (iI n)]))] H := hP
    have hD : va_D A [(qg, .inr (0, [.ref qt, .ref qd, .ref qa, .ref qu])), (qd, .inr (2, [.ref qn, .int (iI ct), .int (iI 0), .int (iI fp), .ref qt])), (qt, .inr (1, [.ref qb, .int (iI n)]))] := hD
    have hK : va_K D zcl [] s := hK
    have hP := hP.sub (ws' := [(qg, .inr (0, [.ref qt, .ref qd, .ref qa, .ref qu])), (qt, .inr (1, [.ref qb, .int (iI n)])), (qd, .inr (2, [.ref qn, .int (iI ct), .int (iI 0), .int (iI fp), .ref qt]))]) [0, 2, 1] rfl
    have hD := hD.sub (ws' := [(qg, .inr (0, [.ref qt, .ref qd, .ref qa, .ref qu])), (qt, .inr (1, [.ref qb, .int (iI n)])), (qd, .inr (2, [.ref qn, .int (iI ct), .int (iI 0), .int (iI fp), .ref qt]))]) [0, 2, 1] (by decide) rfl
    have hK := hK.sub (tys' := []) [] rfl
    exact zretv hx hb hr hlk hK hP hD hS () [0, 1, 2] [] rfl (by decide) rfl (trivial) (Nat.le_of_ble_eq_true rfl) (Nat.le_of_ble_eq_true rfl) d_G_end_38)
set_option maxHeartbeats 4000000 in
set_option maxRecDepth 100000 in
theorem a_G_endX (l : Launch) (D : va_G) (sz : Nat) (qg : Nat) (qa : Nat) (qu : Nat) (qd : Nat) (qt : Nat) (qb : Nat) (L : Int) (n : Int) (hl9 : l.stackTraces = false) (hL : 0 ≤ L ∧ L ≤ 20000) (hn : -2147483648 ≤ n ∧ n ≤ 2147483647) (hbad : n < 0 ∨ L < n) : zTh l y_G_end (Cond.code y_G_end prog_1_method_3_code 2 (Option.none : Option Jvm.ClassFile.FieldType) :: zt) { frames := 6, cells := 1, slots := 6, locals := 90 } (zPc [.ref qg, .int (iI n)] D [(qg, .inr (0, [.ref qt, .ref qd, .ref qa, .ref qu])), (qt, .inr (1, [.ref qb, .int (iI L)]))] [] sz (zG)) "java/lang/IllegalArgumentException" 1 6 :=
  zTh_of (by decide) (Nat.le_of_ble_eq_true rfl) (fun p e s m below meth c A ls hx hb hr hml hown ht hlk hno hA hK hP hD hX hl => by
    have hS : va_S A s.heap s.heap [] := va_S.rf
    have hl : lv_has ls 2 [(0, .ref qg), (1, .int (iI n))] := hl
    refine lv_iload_n hx hb d_G_end_0 rfl (lv_at hl 1 rfl) ?_
    refine zv_if_lt (tgt := 15) hx hb d_G_end_1 (by decide) (by omega) (fun hc_1 => ?_) (fun hc_1 => ?_)
    · skip
      exact zthrow (cls := zIAE) (names := zUP) (ik := 59) (ic := 61) (rest := []) hx hb hl9 hown (by decide) (by decide) (ht _ zm_561) (ht _ zm_77) (zhat zkey_IAE ht hX) (hl.1.trans hml.symm) d_G_end_15 d_G_end_18 d_G_end_19 d_G_end_22 hno (Nat.le_of_ble_eq_true rfl) (Nat.le_of_ble_eq_true rfl) (Nat.le_of_ble_eq_true rfl) (Nat.le_of_ble_eq_true rfl) hlk (Nat.le_of_ble_eq_true rfl) (Nat.le_of_ble_eq_true rfl)
    · skip
      refine lv_iload_n hx hb d_G_end_4 rfl (lv_at hl 1 rfl) ?_
      refine lv_aload_n hx hb d_G_end_5 rfl (lv_at hl 0 rfl) ?_
      refine va_get (ci := 0) (C := "ZipGuard") (T := F_G) (N := 4) hx hb ht zi_G hown hK hP 0 rfl rfl 0 (by decide) (ht _ zm_395) (fun _ h9 => h9) rfl d_G_end_6 ?_
      refine va_get (ci := 1) (C := "ZipGuard$Tape") (T := F_T) (N := 2) hx hb ht zi_T hown hK hP 1 rfl rfl 1 (by decide) (ht _ zm_98) (fun _ h9 => h9) rfl d_G_end_9 ?_
      refine zv_icmp_le (tgt := 23) hx hb d_G_end_12 (by decide) (by omega) (by omega) (fun hc_2 => ?_) (fun hc_2 => ?_)
      · skip
        exfalso; omega
      · skip
        exact zthrow (cls := zIAE) (names := zUP) (ik := 59) (ic := 61) (rest := []) hx hb hl9 hown (by decide) (by decide) (ht _ zm_561) (ht _ zm_77) (zhat zkey_IAE ht hX) (hl.1.trans hml.symm) d_G_end_15 d_G_end_18 d_G_end_19 d_G_end_22 hno (Nat.le_of_ble_eq_true rfl) (Nat.le_of_ble_eq_true rfl) (Nat.le_of_ble_eq_true rfl) (Nat.le_of_ble_eq_true rfl) hlk (Nat.le_of_ble_eq_true rfl) (Nat.le_of_ble_eq_true rfl))
set_option maxHeartbeats 4000000 in
set_option maxRecDepth 100000 in
theorem a_G_alter (l : Launch) (D : va_G) (sz : Nat) (qg : Nat) (qa : Nat) (qu : Nat) (qd : Nat) (qt : Nat) (qb : Nat) (cB : ClassId) (f : Nat → Int32) (L : Int) (i : Int) (b : Int) (hL : 0 ≤ L ∧ L ≤ 20000) (hi : 0 ≤ i ∧ i < L) : Met l y_G_alter (Cond.code y_G_alter prog_1_method_4_code 3 (Option.some Jvm.ClassFile.FieldType.int) :: zt) { frames := 2, cells := 0, slots := 0, locals := 44 } (zPc [.ref qg, .int (iI i), .int (iI b)] D [(qg, .inr (0, [.ref qt, .ref qd, .ref qa, .ref qu])), (qt, .inr (1, [.ref qb, .int (iI L)])), (qb, .inl (cB, 20000, .inl f))] [(cB, .byte)] sz (fun _ => True)) (va_Qi (fun (r : Int32) => fun (u9 : Int × (Nat → Int32)) => match u9 with | (x, f1) => r = (iI x) ∧ ((x = zB1 f i ∧ f1 = upd f i.toNat (zcb b)) ∧ 0 ≤ x ∧ x ≤ 255)) (fun u9 t => zB D ((fun (u9 : Int × (Nat → Int32)) => match u9 with | (x, f1) => [(qg, .inr (0, [.ref qt, .ref qd, .ref qa, .ref qu])), (qt, .inr (1, [.ref qb, .int (iI L)])), (qb, .inl (cB, 20000, .inl f1))]) u9) ((fun (u9 : Int × (Nat → Int32)) => match u9 with | (x, f1) => [(cB, .byte)]) u9) (va_A [(qg, .inr (0, [.ref qt, .ref qd, .ref qa, .ref qu])), (qt, .inr (1, [.ref qb, .int (iI L)])), (qb, .inl (cB, 20000, .inl f))] sz) t) (va_A [(qg, .inr (0, [.ref qt, .ref qd, .ref qa, .ref qu])), (qt, .inr (1, [.ref qb, .int (iI L)])), (qb, .inl (cB, 20000, .inl f))] sz)) 0 0 (va_A [(qg, .inr (0, [.ref qt, .ref qd, .ref qa, .ref qu])), (qt, .inr (1, [.ref qb, .int (iI L)])), (qb, .inl (cB, 20000, .inl f))] sz) :=
  zMet (Qf := fun A => va_Qi (fun (r : Int32) => fun (u9 : Int × (Nat → Int32)) => match u9 with | (x, f1) => r = (iI x) ∧ ((x = zB1 f i ∧ f1 = upd f i.toNat (zcb b)) ∧ 0 ≤ x ∧ x ≤ 255)) (fun u9 t => zB D ((fun (u9 : Int × (Nat → Int32)) => match u9 with | (x, f1) => [(qg, .inr (0, [.ref qt, .ref qd, .ref qa, .ref qu])), (qt, .inr (1, [.ref qb, .int (iI L)])), (qb, .inl (cB, 20000, .inl f1))]) u9) ((fun (u9 : Int × (Nat → Int32)) => match u9 with | (x, f1) => [(cB, .byte)]) u9) A t) A) (by decide) (Nat.le_of_ble_eq_true rfl) (fun p e s m below meth c A ls hx hb hr hml hown ht hlk hnm hA hK hP hD hX hl => by
    have hS : va_S A s.heap s.heap [] := va_S.rf
    have hl : lv_has ls 3 [(0, .ref qg), (1, .int (iI i)), (2, .int (iI b))] := hl
    refine lv_iload_n hx hb d_G_alter_0 rfl (lv_at hl 1 rfl) ?_
    refine zv_if_lt (tgt := 15) hx hb d_G_alter_1 (by decide) (by omega) (fun hc_1 => by omega) (fun hc_1 => ?_)
    refine lv_iload_n hx hb d_G_alter_4 rfl (lv_at hl 1 rfl) ?_
    refine lv_aload_n hx hb d_G_alter_5 rfl (lv_at hl 0 rfl) ?_
    refine va_get (ci := 0) (C := "ZipGuard") (T := F_G) (N := 4) hx hb ht zi_G hown hK hP 0 rfl rfl 0 (by decide) (ht _ zm_395) (fun _ h9 => h9) rfl d_G_alter_6 ?_
    refine va_get (ci := 1) (C := "ZipGuard$Tape") (T := F_T) (N := 2) hx hb ht zi_T hown hK hP 1 rfl rfl 1 (by decide) (ht _ zm_98) (fun _ h9 => h9) rfl d_G_alter_9 ?_
    refine zv_icmp_lt (tgt := 23) hx hb d_G_alter_12 (by decide) (by omega) (by omega) (fun hc_2 => ?_) (fun hc_2 => by omega)
    refine lv_aload_n hx hb d_G_alter_23 rfl (lv_at hl 0 rfl) ?_
    refine va_get (ci := 0) (C := "ZipGuard") (T := F_G) (N := 4) hx hb ht zi_G hown hK hP 0 rfl rfl 0 (by decide) (ht _ zm_395) (fun _ h9 => h9) rfl d_G_alter_24 ?_
    refine lv_iload_n hx hb d_G_alter_27 rfl (lv_at hl 1 rfl) ?_
    refine lv_iload_n hx hb d_G_alter_28 rfl (lv_at hl 2 rfl) ?_
    refine zji (wr := [(qg, .inr (0, [.ref qt, .ref qd, .ref qa, .ref qu]))]) (va_runV (As := [.int (iI i), .int (iI b)]) (rest := []) ⟨hx, hb, hml, hown, ht⟩ (a_T_rep l D _ qt qb cB f L i b (by omega) (by omega)) (cwV 2 ht (zt_goodV zm_592 zm_593 zm_594 zm_66 zm_595) rfl rfl rfl (by decide +kernel) ⟨Nat.le_of_ble_eq_true rfl, Nat.le_of_ble_eq_true rfl⟩) (zpreV zBlind_t hK hP hD [1, 2] [0] rfl (by decide) rfl (fun _ _ _ => trivial) (va_recv (q := ("ZipGuard$Tape", F_T, 2)) hK hP rfl (q0 := 1) (ci := 1) rfl)) rfl rfl hl.1 rfl (lv_room (Nat.le_of_ble_eq_true rfl)) d_G_alter_29 ⟨Nat.le_of_ble_eq_true rfl, Nat.le_of_ble_eq_true rfl⟩) hK hP hD hS hA [1, 2] [0] rfl rfl (by decide) (by decide) (fun r5 u9 H locs hp6 hP hD hK hS => ?_)
    obtain ⟨x_3, f_4⟩ := u9
    dsimp only at hp6 hP hD hK
    have hP : va_P D zcl [(qg, .inr (0, [.ref qt, .ref qd, .ref qa, .ref qu])), (qt, .inr (1, [.ref qb, .int (iI L)])), (qb, .inl (cB, 20000, .inl f_4))] H := hP
    have hD : va_D A [(qg, .inr (0, [.ref qt, .ref qd, .ref qa, .ref qu])), (qt, .inr (1, [.ref qb, .int (iI L)])), (qb, .inl (cB, 20000, .inl f_4))] := hD
    have hK : va_K D zcl [(cB, .byte), (cB, .byte)] s := hK
    obtain ⟨he_7, hp6⟩ := hp6
    subst he_7
    have hP := hP.sub (ws' := [(qg, .inr (0, [.ref qt, .ref qd, .ref qa, .ref qu])), (qt, .inr (1, [.ref qb, .int (iI L)])), (qb, .inl (cB, 20000, .inl f_4))]) [0, 1, 2] rfl
    have hD := hD.sub (ws' := [(qg, .inr (0, [.ref qt, .ref qd, .ref qa, .ref qu])), (qt, .inr (1, [.ref qb, .int (iI L)])), (qb, .inl (cB, 20000, .inl f_4))]) [0, 1, 2] (by decide) rfl
    have hK := hK.sub (tys' := [(cB, .byte)]) [0] rfl
    exact zreti hx hb hr hlk hK hP hD hS (x_3, f_4) [0, 1, 2] [0] rfl (by decide) rfl (⟨rfl, hp6⟩) (Nat.le_of_ble_eq_true rfl) (Nat.le_of_ble_eq_true rfl) d_G_alter_32)
set_option maxHeartbeats 4000000 in
set_option maxRecDepth 100000 in
theorem a_G_alterX (l : Launch) (D : va_G) (sz : Nat) (qg : Nat) (qa : Nat) (qu : Nat) (qd : Nat) (qt : Nat) (qb : Nat) (L : Int) (i : Int) (b : Int) (hl9 : l.stackTraces = false) (hL : 0 ≤ L ∧ L ≤ 20000) (hi : -2147483648 ≤ i ∧ i ≤ 2147483647) (hbad : i < 0 ∨ L ≤ i) : zTh l y_G_alter (Cond.code y_G_alter prog_1_method_4_code 3 (Option.some Jvm.ClassFile.FieldType.int) :: zt) { frames := 6, cells := 1, slots := 6, locals := 90 } (zPc [.ref qg, .int (iI i), .int (iI b)] D [(qg, .inr (0, [.ref qt, .ref qd, .ref qa, .ref qu])), (qt, .inr (1, [.ref qb, .int (iI L)]))] [] sz (zG)) "java/lang/IndexOutOfBoundsException" 1 6 :=
  zTh_of (by decide) (Nat.le_of_ble_eq_true rfl) (fun p e s m below meth c A ls hx hb hr hml hown ht hlk hno hA hK hP hD hX hl => by
    have hS : va_S A s.heap s.heap [] := va_S.rf
    have hl : lv_has ls 3 [(0, .ref qg), (1, .int (iI i)), (2, .int (iI b))] := hl
    refine lv_iload_n hx hb d_G_alter_0 rfl (lv_at hl 1 rfl) ?_
    refine zv_if_lt (tgt := 15) hx hb d_G_alter_1 (by decide) (by omega) (fun hc_1 => ?_) (fun hc_1 => ?_)
    · skip
      exact zthrow (cls := zIOB) (names := zUP) (ik := 65) (ic := 67) (rest := []) hx hb hl9 hown (by decide) (by decide) (ht _ zm_578) (ht _ zm_78) (zhat zkey_IOB ht hX) (hl.1.trans hml.symm) d_G_alter_15 d_G_alter_18 d_G_alter_19 d_G_alter_22 hno (Nat.le_of_ble_eq_true rfl) (Nat.le_of_ble_eq_true rfl) (Nat.le_of_ble_eq_true rfl) (Nat.le_of_ble_eq_true rfl) hlk (Nat.le_of_ble_eq_true rfl) (Nat.le_of_ble_eq_true rfl)
    · skip
      refine lv_iload_n hx hb d_G_alter_4 rfl (lv_at hl 1 rfl) ?_
      refine lv_aload_n hx hb d_G_alter_5 rfl (lv_at hl 0 rfl) ?_
      refine va_get (ci := 0) (C := "ZipGuard") (T := F_G) (N := 4) hx hb ht zi_G hown hK hP 0 rfl rfl 0 (by decide) (ht _ zm_395) (fun _ h9 => h9) rfl d_G_alter_6 ?_
      refine va_get (ci := 1) (C := "ZipGuard$Tape") (T := F_T) (N := 2) hx hb ht zi_T hown hK hP 1 rfl rfl 1 (by decide) (ht _ zm_98) (fun _ h9 => h9) rfl d_G_alter_9 ?_
      refine zv_icmp_lt (tgt := 23) hx hb d_G_alter_12 (by decide) (by omega) (by omega) (fun hc_2 => ?_) (fun hc_2 => ?_)
      · skip
        exfalso; omega
      · skip
        exact zthrow (cls := zIOB) (names := zUP) (ik := 65) (ic := 67) (rest := []) hx hb hl9 hown (by decide) (by decide) (ht _ zm_578) (ht _ zm_78) (zhat zkey_IOB ht hX) (hl.1.trans hml.symm) d_G_alter_15 d_G_alter_18 d_G_alter_19 d_G_alter_22 hno (Nat.le_of_ble_eq_true rfl) (Nat.le_of_ble_eq_true rfl) (Nat.le_of_ble_eq_true rfl) (Nat.le_of_ble_eq_true rfl) hlk (Nat.le_of_ble_eq_true rfl) (Nat.le_of_ble_eq_true rfl))
set_option maxHeartbeats 4000000 in
set_option maxRecDepth 100000 in
theorem a_G_place (l : Launch) (D : va_G) (qg : Nat) (qa : Nat) (qu : Nat) (qd : Nat) (qt : Nat) (qn : Nat) (ct : Int) (io : Int) (fp : Int)  : Met l y_G_place (Cond.code y_G_place prog_1_method_6_code 1 (Option.some Jvm.ClassFile.FieldType.int) :: zt) { frames := 0, cells := 0, slots := 0, locals := 0 } (zPcR [.ref qg] D [(qg, .inr (0, [.ref qt, .ref qd, .ref qa, .ref qu])), (qd, .inr (2, [.ref qn, .int (iI ct), .int (iI io), .int (iI fp), .ref qt]))] [] (fun _ => True)) (zQR (fun (r : Int32) => ∃ x : Int, r = iI x ∧ (x = fp))) 0 0 (fun _ => False) :=
  zMetR (by decide) (Nat.le_of_ble_eq_true rfl) (fun p e s m below meth c ls hx hb hr hml hown ht hlk hK hP hX hl => by
    have hl : lv_has ls 1 [(0, .ref qg)] := hl
    refine lv_aload_n hx hb d_G_place_0 rfl (lv_at hl 0 rfl) ?_
    refine va_get (ci := 0) (C := "ZipGuard") (T := F_G) (N := 4) hx hb ht zi_G hown hK hP 0 rfl rfl 1 (by decide) (ht _ zm_396) (fun _ h9 => h9) rfl d_G_place_1 ?_
    refine va_get (ci := 2) (C := "ZipGuard$Directory") (T := F_D) (N := 5) hx hb ht zi_D hown hK hP 1 rfl rfl 3 (by decide) (ht _ zm_186) (fun _ h9 => h9) rfl d_G_place_4 ?_
    exact zretR hx hb hr hlk (⟨_, rfl, by omega⟩) d_G_place_7)
set_option maxHeartbeats 4000000 in
set_option maxRecDepth 100000 in
theorem a_G_lim (l : Launch) (D : va_G) (sz : Nat) (qg : Nat) (qt : Nat) (qd : Nat) (qu : Nat) (qa : Nat) (qo : Nat) (bu : Nat) (ra : Nat) (to : Nat) (ks : Int32) (nb : Int) (nr : Int) (hb0 : 0 ≤ nb ∧ nb ≤ 40000 ∧ 0 ≤ nr ∧ nr ≤ 2000) : Met l y_G_limits (Cond.code y_G_limits prog_1_method_7_code 3 (Option.none : Option Jvm.ClassFile.FieldType) :: zt) { frames := 0, cells := 0, slots := 0, locals := 0 } (zPc [.ref qg, .int (iI nb), .int (iI nr)] D [(qg, .inr (0, [.ref qt, .ref qd, .ref qa, .ref qu])), (qa, .inr (3, [.int (nI bu), .int (nI ra), .int (nI to), .ref qo, .int ks]))] [] sz (fun _ => True)) (va_Qv (fun (u9 : Nat × Nat) => match u9 with | (b1, r1) => b1 ≤ 40000 ∧ r1 ≤ 2000 ∧ (b1 : Int) = nb ∧ (r1 : Int) = nr) (fun u9 t => zB D ((fun (u9 : Nat × Nat) => match u9 with | (b1, r1) => [(qg, .inr (0, [.ref qt, .ref qd, .ref qa, .ref qu])), (qa, .inr (3, [.int (nI b1), .int (nI r1), .int (nI to), .ref qo, .int ks]))]) u9) ((fun (u9 : Nat × Nat) => match u9 with | (b1, r1) => []) u9) (va_A [(qg, .inr (0, [.ref qt, .ref qd, .ref qa, .ref qu])), (qa, .inr (3, [.int (nI bu), .int (nI ra), .int (nI to), .ref qo, .int ks]))] sz) t) (va_A [(qg, .inr (0, [.ref qt, .ref qd, .ref qa, .ref qu])), (qa, .inr (3, [.int (nI bu), .int (nI ra), .int (nI to), .ref qo, .int ks]))] sz)) 0 0 (va_A [(qg, .inr (0, [.ref qt, .ref qd, .ref qa, .ref qu])), (qa, .inr (3, [.int (nI bu), .int (nI ra), .int (nI to), .ref qo, .int ks]))] sz) :=
  zMet (Qf := fun A => va_Qv (fun (u9 : Nat × Nat) => match u9 with | (b1, r1) => b1 ≤ 40000 ∧ r1 ≤ 2000 ∧ (b1 : Int) = nb ∧ (r1 : Int) = nr) (fun u9 t => zB D ((fun (u9 : Nat × Nat) => match u9 with | (b1, r1) => [(qg, .inr (0, [.ref qt, .ref qd, .ref qa, .ref qu])), (qa, .inr (3, [.int (nI b1), .int (nI r1), .int (nI to), .ref qo, .int ks]))]) u9) ((fun (u9 : Nat × Nat) => match u9 with | (b1, r1) => []) u9) A t) A) (by decide) (Nat.le_of_ble_eq_true rfl) (fun p e s m below meth c A ls hx hb hr hml hown ht hlk hnm hA hK hP hD hX hl => by
    have hS : va_S A s.heap s.heap [] := va_S.rf
    have hl : lv_has ls 3 [(0, .ref qg), (1, .int (iI nb)), (2, .int (iI nr))] := hl
    refine lv_iload_n hx hb d_G_limits_0 rfl (lv_at hl 1 rfl) ?_
    refine zv_if_lt (tgt := 21) hx hb d_G_limits_1 (by decide) (by omega) (fun hc_1 => by omega) (fun hc_1 => ?_)
    refine lv_iload_n hx hb d_G_limits_4 rfl (lv_at hl 1 rfl) ?_
    refine lv_ldc (v := 40000) hx hb hown (ht _ zm_603) d_G_limits_5 ?_
    refine zv_lit 40000 (by decide) ?_
    refine zv_icmp_gt (tgt := 21) hx hb d_G_limits_7 (by decide) (by omega) (by omega) (fun hc_2 => by omega) (fun hc_2 => ?_)
    refine lv_iload_n hx hb d_G_limits_10 rfl (lv_at hl 2 rfl) ?_
    refine zv_if_lt (tgt := 21) hx hb d_G_limits_11 (by decide) (by omega) (fun hc_3 => by omega) (fun hc_3 => ?_)
    refine lv_iload_n hx hb d_G_limits_14 rfl (lv_at hl 2 rfl) ?_
    refine lv_sipush (v := iI 2000) hx hb d_G_limits_15 (by decide) ?_
    refine zv_icmp_le (tgt := 29) hx hb d_G_limits_18 (by decide) (by omega) (by omega) (fun hc_4 => ?_) (fun hc_4 => by omega)
    refine lv_aload_n hx hb d_G_limits_29 rfl (lv_at hl 0 rfl) ?_
    refine va_get (ci := 0) (C := "ZipGuard") (T := F_G) (N := 4) hx hb ht zi_G hown hK hP 0 rfl rfl 2 (by decide) (ht _ zm_397) (fun _ h9 => h9) rfl d_G_limits_30 ?_
    refine lv_iload_n hx hb d_G_limits_33 rfl (lv_at hl 1 rfl) ?_
    refine va_put (ci := 3) (v := .int (iI nb)) (ty := .int) (C := "ZipGuard$Target") (T := F_A) (N := 5) hx hb ht zi_A ty_A tk_A nm_A hown hK hP hD hS 1 rfl rfl 0 (by decide) (ht _ zm_207) (fun _ h9 => h9) rfl (by decide +kernel) rfl rfl (Nat.le_of_ble_eq_true rfl) d_G_limits_34 (fun H locs hP hD hS => ?_)
    have hP : va_P D zcl [(qg, .inr (0, [.ref qt, .ref qd, .ref qa, .ref qu])), (qa, .inr (3, [.int (iI nb), .int (nI ra), .int (nI to), .ref qo, .int ks]))] H := hP
    have hD : va_D A [(qg, .inr (0, [.ref qt, .ref qd, .ref qa, .ref qu])), (qa, .inr (3, [.int (iI nb), .int (nI ra), .int (nI to), .ref qo, .int ks]))] := hD
    refine lv_aload_n hx hb d_G_limits_37 rfl (lv_at hl 0 rfl) ?_
    refine va_get (ci := 0) (C := "ZipGuard") (T := F_G) (N := 4) hx hb ht zi_G hown hK hP 0 rfl rfl 2 (by decide) (ht _ zm_397) (fun _ h9 => h9) rfl d_G_limits_38 ?_
    refine lv_iload_n hx hb d_G_limits_41 rfl (lv_at hl 2 rfl) ?_
    refine va_put (ci := 3) (v := .int (iI nr)) (ty := .int) (C := "ZipGuard$Target") (T := F_A) (N := 5) hx hb ht zi_A ty_A tk_A nm_A hown hK hP hD hS 1 rfl rfl 1 (by decide) (ht _ zm_209) (fun _ h9 => h9) rfl (by decide +kernel) rfl rfl (Nat.le_of_ble_eq_true rfl) d_G_limits_42 (fun H locs hP hD hS => ?_)
    have hP : va_P D zcl [(qg, .inr (0, [.ref qt, .ref qd, .ref qa, .ref qu])), (qa, .inr (3, [.int (iI nb), .int (iI nr), .int (nI to), .ref qo, .int ks]))] H := hP
    have hD : va_D A [(qg, .inr (0, [.ref qt, .ref qd, .ref qa, .ref qu])), (qa, .inr (3, [.int (iI nb), .int (iI nr), .int (nI to), .ref qo, .int ks]))] := hD
    rw [iI_nn (x := nb) (by omega), iI_nn (x := nr) (by omega)] at hP hD
    have hP : va_P D zcl [(qg, .inr (0, [.ref qt, .ref qd, .ref qa, .ref qu])), (qa, .inr (3, [.int (nI nb.toNat), .int (nI nr.toNat), .int (nI to), .ref qo, .int ks]))] H := hP
    have hD : va_D A [(qg, .inr (0, [.ref qt, .ref qd, .ref qa, .ref qu])), (qa, .inr (3, [.int (nI nb.toNat), .int (nI nr.toNat), .int (nI to), .ref qo, .int ks]))] := hD
    exact zretv hx hb hr hlk hK hP hD hS (nb.toNat, nr.toNat) [0, 1] [] rfl (by decide) rfl (by omega) (Nat.le_of_ble_eq_true rfl) (Nat.le_of_ble_eq_true rfl) d_G_limits_45)
set_option maxHeartbeats 4000000 in
set_option maxRecDepth 100000 in
theorem a_G_limX (l : Launch) (D : va_G) (sz : Nat) (qg : Nat) (qa : Nat) (qu : Nat) (qt : Nat) (qd : Nat) (nb : Int) (nr : Int) (hl9 : l.stackTraces = false) (hnb : -2147483648 ≤ nb ∧ nb ≤ 2147483647) (hnr : -2147483648 ≤ nr ∧ nr ≤ 2147483647) (hbad : nb < 0 ∨ 40000 < nb ∨ nr < 0 ∨ 2000 < nr) : zTh l y_G_limits (Cond.code y_G_limits prog_1_method_7_code 3 (Option.none : Option Jvm.ClassFile.FieldType) :: zt) { frames := 6, cells := 1, slots := 6, locals := 90 } (zPc [.ref qg, .int (iI nb), .int (iI nr)] D [(qg, .inr (0, [.ref qt, .ref qd, .ref qa, .ref qu]))] [] sz (zG)) "java/lang/IllegalArgumentException" 1 6 :=
  zTh_of (by decide) (Nat.le_of_ble_eq_true rfl) (fun p e s m below meth c A ls hx hb hr hml hown ht hlk hno hA hK hP hD hX hl => by
    have hS : va_S A s.heap s.heap [] := va_S.rf
    have hl : lv_has ls 3 [(0, .ref qg), (1, .int (iI nb)), (2, .int (iI nr))] := hl
    refine lv_iload_n hx hb d_G_limits_0 rfl (lv_at hl 1 rfl) ?_
    refine zv_if_lt (tgt := 21) hx hb d_G_limits_1 (by decide) (by omega) (fun hc_1 => ?_) (fun hc_1 => ?_)
    · skip
      exact zthrow (cls := zIAE) (names := zUP) (ik := 59) (ic := 61) (rest := []) hx hb hl9 hown (by decide) (by decide) (ht _ zm_561) (ht _ zm_77) (zhat zkey_IAE ht hX) (hl.1.trans hml.symm) d_G_limits_21 d_G_limits_24 d_G_limits_25 d_G_limits_28 hno (Nat.le_of_ble_eq_true rfl) (Nat.le_of_ble_eq_true rfl) (Nat.le_of_ble_eq_true rfl) (Nat.le_of_ble_eq_true rfl) hlk (Nat.le_of_ble_eq_true rfl) (Nat.le_of_ble_eq_true rfl)
    · skip
      refine lv_iload_n hx hb d_G_limits_4 rfl (lv_at hl 1 rfl) ?_
      refine lv_ldc (v := 40000) hx hb hown (ht _ zm_603) d_G_limits_5 ?_
      refine zv_lit 40000 (by decide) ?_
      refine zv_icmp_gt (tgt := 21) hx hb d_G_limits_7 (by decide) (by omega) (by omega) (fun hc_2 => ?_) (fun hc_2 => ?_)
      · skip
        exact zthrow (cls := zIAE) (names := zUP) (ik := 59) (ic := 61) (rest := []) hx hb hl9 hown (by decide) (by decide) (ht _ zm_561) (ht _ zm_77) (zhat zkey_IAE ht hX) (hl.1.trans hml.symm) d_G_limits_21 d_G_limits_24 d_G_limits_25 d_G_limits_28 hno (Nat.le_of_ble_eq_true rfl) (Nat.le_of_ble_eq_true rfl) (Nat.le_of_ble_eq_true rfl) (Nat.le_of_ble_eq_true rfl) hlk (Nat.le_of_ble_eq_true rfl) (Nat.le_of_ble_eq_true rfl)
      · skip
        refine lv_iload_n hx hb d_G_limits_10 rfl (lv_at hl 2 rfl) ?_
        refine zv_if_lt (tgt := 21) hx hb d_G_limits_11 (by decide) (by omega) (fun hc_3 => ?_) (fun hc_3 => ?_)
        · skip
          exact zthrow (cls := zIAE) (names := zUP) (ik := 59) (ic := 61) (rest := []) hx hb hl9 hown (by decide) (by decide) (ht _ zm_561) (ht _ zm_77) (zhat zkey_IAE ht hX) (hl.1.trans hml.symm) d_G_limits_21 d_G_limits_24 d_G_limits_25 d_G_limits_28 hno (Nat.le_of_ble_eq_true rfl) (Nat.le_of_ble_eq_true rfl) (Nat.le_of_ble_eq_true rfl) (Nat.le_of_ble_eq_true rfl) hlk (Nat.le_of_ble_eq_true rfl) (Nat.le_of_ble_eq_true rfl)
        · skip
          refine lv_iload_n hx hb d_G_limits_14 rfl (lv_at hl 2 rfl) ?_
          refine lv_sipush (v := iI 2000) hx hb d_G_limits_15 (by decide) ?_
          refine zv_icmp_le (tgt := 29) hx hb d_G_limits_18 (by decide) (by omega) (by omega) (fun hc_4 => ?_) (fun hc_4 => ?_)
          · skip
            exfalso; omega
          · skip
            exact zthrow (cls := zIAE) (names := zUP) (ik := 59) (ic := 61) (rest := []) hx hb hl9 hown (by decide) (by decide) (ht _ zm_561) (ht _ zm_77) (zhat zkey_IAE ht hX) (hl.1.trans hml.symm) d_G_limits_21 d_G_limits_24 d_G_limits_25 d_G_limits_28 hno (Nat.le_of_ble_eq_true rfl) (Nat.le_of_ble_eq_true rfl) (Nat.le_of_ble_eq_true rfl) (Nat.le_of_ble_eq_true rfl) hlk (Nat.le_of_ble_eq_true rfl) (Nat.le_of_ble_eq_true rfl))
set_option maxHeartbeats 4000000 in
set_option maxRecDepth 100000 in
theorem a_G_open (l : Launch) (D : va_G) (sz : Nat) (qg : Nat) (qu : Nat) (qa : Nat) (qo : Nat) (bu : Nat) (ra : Nat) (to : Nat) (ks : Int32) (qd : Nat) (qn : Nat) (ct : Int) (io : Int) (fp : Int) (qt : Nat) (qb : Nat) (cB : ClassId) (f : Nat → Int32) (L : Int) (cE : ClassId) (cN : ClassId) (fe : Nat → Option Nat) (ad : Nat → Nat) (LL : List zE) (hL : 0 ≤ L ∧ L ≤ 20000) (hpo : zPo ad LL) (hfe : ∀ k : Nat, k < 64 → fe k = some (ad k)) (hct : 0 ≤ ct ∧ ct ≤ 64) : Met l y_G_open (Cond.code y_G_open prog_1_method_5_code 1 (Option.some Jvm.ClassFile.FieldType.int) :: zt) { frames := 6, cells := 0, slots := 0, locals := 143 } (zPc [.ref qg] D (([(qg, .inr (0, [.ref qt, .ref qd, .ref qa, .ref qu])), (qa, .inr (3, [.int (nI bu), .int (nI ra), .int (nI to), .ref qo, .int ks])), (qd, .inr (2, [.ref qn, .int (iI ct), .int (iI io), .int (iI fp), .ref qt])), (qt, .inr (1, [.ref qb, .int (iI L)])), (qb, .inl (cB, 20000, .inl f)), (qn, .inl (cE, 64, .inr (.inr (.inr (.inr fe)))))] : va_W) ++ zPl cN LL) [(cB, .byte), (cE, .object "ZipGuard$Entry"), (cN, .byte)] sz (fun _ => True)) (va_Qi (fun (r : Int32) => fun (u9 : Int × Int × Int × Int × List zE) => match u9 with | (fp1, x, ct1, io1, L1) => r = (iI x) ∧ ((zPo ad L1) ∧ (zRe (zC1 f L) L x fp1) ∧ (-11 ≤ x ∧ x < 0 ∧ io1 = 0 ∨ (x = ct1 ∧ io1 = 1 ∧ zOp (zC1 f L) L ct1 L1)) ∧ 0 ≤ ct1 ∧ ct1 ≤ 64 ∧ 0 ≤ io1 ∧ io1 ≤ 1)) (fun u9 t => zB D (((fun (u9 : Int × Int × Int × Int × List zE) => match u9 with | (fp1, x, ct1, io1, L1) => [(qg, .inr (0, [.ref qt, .ref qd, .ref qa, .ref qu])), (qa, .inr (3, [.int (nI bu), .int (nI ra), .int (nI 0), .ref qo, .int ks])), (qd, .inr (2, [.ref qn, .int (iI ct1), .int (iI io1), .int (iI fp1), .ref qt])), (qt, .inr (1, [.ref qb, .int (iI L)])), (qb, .inl (cB, 20000, .inl f)), (qn, .inl (cE, 64, .inr (.inr (.inr (.inr fe)))))]) u9) ++ ((fun (u9 : Int × Int × Int × Int × List zE) => match u9 with | (fp1, x, ct1, io1, L1) => zPl cN L1) u9)) ((fun (u9 : Int × Int × Int × Int × List zE) => match u9 with | (fp1, x, ct1, io1, L1) => [(cB, .byte), (cE, .object "ZipGuard$Entry"), (cN, .byte)]) u9) (va_A (([(qg, .inr (0, [.ref qt, .ref qd, .ref qa, .ref qu])), (qa, .inr (3, [.int (nI bu), .int (nI ra), .int (nI to), .ref qo, .int ks])), (qd, .inr (2, [.ref qn, .int (iI ct), .int (iI io), .int (iI fp), .ref qt])), (qt, .inr (1, [.ref qb, .int (iI L)])), (qb, .inl (cB, 20000, .inl f)), (qn, .inl (cE, 64, .inr (.inr (.inr (.inr fe)))))] : va_W) ++ zPl cN LL) sz) t) (va_A (([(qg, .inr (0, [.ref qt, .ref qd, .ref qa, .ref qu])), (qa, .inr (3, [.int (nI bu), .int (nI ra), .int (nI to), .ref qo, .int ks])), (qd, .inr (2, [.ref qn, .int (iI ct), .int (iI io), .int (iI fp), .ref qt])), (qt, .inr (1, [.ref qb, .int (iI L)])), (qb, .inl (cB, 20000, .inl f)), (qn, .inl (cE, 64, .inr (.inr (.inr (.inr fe)))))] : va_W) ++ zPl cN LL) sz)) 0 0 (va_A (([(qg, .inr (0, [.ref qt, .ref qd, .ref qa, .ref qu])), (qa, .inr (3, [.int (nI bu), .int (nI ra), .int (nI to), .ref qo, .int ks])), (qd, .inr (2, [.ref qn, .int (iI ct), .int (iI io), .int (iI fp), .ref qt])), (qt, .inr (1, [.ref qb, .int (iI L)])), (qb, .inl (cB, 20000, .inl f)), (qn, .inl (cE, 64, .inr (.inr (.inr (.inr fe)))))] : va_W) ++ zPl cN LL) sz) :=
  zMet (Qf := fun A => va_Qi (fun (r : Int32) => fun (u9 : Int × Int × Int × Int × List zE) => match u9 with | (fp1, x, ct1, io1, L1) => r = (iI x) ∧ ((zPo ad L1) ∧ (zRe (zC1 f L) L x fp1) ∧ (-11 ≤ x ∧ x < 0 ∧ io1 = 0 ∨ (x = ct1 ∧ io1 = 1 ∧ zOp (zC1 f L) L ct1 L1)) ∧ 0 ≤ ct1 ∧ ct1 ≤ 64 ∧ 0 ≤ io1 ∧ io1 ≤ 1)) (fun u9 t => zB D (((fun (u9 : Int × Int × Int × Int × List zE) => match u9 with | (fp1, x, ct1, io1, L1) => [(qg, .inr (0, [.ref qt, .ref qd, .ref qa, .ref qu])), (qa, .inr (3, [.int (nI bu), .int (nI ra), .int (nI 0), .ref qo, .int ks])), (qd, .inr (2, [.ref qn, .int (iI ct1), .int (iI io1), .int (iI fp1), .ref qt])), (qt, .inr (1, [.ref qb, .int (iI L)])), (qb, .inl (cB, 20000, .inl f)), (qn, .inl (cE, 64, .inr (.inr (.inr (.inr fe)))))]) u9) ++ ((fun (u9 : Int × Int × Int × Int × List zE) => match u9 with | (fp1, x, ct1, io1, L1) => zPl cN L1) u9)) ((fun (u9 : Int × Int × Int × Int × List zE) => match u9 with | (fp1, x, ct1, io1, L1) => [(cB, .byte), (cE, .object "ZipGuard$Entry"), (cN, .byte)]) u9) A t) A) (by decide) (Nat.le_of_ble_eq_true rfl) (fun p e s m below meth c A ls hx hb hr hml hown ht hlk hnm hA hK hP hD hX hl => by
    have hS : va_S A s.heap s.heap [] := va_S.rf
    have hl : lv_has ls 1 [(0, .ref qg)] := hl
    refine lv_aload_n hx hb d_G_open_0 rfl (lv_at hl 0 rfl) ?_
    refine va_get (ci := 0) (C := "ZipGuard") (T := F_G) (N := 4) hx hb ht zi_G hown hK hP 0 rfl rfl 2 (by decide) (ht _ zm_397) (fun _ h9 => h9) rfl d_G_open_1 ?_
    refine zjvQ (wr := [(qg, .inr (0, [.ref qt, .ref qd, .ref qa, .ref qu])), (qd, .inr (2, [.ref qn, .int (iI ct), .int (iI io), .int (iI fp), .ref qt])), (qt, .inr (1, [.ref qb, .int (iI L)])), (qb, .inl (cB, 20000, .inl f)), (qn, .inl (cE, 64, .inr (.inr (.inr (.inr fe)))))]) (va_runV (As := []) (rest := []) ⟨hx, hb, hml, hown, ht⟩ (a_A_clear l D _ qa qo bu ra to ks ) (cwV 0 ht (zt_goodV zm_412 zm_413 zm_414 zm_69 zm_415) rfl rfl rfl (by decide +kernel) ⟨Nat.le_of_ble_eq_true rfl, Nat.le_of_ble_eq_true rfl⟩) (zpreV zBlind_t hK hP hD [1] [] rfl (by decide) rfl (fun _ _ _ => trivial) (va_recv (q := ("ZipGuard$Target", F_A, 5)) hK hP rfl (q0 := 1) (ci := 3) rfl)) rfl rfl hl.1 rfl (lv_room (Nat.le_of_ble_eq_true rfl)) d_G_open_4 ⟨Nat.le_of_ble_eq_true rfl, Nat.le_of_ble_eq_true rfl⟩) hK hP hD hS hA [1] [0, 2, 3, 4, 5] rfl rfl (by decide) (by decide) (fun u9 H locs hp2 hP hD hK hS => ?_)
    have hP : va_P D zcl (([(qg, .inr (0, [.ref qt, .ref qd, .ref qa, .ref qu])), (qd, .inr (2, [.ref qn, .int (iI ct), .int (iI io), .int (iI fp), .ref qt])), (qt, .inr (1, [.ref qb, .int (iI L)])), (qb, .inl (cB, 20000, .inl f)), (qn, .inl (cE, 64, .inr (.inr (.inr (.inr fe))))), (qa, .inr (3, [.int (nI bu), .int (nI ra), .int (nI 0), .ref qo, .int ks]))] : va_W) ++ zPl cN LL) H := hP
    have hD : va_D A (([(qg, .inr (0, [.ref qt, .ref qd, .ref qa, .ref qu])), (qd, .inr (2, [.ref qn, .int (iI ct), .int (iI io), .int (iI fp), .ref qt])), (qt, .inr (1, [.ref qb, .int (iI L)])), (qb, .inl (cB, 20000, .inl f)), (qn, .inl (cE, 64, .inr (.inr (.inr (.inr fe))))), (qa, .inr (3, [.int (nI bu), .int (nI ra), .int (nI 0), .ref qo, .int ks]))] : va_W) ++ zPl cN LL) := hD
    have hK : va_K D zcl [(cB, .byte), (cE, .object "ZipGuard$Entry"), (cN, .byte)] s := hK
    have hP := hP.part (cx := [(qg, .inr (0, [.ref qt, .ref qd, .ref qa, .ref qu])), (qa, .inr (3, [.int (nI bu), .int (nI ra), .int (nI 0), .ref qo, .int ks])), (qd, .inr (2, [.ref qn, .int (iI ct), .int (iI io), .int (iI fp), .ref qt])), (qt, .inr (1, [.ref qb, .int (iI L)])), (qb, .inl (cB, 20000, .inl f)), (qn, .inl (cE, 64, .inr (.inr (.inr (.inr fe)))))]) [0, 5, 1, 2, 3, 4] rfl
    have hD := hD.part (cx := [(qg, .inr (0, [.ref qt, .ref qd, .ref qa, .ref qu])), (qa, .inr (3, [.int (nI bu), .int (nI ra), .int (nI 0), .ref qo, .int ks])), (qd, .inr (2, [.ref qn, .int (iI ct), .int (iI io), .int (iI fp), .ref qt])), (qt, .inr (1, [.ref qb, .int (iI L)])), (qb, .inl (cB, 20000, .inl f)), (qn, .inl (cE, 64, .inr (.inr (.inr (.inr fe)))))]) [0, 5, 1, 2, 3, 4] (by decide) rfl
    have hK := hK.sub (tys' := [(cB, .byte), (cE, .object "ZipGuard$Entry"), (cN, .byte)]) [0, 1, 2] rfl
    refine lv_aload_n hx hb d_G_open_7 rfl (lv_at hl 0 rfl) ?_
    refine va_get (ci := 0) (C := "ZipGuard") (T := F_G) (N := 4) hx hb ht zi_G hown hK hP 0 rfl rfl 1 (by decide) (ht _ zm_396) (fun _ h9 => h9) rfl d_G_open_8 ?_
    refine zjiP (wr := [(qg, .inr (0, [.ref qt, .ref qd, .ref qa, .ref qu])), (qa, .inr (3, [.int (nI bu), .int (nI ra), .int (nI 0), .ref qo, .int ks]))]) (va_runV (As := []) (rest := []) ⟨hx, hb, hml, hown, ht⟩ (a_D_rd l D _ qd qn ct io fp qt qb cB f L cE cN fe ad LL (by omega) hpo hfe (by omega)) (cwV 0 ht (zt_goodV zm_416 zm_417 zm_418 zm_67 zm_419) rfl rfl rfl (by decide +kernel) ⟨Nat.le_of_ble_eq_true rfl, Nat.le_of_ble_eq_true rfl⟩) (zpreVP zBlind_t hK hP hD [2, 3, 4, 5] [0, 1, 2] rfl (by decide) rfl (fun _ _ _ => trivial) (va_recv (q := ("ZipGuard$Directory", F_D, 5)) hK hP rfl (q0 := 2) (ci := 2) rfl)) rfl rfl hl.1 rfl (lv_room (Nat.le_of_ble_eq_true rfl)) d_G_open_11 ⟨Nat.le_of_ble_eq_true rfl, Nat.le_of_ble_eq_true rfl⟩) hK hP hD hS hA [2, 3, 4, 5] [0, 1] rfl rfl (by decide) (by decide) (fun r8 u9 H locs hp9 hP hD hK hS => ?_)
    obtain ⟨f_3, x_4, c_5, i_6, L_7⟩ := u9
    dsimp only at hp9 hP hD hK
    have hP : va_P D zcl (([(qg, .inr (0, [.ref qt, .ref qd, .ref qa, .ref qu])), (qa, .inr (3, [.int (nI bu), .int (nI ra), .int (nI 0), .ref qo, .int ks])), (qd, .inr (2, [.ref qn, .int (iI c_5), .int (iI i_6), .int (iI f_3), .ref qt])), (qt, .inr (1, [.ref qb, .int (iI L)])), (qb, .inl (cB, 20000, .inl f)), (qn, .inl (cE, 64, .inr (.inr (.inr (.inr fe)))))] : va_W) ++ zPl cN L_7) H := hP
    have hD : va_D A (([(qg, .inr (0, [.ref qt, .ref qd, .ref qa, .ref qu])), (qa, .inr (3, [.int (nI bu), .int (nI ra), .int (nI 0), .ref qo, .int ks])), (qd, .inr (2, [.ref qn, .int (iI c_5), .int (iI i_6), .int (iI f_3), .ref qt])), (qt, .inr (1, [.ref qb, .int (iI L)])), (qb, .inl (cB, 20000, .inl f)), (qn, .inl (cE, 64, .inr (.inr (.inr (.inr fe)))))] : va_W) ++ zPl cN L_7) := hD
    have hK : va_K D zcl [(cB, .byte), (cE, .object "ZipGuard$Entry"), (cN, .byte), (cB, .byte), (cE, .object "ZipGuard$Entry"), (cN, .byte)] s := hK
    obtain ⟨he_10, hp9⟩ := hp9
    subst he_10
    have hpo := hp9.1
    have hP := hP.part (cx := [(qg, .inr (0, [.ref qt, .ref qd, .ref qa, .ref qu])), (qa, .inr (3, [.int (nI bu), .int (nI ra), .int (nI 0), .ref qo, .int ks])), (qd, .inr (2, [.ref qn, .int (iI c_5), .int (iI i_6), .int (iI f_3), .ref qt])), (qt, .inr (1, [.ref qb, .int (iI L)])), (qb, .inl (cB, 20000, .inl f)), (qn, .inl (cE, 64, .inr (.inr (.inr (.inr fe)))))]) [0, 1, 2, 3, 4, 5] rfl
    have hD := hD.part (cx := [(qg, .inr (0, [.ref qt, .ref qd, .ref qa, .ref qu])), (qa, .inr (3, [.int (nI bu), .int (nI ra), .int (nI 0), .ref qo, .int ks])), (qd, .inr (2, [.ref qn, .int (iI c_5), .int (iI i_6), .int (iI f_3), .ref qt])), (qt, .inr (1, [.ref qb, .int (iI L)])), (qb, .inl (cB, 20000, .inl f)), (qn, .inl (cE, 64, .inr (.inr (.inr (.inr fe)))))]) [0, 1, 2, 3, 4, 5] (by decide) rfl
    have hK := hK.sub (tys' := [(cB, .byte), (cE, .object "ZipGuard$Entry"), (cN, .byte)]) [0, 1, 2] rfl
    exact zretiP hx hb hr hlk hK hP hD hS (f_3, x_4, c_5, i_6, L_7) [0, 1, 2, 3, 4, 5] [0, 1, 2] rfl (by decide) rfl rfl (⟨rfl, hp9⟩) (Nat.le_of_ble_eq_true rfl) (Nat.le_of_ble_eq_true rfl) d_G_open_14)
set_option maxHeartbeats 4000000 in
set_option maxRecDepth 100000 in
theorem a_G_oe (l : Launch) (D : va_G) (qg : Nat) (qa : Nat) (qu : Nat) (qd : Nat) (qt : Nat) (qn : Nat) (ct : Int) (io : Int) (fp : Int) (cE : ClassId) (fe : Nat → Option Nat) (ad : Nat → Nat) (i : Int) (hfe : ∀ k : Nat, k < 64 → fe k = some (ad k)) (hio : io = 1) (hi : 0 ≤ i ∧ i < ct ∧ ct ≤ 64) : Met l y_G_openEntry (Cond.code y_G_openEntry prog_1_method_14_code 2 (Option.some (Jvm.ClassFile.FieldType.object "ZipGuard$Entry")) :: zt) { frames := 0, cells := 0, slots := 0, locals := 0 } (zPcR [.ref qg, .int (iI i)] D [(qg, .inr (0, [.ref qt, .ref qd, .ref qa, .ref qu])), (qd, .inr (2, [.ref qn, .int (iI ct), .int (iI io), .int (iI fp), .ref qt])), (qn, .inl (cE, 64, .inr (.inr (.inr (.inr fe)))))] [(cE, .object "ZipGuard$Entry")] (fun _ => True)) (zQRr (fun (r : Nat) => r = ad i.toNat)) 0 0 (fun _ => False) :=
  zMetR (by decide) (Nat.le_of_ble_eq_true rfl) (fun p e s m below meth c ls hx hb hr hml hown ht hlk hK hP hX hl => by
    have hl : lv_has ls 2 [(0, .ref qg), (1, .int (iI i))] := hl
    refine lv_aload_n hx hb d_G_openEntry_0 rfl (lv_at hl 0 rfl) ?_
    refine va_get (ci := 0) (C := "ZipGuard") (T := F_G) (N := 4) hx hb ht zi_G hown hK hP 0 rfl rfl 1 (by decide) (ht _ zm_396) (fun _ h9 => h9) rfl d_G_openEntry_1 ?_
    refine va_get (ci := 2) (C := "ZipGuard$Directory") (T := F_D) (N := 5) hx hb ht zi_D hown hK hP 1 rfl rfl 2 (by decide) (ht _ zm_184) (fun _ h9 => h9) rfl d_G_openEntry_4 ?_
    refine zv_if_ne (tgt := 18) hx hb d_G_openEntry_7 (by decide) (by omega) (fun hc_1 => ?_) (fun hc_1 => by omega)
    refine lv_iload_n hx hb d_G_openEntry_18 rfl (lv_at hl 1 rfl) ?_
    refine zv_if_lt (tgt := 33) hx hb d_G_openEntry_19 (by decide) (by omega) (fun hc_2 => by omega) (fun hc_2 => ?_)
    refine lv_iload_n hx hb d_G_openEntry_22 rfl (lv_at hl 1 rfl) ?_
    refine lv_aload_n hx hb d_G_openEntry_23 rfl (lv_at hl 0 rfl) ?_
    refine va_get (ci := 0) (C := "ZipGuard") (T := F_G) (N := 4) hx hb ht zi_G hown hK hP 0 rfl rfl 1 (by decide) (ht _ zm_396) (fun _ h9 => h9) rfl d_G_openEntry_24 ?_
    refine va_get (ci := 2) (C := "ZipGuard$Directory") (T := F_D) (N := 5) hx hb ht zi_D hown hK hP 1 rfl rfl 1 (by decide) (ht _ zm_182) (fun _ h9 => h9) rfl d_G_openEntry_27 ?_
    refine zv_icmp_lt (tgt := 41) hx hb d_G_openEntry_30 (by decide) (by omega) (by omega) (fun hc_3 => ?_) (fun hc_3 => by omega)
    refine lv_aload_n hx hb d_G_openEntry_41 rfl (lv_at hl 0 rfl) ?_
    refine va_get (ci := 0) (C := "ZipGuard") (T := F_G) (N := 4) hx hb ht zi_G hown hK hP 0 rfl rfl 1 (by decide) (ht _ zm_396) (fun _ h9 => h9) rfl d_G_openEntry_42 ?_
    refine va_get (ci := 2) (C := "ZipGuard$Directory") (T := F_D) (N := 5) hx hb ht zi_D hown hK hP 1 rfl rfl 0 (by decide) (ht _ zm_180) (fun _ h9 => h9) rfl d_G_openEntry_45 ?_
    refine lv_iload_n hx hb d_G_openEntry_48 rfl (lv_at hl 1 rfl) ?_
    refine zv_aald hx hb hK hP 2 0 hfe rfl rfl (by omega) (by decide) d_G_openEntry_49 ?_
    exact zretRr hx hb hr hlk rfl d_G_openEntry_50)
set_option maxHeartbeats 4000000 in
set_option maxRecDepth 100000 in
theorem a_G_oeX (l : Launch) (D : va_G) (sz : Nat) (qg : Nat) (qa : Nat) (qu : Nat) (qd : Nat) (qt : Nat) (qn : Nat) (ct : Int) (io : Int) (fp : Int) (i : Int) (hl9 : l.stackTraces = false) (hio : io = 0) : zTh l y_G_openEntry (Cond.code y_G_openEntry prog_1_method_14_code 2 (Option.some (Jvm.ClassFile.FieldType.object "ZipGuard$Entry")) :: zt) { frames := 6, cells := 1, slots := 6, locals := 90 } (zPc [.ref qg, .int (iI i)] D [(qg, .inr (0, [.ref qt, .ref qd, .ref qa, .ref qu])), (qd, .inr (2, [.ref qn, .int (iI ct), .int (iI io), .int (iI fp), .ref qt]))] [] sz (zG)) "java/lang/IllegalStateException" 1 6 :=
  zTh_of (by decide) (Nat.le_of_ble_eq_true rfl) (fun p e s m below meth c A ls hx hb hr hml hown ht hlk hno hA hK hP hD hX hl => by
    have hS : va_S A s.heap s.heap [] := va_S.rf
    have hl : lv_has ls 2 [(0, .ref qg), (1, .int (iI i))] := hl
    refine lv_aload_n hx hb d_G_openEntry_0 rfl (lv_at hl 0 rfl) ?_
    refine va_get (ci := 0) (C := "ZipGuard") (T := F_G) (N := 4) hx hb ht zi_G hown hK hP 0 rfl rfl 1 (by decide) (ht _ zm_396) (fun _ h9 => h9) rfl d_G_openEntry_1 ?_
    refine va_get (ci := 2) (C := "ZipGuard$Directory") (T := F_D) (N := 5) hx hb ht zi_D hown hK hP 1 rfl rfl 2 (by decide) (ht _ zm_184) (fun _ h9 => h9) rfl d_G_openEntry_4 ?_
    refine zv_if_ne (tgt := 18) hx hb d_G_openEntry_7 (by decide) (by omega) (fun hc_1 => ?_) (fun hc_1 => ?_)
    · skip
      exfalso; omega
    · skip
      exact zthrow (cls := zISE) (names := zUP) (ik := 45) (ic := 47) (rest := []) hx hb hl9 hown (by decide) (by decide) (ht _ zm_524) (ht _ zm_80) (zhat zkey_ISE ht hX) (hl.1.trans hml.symm) d_G_openEntry_10 d_G_openEntry_13 d_G_openEntry_14 d_G_openEntry_17 hno (Nat.le_of_ble_eq_true rfl) (Nat.le_of_ble_eq_true rfl) (Nat.le_of_ble_eq_true rfl) (Nat.le_of_ble_eq_true rfl) hlk (Nat.le_of_ble_eq_true rfl) (Nat.le_of_ble_eq_true rfl))
set_option maxHeartbeats 4000000 in
set_option maxRecDepth 100000 in
theorem a_G_oeY (l : Launch) (D : va_G) (sz : Nat) (qg : Nat) (qa : Nat) (qu : Nat) (qd : Nat) (qt : Nat) (qn : Nat) (ct : Int) (io : Int) (fp : Int) (i : Int) (hl9 : l.stackTraces = false) (hio : io = 1) (hct : 0 ≤ ct ∧ ct ≤ 64) (hi : -2147483648 ≤ i ∧ i ≤ 2147483647) (hbad : i < 0 ∨ ct ≤ i) : zTh l y_G_openEntry (Cond.code y_G_openEntry prog_1_method_14_code 2 (Option.some (Jvm.ClassFile.FieldType.object "ZipGuard$Entry")) :: zt) { frames := 6, cells := 1, slots := 6, locals := 90 } (zPc [.ref qg, .int (iI i)] D [(qg, .inr (0, [.ref qt, .ref qd, .ref qa, .ref qu])), (qd, .inr (2, [.ref qn, .int (iI ct), .int (iI io), .int (iI fp), .ref qt]))] [] sz (zG)) "java/lang/IndexOutOfBoundsException" 1 6 :=
  zTh_of (by decide) (Nat.le_of_ble_eq_true rfl) (fun p e s m below meth c A ls hx hb hr hml hown ht hlk hno hA hK hP hD hX hl => by
    have hS : va_S A s.heap s.heap [] := va_S.rf
    have hl : lv_has ls 2 [(0, .ref qg), (1, .int (iI i))] := hl
    refine lv_aload_n hx hb d_G_openEntry_0 rfl (lv_at hl 0 rfl) ?_
    refine va_get (ci := 0) (C := "ZipGuard") (T := F_G) (N := 4) hx hb ht zi_G hown hK hP 0 rfl rfl 1 (by decide) (ht _ zm_396) (fun _ h9 => h9) rfl d_G_openEntry_1 ?_
    refine va_get (ci := 2) (C := "ZipGuard$Directory") (T := F_D) (N := 5) hx hb ht zi_D hown hK hP 1 rfl rfl 2 (by decide) (ht _ zm_184) (fun _ h9 => h9) rfl d_G_openEntry_4 ?_
    refine zv_if_ne (tgt := 18) hx hb d_G_openEntry_7 (by decide) (by omega) (fun hc_1 => ?_) (fun hc_1 => ?_)
    · skip
      refine lv_iload_n hx hb d_G_openEntry_18 rfl (lv_at hl 1 rfl) ?_
      refine zv_if_lt (tgt := 33) hx hb d_G_openEntry_19 (by decide) (by omega) (fun hc_2 => ?_) (fun hc_2 => ?_)
      · skip
        exact zthrow (cls := zIOB) (names := zUP) (ik := 65) (ic := 67) (rest := []) hx hb hl9 hown (by decide) (by decide) (ht _ zm_578) (ht _ zm_78) (zhat zkey_IOB ht hX) (hl.1.trans hml.symm) d_G_openEntry_33 d_G_openEntry_36 d_G_openEntry_37 d_G_openEntry_40 hno (Nat.le_of_ble_eq_true rfl) (Nat.le_of_ble_eq_true rfl) (Nat.le_of_ble_eq_true rfl) (Nat.le_of_ble_eq_true rfl) hlk (Nat.le_of_ble_eq_true rfl) (Nat.le_of_ble_eq_true rfl)
      · skip
        refine lv_iload_n hx hb d_G_openEntry_22 rfl (lv_at hl 1 rfl) ?_
        refine lv_aload_n hx hb d_G_openEntry_23 rfl (lv_at hl 0 rfl) ?_
        refine va_get (ci := 0) (C := "ZipGuard") (T := F_G) (N := 4) hx hb ht zi_G hown hK hP 0 rfl rfl 1 (by decide) (ht _ zm_396) (fun _ h9 => h9) rfl d_G_openEntry_24 ?_
        refine va_get (ci := 2) (C := "ZipGuard$Directory") (T := F_D) (N := 5) hx hb ht zi_D hown hK hP 1 rfl rfl 1 (by decide) (ht _ zm_182) (fun _ h9 => h9) rfl d_G_openEntry_27 ?_
        refine zv_icmp_lt (tgt := 41) hx hb d_G_openEntry_30 (by decide) (by omega) (by omega) (fun hc_3 => ?_) (fun hc_3 => ?_)
        · skip
          exfalso; omega
        · skip
          exact zthrow (cls := zIOB) (names := zUP) (ik := 65) (ic := 67) (rest := []) hx hb hl9 hown (by decide) (by decide) (ht _ zm_578) (ht _ zm_78) (zhat zkey_IOB ht hX) (hl.1.trans hml.symm) d_G_openEntry_33 d_G_openEntry_36 d_G_openEntry_37 d_G_openEntry_40 hno (Nat.le_of_ble_eq_true rfl) (Nat.le_of_ble_eq_true rfl) (Nat.le_of_ble_eq_true rfl) (Nat.le_of_ble_eq_true rfl) hlk (Nat.le_of_ble_eq_true rfl) (Nat.le_of_ble_eq_true rfl)
    · skip
      exfalso; omega)
set_option maxHeartbeats 4000000 in
set_option maxRecDepth 100000 in
theorem a_G_takeX (l : Launch) (D : va_G) (sz : Nat) (qg : Nat) (qa : Nat) (qu : Nat) (qd : Nat) (qt : Nat) (qn : Nat) (ct : Int) (io : Int) (fp : Int) (i : Int) (hl9 : l.stackTraces = false) (hio : io = 0) : zTh l y_G_take (Cond.code y_G_take prog_1_method_8_code 2 (Option.some Jvm.ClassFile.FieldType.int) :: zt) { frames := 7, cells := 1, slots := 6, locals := 111 } (zPc [.ref qg, .int (iI i)] D [(qg, .inr (0, [.ref qt, .ref qd, .ref qa, .ref qu])), (qd, .inr (2, [.ref qn, .int (iI ct), .int (iI io), .int (iI fp), .ref qt]))] [] sz (zG)) "java/lang/IllegalStateException" 1 6 :=
  zTh_of (by decide) (Nat.le_of_ble_eq_true rfl) (fun p e s m below meth c A ls hx hb hr hml hown ht hlk hno hA hK hP hD hX hl => by
    have hS : va_S A s.heap s.heap [] := va_S.rf
    have hl : lv_has ls 2 [(0, .ref qg), (1, .int (iI i))] := hl
    refine lv_aload_n hx hb d_G_take_0 rfl (lv_at hl 0 rfl) ?_
    refine va_get (ci := 0) (C := "ZipGuard") (T := F_G) (N := 4) hx hb ht zi_G hown hK hP 0 rfl rfl 3 (by decide) (ht _ zm_398) (fun _ h9 => h9) rfl d_G_take_1 ?_
    refine lv_aload_n hx hb d_G_take_4 rfl (lv_at hl 0 rfl) ?_
    refine lv_iload_n hx hb d_G_take_5 rfl (lv_at hl 1 rfl) ?_
    exact zcallVT (As := [.int (iI i)]) (rest := [.ref qu]) ⟨hx, hb, hml, hown, ht⟩ (a_G_oeX l D _ qg qa qu qd qt qn ct io fp i hl9 (by omega)) (cwV 1 ht (zt_goodV zm_611 zm_612 zm_17 zm_65 zm_613) rfl rfl rfl (by decide +kernel) ⟨Nat.le_of_ble_eq_true rfl, Nat.le_of_ble_eq_true rfl⟩) (zpreV zBlind_G hK hP hD [0, 1] [] rfl (by decide) rfl (fun U hU hW => zBlind_G s U hW.alike hU hX) (va_recv (q := ("ZipGuard", F_G, 4)) hK hP rfl (q0 := 0) (ci := 0) rfl)) rfl hl.1 (lv_room (Nat.le_of_ble_eq_true rfl)) d_G_take_6 ⟨Nat.le_of_ble_eq_true rfl, Nat.le_of_ble_eq_true rfl⟩ (fun q ce H1 _ _ z3 z4 z5 => zout hno hlk z3 z4 z5 (Nat.le_of_ble_eq_true rfl) (Nat.le_of_ble_eq_true rfl)))
set_option maxHeartbeats 4000000 in
set_option maxRecDepth 100000 in
theorem a_G_takeY (l : Launch) (D : va_G) (sz : Nat) (qg : Nat) (qa : Nat) (qu : Nat) (qd : Nat) (qt : Nat) (qn : Nat) (ct : Int) (io : Int) (fp : Int) (i : Int) (hl9 : l.stackTraces = false) (hio : io = 1) (hct : 0 ≤ ct ∧ ct ≤ 64) (hi : -2147483648 ≤ i ∧ i ≤ 2147483647) (hbad : i < 0 ∨ ct ≤ i) : zTh l y_G_take (Cond.code y_G_take prog_1_method_8_code 2 (Option.some Jvm.ClassFile.FieldType.int) :: zt) { frames := 7, cells := 1, slots := 6, locals := 111 } (zPc [.ref qg, .int (iI i)] D [(qg, .inr (0, [.ref qt, .ref qd, .ref qa, .ref qu])), (qd, .inr (2, [.ref qn, .int (iI ct), .int (iI io), .int (iI fp), .ref qt]))] [] sz (zG)) "java/lang/IndexOutOfBoundsException" 1 6 :=
  zTh_of (by decide) (Nat.le_of_ble_eq_true rfl) (fun p e s m below meth c A ls hx hb hr hml hown ht hlk hno hA hK hP hD hX hl => by
    have hS : va_S A s.heap s.heap [] := va_S.rf
    have hl : lv_has ls 2 [(0, .ref qg), (1, .int (iI i))] := hl
    refine lv_aload_n hx hb d_G_take_0 rfl (lv_at hl 0 rfl) ?_
    refine va_get (ci := 0) (C := "ZipGuard") (T := F_G) (N := 4) hx hb ht zi_G hown hK hP 0 rfl rfl 3 (by decide) (ht _ zm_398) (fun _ h9 => h9) rfl d_G_take_1 ?_
    refine lv_aload_n hx hb d_G_take_4 rfl (lv_at hl 0 rfl) ?_
    refine lv_iload_n hx hb d_G_take_5 rfl (lv_at hl 1 rfl) ?_
    exact zcallVT (As := [.int (iI i)]) (rest := [.ref qu]) ⟨hx, hb, hml, hown, ht⟩ (a_G_oeY l D _ qg qa qu qd qt qn ct io fp i hl9 (by omega) (by omega) (by omega) (by omega)) (cwV 1 ht (zt_goodV zm_611 zm_612 zm_17 zm_65 zm_613) rfl rfl rfl (by decide +kernel) ⟨Nat.le_of_ble_eq_true rfl, Nat.le_of_ble_eq_true rfl⟩) (zpreV zBlind_G hK hP hD [0, 1] [] rfl (by decide) rfl (fun U hU hW => zBlind_G s U hW.alike hU hX) (va_recv (q := ("ZipGuard", F_G, 4)) hK hP rfl (q0 := 0) (ci := 0) rfl)) rfl hl.1 (lv_room (Nat.le_of_ble_eq_true rfl)) d_G_take_6 ⟨Nat.le_of_ble_eq_true rfl, Nat.le_of_ble_eq_true rfl⟩ (fun q ce H1 _ _ z3 z4 z5 => zout hno hlk z3 z4 z5 (Nat.le_of_ble_eq_true rfl) (Nat.le_of_ble_eq_true rfl)))
set_option maxHeartbeats 4000000 in
set_option maxRecDepth 100000 in
theorem a_G_entX (l : Launch) (D : va_G) (sz : Nat) (qg : Nat) (qa : Nat) (qu : Nat) (qd : Nat) (qt : Nat) (qn : Nat) (ct : Int) (io : Int) (fp : Int) (i : Int) (wh : Int) (hl9 : l.stackTraces = false) (hio : io = 0) : zTh l y_G_entry (Cond.code y_G_entry prog_1_method_10_code 4 (Option.some Jvm.ClassFile.FieldType.int) :: zt) { frames := 7, cells := 1, slots := 6, locals := 111 } (zPc [.ref qg, .int (iI i), .int (iI wh)] D [(qg, .inr (0, [.ref qt, .ref qd, .ref qa, .ref qu])), (qd, .inr (2, [.ref qn, .int (iI ct), .int (iI io), .int (iI fp), .ref qt]))] [] sz (zG)) "java/lang/IllegalStateException" 1 6 :=
  zTh_of (by decide) (Nat.le_of_ble_eq_true rfl) (fun p e s m below meth c A ls hx hb hr hml hown ht hlk hno hA hK hP hD hX hl => by
    have hS : va_S A s.heap s.heap [] := va_S.rf
    have hl : lv_has ls 4 [(0, .ref qg), (1, .int (iI i)), (2, .int (iI wh))] := hl
    refine lv_aload_n hx hb d_G_entry_0 rfl (lv_at hl 0 rfl) ?_
    refine lv_iload_n hx hb d_G_entry_1 rfl (lv_at hl 1 rfl) ?_
    exact zcallVT (As := [.int (iI i)]) (rest := []) ⟨hx, hb, hml, hown, ht⟩ (a_G_oeX l D _ qg qa qu qd qt qn ct io fp i hl9 (by omega)) (cwV 1 ht (zt_goodV zm_611 zm_612 zm_17 zm_65 zm_613) rfl rfl rfl (by decide +kernel) ⟨Nat.le_of_ble_eq_true rfl, Nat.le_of_ble_eq_true rfl⟩) (zpreV zBlind_G hK hP hD [0, 1] [] rfl (by decide) rfl (fun U hU hW => zBlind_G s U hW.alike hU hX) (va_recv (q := ("ZipGuard", F_G, 4)) hK hP rfl (q0 := 0) (ci := 0) rfl)) rfl hl.1 (lv_room (Nat.le_of_ble_eq_true rfl)) d_G_entry_2 ⟨Nat.le_of_ble_eq_true rfl, Nat.le_of_ble_eq_true rfl⟩ (fun q ce H1 _ _ z3 z4 z5 => zout hno hlk z3 z4 z5 (Nat.le_of_ble_eq_true rfl) (Nat.le_of_ble_eq_true rfl)))
set_option maxHeartbeats 4000000 in
set_option maxRecDepth 100000 in
theorem a_G_entY (l : Launch) (D : va_G) (sz : Nat) (qg : Nat) (qa : Nat) (qu : Nat) (qd : Nat) (qt : Nat) (qn : Nat) (ct : Int) (io : Int) (fp : Int) (i : Int) (wh : Int) (hl9 : l.stackTraces = false) (hio : io = 1) (hct : 0 ≤ ct ∧ ct ≤ 64) (hi : -2147483648 ≤ i ∧ i ≤ 2147483647) (hbad : i < 0 ∨ ct ≤ i) : zTh l y_G_entry (Cond.code y_G_entry prog_1_method_10_code 4 (Option.some Jvm.ClassFile.FieldType.int) :: zt) { frames := 7, cells := 1, slots := 6, locals := 111 } (zPc [.ref qg, .int (iI i), .int (iI wh)] D [(qg, .inr (0, [.ref qt, .ref qd, .ref qa, .ref qu])), (qd, .inr (2, [.ref qn, .int (iI ct), .int (iI io), .int (iI fp), .ref qt]))] [] sz (zG)) "java/lang/IndexOutOfBoundsException" 1 6 :=
  zTh_of (by decide) (Nat.le_of_ble_eq_true rfl) (fun p e s m below meth c A ls hx hb hr hml hown ht hlk hno hA hK hP hD hX hl => by
    have hS : va_S A s.heap s.heap [] := va_S.rf
    have hl : lv_has ls 4 [(0, .ref qg), (1, .int (iI i)), (2, .int (iI wh))] := hl
    refine lv_aload_n hx hb d_G_entry_0 rfl (lv_at hl 0 rfl) ?_
    refine lv_iload_n hx hb d_G_entry_1 rfl (lv_at hl 1 rfl) ?_
    exact zcallVT (As := [.int (iI i)]) (rest := []) ⟨hx, hb, hml, hown, ht⟩ (a_G_oeY l D _ qg qa qu qd qt qn ct io fp i hl9 (by omega) (by omega) (by omega) (by omega)) (cwV 1 ht (zt_goodV zm_611 zm_612 zm_17 zm_65 zm_613) rfl rfl rfl (by decide +kernel) ⟨Nat.le_of_ble_eq_true rfl, Nat.le_of_ble_eq_true rfl⟩) (zpreV zBlind_G hK hP hD [0, 1] [] rfl (by decide) rfl (fun U hU hW => zBlind_G s U hW.alike hU hX) (va_recv (q := ("ZipGuard", F_G, 4)) hK hP rfl (q0 := 0) (ci := 0) rfl)) rfl hl.1 (lv_room (Nat.le_of_ble_eq_true rfl)) d_G_entry_2 ⟨Nat.le_of_ble_eq_true rfl, Nat.le_of_ble_eq_true rfl⟩ (fun q ce H1 _ _ z3 z4 z5 => zout hno hlk z3 z4 z5 (Nat.le_of_ble_eq_true rfl) (Nat.le_of_ble_eq_true rfl)))
set_option maxHeartbeats 4000000 in
set_option maxRecDepth 100000 in
theorem a_G_namX (l : Launch) (D : va_G) (sz : Nat) (qg : Nat) (qa : Nat) (qu : Nat) (qd : Nat) (qt : Nat) (qn : Nat) (ct : Int) (io : Int) (fp : Int) (i : Int) (k : Int) (hl9 : l.stackTraces = false) (hio : io = 0) : zTh l y_G_name (Cond.code y_G_name prog_1_method_11_code 4 (Option.some Jvm.ClassFile.FieldType.int) :: zt) { frames := 7, cells := 1, slots := 6, locals := 111 } (zPc [.ref qg, .int (iI i), .int (iI k)] D [(qg, .inr (0, [.ref qt, .ref qd, .ref qa, .ref qu])), (qd, .inr (2, [.ref qn, .int (iI ct), .int (iI io), .int (iI fp), .ref qt]))] [] sz (zG)) "java/lang/IllegalStateException" 1 6 :=
  zTh_of (by decide) (Nat.le_of_ble_eq_true rfl) (fun p e s m below meth c A ls hx hb hr hml hown ht hlk hno hA hK hP hD hX hl => by
    have hS : va_S A s.heap s.heap [] := va_S.rf
    have hl : lv_has ls 4 [(0, .ref qg), (1, .int (iI i)), (2, .int (iI k))] := hl
    refine lv_aload_n hx hb d_G_name_0 rfl (lv_at hl 0 rfl) ?_
    refine lv_iload_n hx hb d_G_name_1 rfl (lv_at hl 1 rfl) ?_
    exact zcallVT (As := [.int (iI i)]) (rest := []) ⟨hx, hb, hml, hown, ht⟩ (a_G_oeX l D _ qg qa qu qd qt qn ct io fp i hl9 (by omega)) (cwV 1 ht (zt_goodV zm_611 zm_612 zm_17 zm_65 zm_613) rfl rfl rfl (by decide +kernel) ⟨Nat.le_of_ble_eq_true rfl, Nat.le_of_ble_eq_true rfl⟩) (zpreV zBlind_G hK hP hD [0, 1] [] rfl (by decide) rfl (fun U hU hW => zBlind_G s U hW.alike hU hX) (va_recv (q := ("ZipGuard", F_G, 4)) hK hP rfl (q0 := 0) (ci := 0) rfl)) rfl hl.1 (lv_room (Nat.le_of_ble_eq_true rfl)) d_G_name_2 ⟨Nat.le_of_ble_eq_true rfl, Nat.le_of_ble_eq_true rfl⟩ (fun q ce H1 _ _ z3 z4 z5 => zout hno hlk z3 z4 z5 (Nat.le_of_ble_eq_true rfl) (Nat.le_of_ble_eq_true rfl)))
set_option maxHeartbeats 4000000 in
set_option maxRecDepth 100000 in
theorem a_G_namY (l : Launch) (D : va_G) (sz : Nat) (qg : Nat) (qa : Nat) (qu : Nat) (qd : Nat) (qt : Nat) (qn : Nat) (ct : Int) (io : Int) (fp : Int) (i : Int) (k : Int) (hl9 : l.stackTraces = false) (hio : io = 1) (hct : 0 ≤ ct ∧ ct ≤ 64) (hi : -2147483648 ≤ i ∧ i ≤ 2147483647) (hbad : i < 0 ∨ ct ≤ i) : zTh l y_G_name (Cond.code y_G_name prog_1_method_11_code 4 (Option.some Jvm.ClassFile.FieldType.int) :: zt) { frames := 7, cells := 1, slots := 6, locals := 111 } (zPc [.ref qg, .int (iI i), .int (iI k)] D [(qg, .inr (0, [.ref qt, .ref qd, .ref qa, .ref qu])), (qd, .inr (2, [.ref qn, .int (iI ct), .int (iI io), .int (iI fp), .ref qt]))] [] sz (zG)) "java/lang/IndexOutOfBoundsException" 1 6 :=
  zTh_of (by decide) (Nat.le_of_ble_eq_true rfl) (fun p e s m below meth c A ls hx hb hr hml hown ht hlk hno hA hK hP hD hX hl => by
    have hS : va_S A s.heap s.heap [] := va_S.rf
    have hl : lv_has ls 4 [(0, .ref qg), (1, .int (iI i)), (2, .int (iI k))] := hl
    refine lv_aload_n hx hb d_G_name_0 rfl (lv_at hl 0 rfl) ?_
    refine lv_iload_n hx hb d_G_name_1 rfl (lv_at hl 1 rfl) ?_
    exact zcallVT (As := [.int (iI i)]) (rest := []) ⟨hx, hb, hml, hown, ht⟩ (a_G_oeY l D _ qg qa qu qd qt qn ct io fp i hl9 (by omega) (by omega) (by omega) (by omega)) (cwV 1 ht (zt_goodV zm_611 zm_612 zm_17 zm_65 zm_613) rfl rfl rfl (by decide +kernel) ⟨Nat.le_of_ble_eq_true rfl, Nat.le_of_ble_eq_true rfl⟩) (zpreV zBlind_G hK hP hD [0, 1] [] rfl (by decide) rfl (fun U hU hW => zBlind_G s U hW.alike hU hX) (va_recv (q := ("ZipGuard", F_G, 4)) hK hP rfl (q0 := 0) (ci := 0) rfl)) rfl hl.1 (lv_room (Nat.le_of_ble_eq_true rfl)) d_G_name_2 ⟨Nat.le_of_ble_eq_true rfl, Nat.le_of_ble_eq_true rfl⟩ (fun q ce H1 _ _ z3 z4 z5 => zout hno hlk z3 z4 z5 (Nat.le_of_ble_eq_true rfl) (Nat.le_of_ble_eq_true rfl)))
set_option maxHeartbeats 4000000 in
set_option maxRecDepth 100000 in
theorem a_G_wriX (l : Launch) (D : va_G) (sz : Nat) (qg : Nat) (qa : Nat) (qu : Nat) (qd : Nat) (qt : Nat) (qn : Nat) (ct : Int) (io : Int) (fp : Int) (i : Int) (k : Int) (hl9 : l.stackTraces = false) (hio : io = 0) : zTh l y_G_written (Cond.code y_G_written prog_1_method_12_code 4 (Option.some Jvm.ClassFile.FieldType.int) :: zt) { frames := 7, cells := 1, slots := 6, locals := 111 } (zPc [.ref qg, .int (iI i), .int (iI k)] D [(qg, .inr (0, [.ref qt, .ref qd, .ref qa, .ref qu])), (qd, .inr (2, [.ref qn, .int (iI ct), .int (iI io), .int (iI fp), .ref qt]))] [] sz (zG)) "java/lang/IllegalStateException" 1 6 :=
  zTh_of (by decide) (Nat.le_of_ble_eq_true rfl) (fun p e s m below meth c A ls hx hb hr hml hown ht hlk hno hA hK hP hD hX hl => by
    have hS : va_S A s.heap s.heap [] := va_S.rf
    have hl : lv_has ls 4 [(0, .ref qg), (1, .int (iI i)), (2, .int (iI k))] := hl
    refine lv_aload_n hx hb d_G_written_0 rfl (lv_at hl 0 rfl) ?_
    refine lv_iload_n hx hb d_G_written_1 rfl (lv_at hl 1 rfl) ?_
    exact zcallVT (As := [.int (iI i)]) (rest := []) ⟨hx, hb, hml, hown, ht⟩ (a_G_oeX l D _ qg qa qu qd qt qn ct io fp i hl9 (by omega)) (cwV 1 ht (zt_goodV zm_611 zm_612 zm_17 zm_65 zm_613) rfl rfl rfl (by decide +kernel) ⟨Nat.le_of_ble_eq_true rfl, Nat.le_of_ble_eq_true rfl⟩) (zpreV zBlind_G hK hP hD [0, 1] [] rfl (by decide) rfl (fun U hU hW => zBlind_G s U hW.alike hU hX) (va_recv (q := ("ZipGuard", F_G, 4)) hK hP rfl (q0 := 0) (ci := 0) rfl)) rfl hl.1 (lv_room (Nat.le_of_ble_eq_true rfl)) d_G_written_2 ⟨Nat.le_of_ble_eq_true rfl, Nat.le_of_ble_eq_true rfl⟩ (fun q ce H1 _ _ z3 z4 z5 => zout hno hlk z3 z4 z5 (Nat.le_of_ble_eq_true rfl) (Nat.le_of_ble_eq_true rfl)))
set_option maxHeartbeats 4000000 in
set_option maxRecDepth 100000 in
theorem a_G_wriY (l : Launch) (D : va_G) (sz : Nat) (qg : Nat) (qa : Nat) (qu : Nat) (qd : Nat) (qt : Nat) (qn : Nat) (ct : Int) (io : Int) (fp : Int) (i : Int) (k : Int) (hl9 : l.stackTraces = false) (hio : io = 1) (hct : 0 ≤ ct ∧ ct ≤ 64) (hi : -2147483648 ≤ i ∧ i ≤ 2147483647) (hbad : i < 0 ∨ ct ≤ i) : zTh l y_G_written (Cond.code y_G_written prog_1_method_12_code 4 (Option.some Jvm.ClassFile.FieldType.int) :: zt) { frames := 7, cells := 1, slots := 6, locals := 111 } (zPc [.ref qg, .int (iI i), .int (iI k)] D [(qg, .inr (0, [.ref qt, .ref qd, .ref qa, .ref qu])), (qd, .inr (2, [.ref qn, .int (iI ct), .int (iI io), .int (iI fp), .ref qt]))] [] sz (zG)) "java/lang/IndexOutOfBoundsException" 1 6 :=
  zTh_of (by decide) (Nat.le_of_ble_eq_true rfl) (fun p e s m below meth c A ls hx hb hr hml hown ht hlk hno hA hK hP hD hX hl => by
    have hS : va_S A s.heap s.heap [] := va_S.rf
    have hl : lv_has ls 4 [(0, .ref qg), (1, .int (iI i)), (2, .int (iI k))] := hl
    refine lv_aload_n hx hb d_G_written_0 rfl (lv_at hl 0 rfl) ?_
    refine lv_iload_n hx hb d_G_written_1 rfl (lv_at hl 1 rfl) ?_
    exact zcallVT (As := [.int (iI i)]) (rest := []) ⟨hx, hb, hml, hown, ht⟩ (a_G_oeY l D _ qg qa qu qd qt qn ct io fp i hl9 (by omega) (by omega) (by omega) (by omega)) (cwV 1 ht (zt_goodV zm_611 zm_612 zm_17 zm_65 zm_613) rfl rfl rfl (by decide +kernel) ⟨Nat.le_of_ble_eq_true rfl, Nat.le_of_ble_eq_true rfl⟩) (zpreV zBlind_G hK hP hD [0, 1] [] rfl (by decide) rfl (fun U hU hW => zBlind_G s U hW.alike hU hX) (va_recv (q := ("ZipGuard", F_G, 4)) hK hP rfl (q0 := 0) (ci := 0) rfl)) rfl hl.1 (lv_room (Nat.le_of_ble_eq_true rfl)) d_G_written_2 ⟨Nat.le_of_ble_eq_true rfl, Nat.le_of_ble_eq_true rfl⟩ (fun q ce H1 _ _ z3 z4 z5 => zout hno hlk z3 z4 z5 (Nat.le_of_ble_eq_true rfl) (Nat.le_of_ble_eq_true rfl)))
set_option maxHeartbeats 4000000 in
set_option maxRecDepth 100000 in
theorem a_G_allX (l : Launch) (D : va_G) (sz : Nat) (qg : Nat) (qa : Nat) (qu : Nat) (qd : Nat) (qt : Nat) (qn : Nat) (ct : Int) (io : Int) (fp : Int) (hl9 : l.stackTraces = false) (hio : io = 0) : zTh l y_G_takeAll (Cond.code y_G_takeAll prog_1_method_9_code 2 (Option.some Jvm.ClassFile.FieldType.int) :: zt) { frames := 6, cells := 1, slots := 6, locals := 90 } (zPc [.ref qg] D [(qg, .inr (0, [.ref qt, .ref qd, .ref qa, .ref qu])), (qd, .inr (2, [.ref qn, .int (iI ct), .int (iI io), .int (iI fp), .ref qt]))] [] sz (zG)) "java/lang/IllegalStateException" 1 6 :=
  zTh_of (by decide) (Nat.le_of_ble_eq_true rfl) (fun p e s m below meth c A ls hx hb hr hml hown ht hlk hno hA hK hP hD hX hl => by
    have hS : va_S A s.heap s.heap [] := va_S.rf
    have hl : lv_has ls 2 [(0, .ref qg)] := hl
    refine lv_aload_n hx hb d_G_takeAll_0 rfl (lv_at hl 0 rfl) ?_
    refine va_get (ci := 0) (C := "ZipGuard") (T := F_G) (N := 4) hx hb ht zi_G hown hK hP 0 rfl rfl 1 (by decide) (ht _ zm_396) (fun _ h9 => h9) rfl d_G_takeAll_1 ?_
    refine va_get (ci := 2) (C := "ZipGuard$Directory") (T := F_D) (N := 5) hx hb ht zi_D hown hK hP 1 rfl rfl 2 (by decide) (ht _ zm_184) (fun _ h9 => h9) rfl d_G_takeAll_4 ?_
    refine zv_if_ne (tgt := 18) hx hb d_G_takeAll_7 (by decide) (by omega) (fun hc_1 => ?_) (fun hc_1 => ?_)
    · skip
      exfalso; omega
    · skip
      exact zthrow (cls := zISE) (names := zUP) (ik := 45) (ic := 47) (rest := []) hx hb hl9 hown (by decide) (by decide) (ht _ zm_524) (ht _ zm_80) (zhat zkey_ISE ht hX) (hl.1.trans hml.symm) d_G_takeAll_10 d_G_takeAll_13 d_G_takeAll_14 d_G_takeAll_17 hno (Nat.le_of_ble_eq_true rfl) (Nat.le_of_ble_eq_true rfl) (Nat.le_of_ble_eq_true rfl) (Nat.le_of_ble_eq_true rfl) hlk (Nat.le_of_ble_eq_true rfl) (Nat.le_of_ble_eq_true rfl))
set_option maxHeartbeats 4000000 in
set_option maxRecDepth 100000 in
theorem a_G_entZ (l : Launch) (D : va_G) (sz : Nat) (qg : Nat) (qa : Nat) (qu : Nat) (qd : Nat) (qt : Nat) (qn : Nat) (ct : Int) (io : Int) (fp : Int) (cE : ClassId) (fe : Nat → Option Nat) (ad : Nat → Nat) (i : Int) (wh : Int) (hl9 : l.stackTraces = false) (hfe : ∀ k : Nat, k < 64 → fe k = some (ad k)) (hio : io = 1) (hi : 0 ≤ i ∧ i < ct ∧ ct ≤ 64) (hwh : -2147483648 ≤ wh ∧ wh ≤ 2147483647) (hbad : wh < 0 ∨ 7 < wh) : zTh l y_G_entry (Cond.code y_G_entry prog_1_method_10_code 4 (Option.some Jvm.ClassFile.FieldType.int) :: zt) { frames := 6, cells := 1, slots := 6, locals := 90 } (zPc [.ref qg, .int (iI i), .int (iI wh)] D [(qg, .inr (0, [.ref qt, .ref qd, .ref qa, .ref qu])), (qd, .inr (2, [.ref qn, .int (iI ct), .int (iI io), .int (iI fp), .ref qt])), (qn, .inl (cE, 64, .inr (.inr (.inr (.inr fe)))))] [(cE, .object "ZipGuard$Entry")] sz (zG)) "java/lang/IllegalArgumentException" 1 6 :=
  zTh_of (by decide) (Nat.le_of_ble_eq_true rfl) (fun p e s m below meth c A ls hx hb hr hml hown ht hlk hno hA hK hP hD hX hl => by
    have hS : va_S A s.heap s.heap [] := va_S.rf
    have hl : lv_has ls 4 [(0, .ref qg), (1, .int (iI i)), (2, .int (iI wh))] := hl
    refine lv_aload_n hx hb d_G_entry_0 rfl (lv_at hl 0 rfl) ?_
    refine lv_iload_n hx hb d_G_entry_1 rfl (lv_at hl 1 rfl) ?_
    refine zjRr (va_runV (As := [.int (iI i)]) (rest := []) ⟨hx, hb, hml, hown, ht⟩ (a_G_oe l D qg qa qu qd qt qn ct io fp cE fe ad i hfe (by omega) (by omega)) (cwV 1 ht (zt_goodV zm_611 zm_612 zm_17 zm_65 zm_613) rfl rfl rfl (by decide +kernel) ⟨Nat.le_of_ble_eq_true rfl, Nat.le_of_ble_eq_true rfl⟩) (zpreRV zBlind_t hK hP [0, 1, 2] [0] rfl rfl (fun _ _ _ => trivial) (va_recv (q := ("ZipGuard", F_G, 4)) hK hP rfl (q0 := 0) (ci := 0) rfl)) rfl rfl hl.1 rfl (lv_room (Nat.le_of_ble_eq_true rfl)) d_G_entry_2 ⟨Nat.le_of_ble_eq_true rfl, Nat.le_of_ble_eq_true rfl⟩) (fun r_1 hp_2 => ?_)
    subst hp_2
    refine lv_astore_n (lv' := [(3, .ref (ad i.toNat)), (0, .ref qg), (1, .int (iI i)), (2, .int (iI wh))]) hx hb d_G_entry_5 rfl hl (by decide) rfl (fun ls hl => ?_)
    refine lv_iload_n hx hb d_G_entry_6 rfl (lv_at hl 3 rfl) ?_
    by_cases hc_3 : wh = 0
    · skip
      refine zv_eqI hc_3 ?_
      refine lv_tableIn (off := 45) (tgt := 52) hx hb d_G_entry_7 (by decide) (by decide) (by decide) (by decide) ?_
      exfalso; omega
    · skip
      by_cases hc_4 : wh = 1
      · skip
        refine zv_eqI hc_4 ?_
        refine lv_tableIn (off := 50) (tgt := 57) hx hb d_G_entry_7 (by decide) (by decide) (by decide) (by decide) ?_
        exfalso; omega
      · skip
        by_cases hc_5 : wh = 2
        · skip
          refine zv_eqI hc_5 ?_
          refine lv_tableIn (off := 55) (tgt := 62) hx hb d_G_entry_7 (by decide) (by decide) (by decide) (by decide) ?_
          exfalso; omega
        · skip
          by_cases hc_6 : wh = 3
          · skip
            refine zv_eqI hc_6 ?_
            refine lv_tableIn (off := 61) (tgt := 68) hx hb d_G_entry_7 (by decide) (by decide) (by decide) (by decide) ?_
            exfalso; omega
          · skip
            by_cases hc_7 : wh = 4
            · skip
              refine zv_eqI hc_7 ?_
              refine lv_tableIn (off := 66) (tgt := 73) hx hb d_G_entry_7 (by decide) (by decide) (by decide) (by decide) ?_
              exfalso; omega
            · skip
              by_cases hc_8 : wh = 5
              · skip
                refine zv_eqI hc_8 ?_
                refine lv_tableIn (off := 79) (tgt := 86) hx hb d_G_entry_7 (by decide) (by decide) (by decide) (by decide) ?_
                exfalso; omega
              · skip
                by_cases hc_9 : wh = 6
                · skip
                  refine zv_eqI hc_9 ?_
                  refine lv_tableIn (off := 84) (tgt := 91) hx hb d_G_entry_7 (by decide) (by decide) (by decide) (by decide) ?_
                  exfalso; omega
                · skip
                  by_cases hc_10 : wh = 7
                  · skip
                    refine zv_eqI hc_10 ?_
                    refine lv_tableIn (off := 89) (tgt := 96) hx hb d_G_entry_7 (by decide) (by decide) (by decide) (by decide) ?_
                    exfalso; omega
                  · skip
                    refine lv_tableOut (tgt := 101) hx hb d_G_entry_7 (by rw [iI_toInt (by omega)]; omega) (by decide) ?_
                    exact zthrow (cls := zIAE) (names := zUP) (ik := 59) (ic := 61) (rest := []) hx hb hl9 hown (by decide) (by decide) (ht _ zm_561) (ht _ zm_77) (zhat zkey_IAE ht hX) (hl.1.trans hml.symm) d_G_entry_101 d_G_entry_104 d_G_entry_105 d_G_entry_108 hno (Nat.le_of_ble_eq_true rfl) (Nat.le_of_ble_eq_true rfl) (Nat.le_of_ble_eq_true rfl) (Nat.le_of_ble_eq_true rfl) hlk (Nat.le_of_ble_eq_true rfl) (Nat.le_of_ble_eq_true rfl))
set_option maxHeartbeats 4000000 in
set_option maxRecDepth 100000 in
theorem a_G_abt (l : Launch) (D : va_G) (qg : Nat) (qu : Nat) (qd : Nat) (qt : Nat) (qb : Nat) (qn : Nat) (qa : Nat) (qo : Nat) (bu : Nat) (ra : Nat) (to : Nat) (ks : Int32) (L : Int) (ct : Int) (io : Int) (fp : Int) (i : Int) (hi : 0 ≤ i ∧ i ≤ 4) (hio : 0 ≤ io ∧ io ≤ 1) : Met l y_G_about (Cond.code y_G_about prog_1_method_13_code 2 (Option.some Jvm.ClassFile.FieldType.int) :: zt) { frames := 0, cells := 0, slots := 0, locals := 0 } (zPcR [.ref qg, .int (iI i)] D [(qg, .inr (0, [.ref qt, .ref qd, .ref qa, .ref qu])), (qt, .inr (1, [.ref qb, .int (iI L)])), (qd, .inr (2, [.ref qn, .int (iI ct), .int (iI io), .int (iI fp), .ref qt])), (qa, .inr (3, [.int (nI bu), .int (nI ra), .int (nI to), .ref qo, .int ks]))] [] (fun _ => True)) (zQR (fun (r : Int32) => ∃ x : Int, r = iI x ∧ (True))) 0 0 (fun _ => False) :=
  zMetR (by decide) (Nat.le_of_ble_eq_true rfl) (fun p e s m below meth c ls hx hb hr hml hown ht hlk hK hP hX hl => by
    have hl : lv_has ls 2 [(0, .ref qg), (1, .int (iI i))] := hl
    refine lv_iload_n hx hb d_G_about_0 rfl (lv_at hl 1 rfl) ?_
    by_cases hc_1 : i = 0
    · skip
      refine zv_eqI hc_1 ?_
      refine lv_tableIn (off := 35) (tgt := 36) hx hb d_G_about_1 (by decide) (by decide) (by decide) (by decide) ?_
      refine lv_aload_n hx hb d_G_about_36 rfl (lv_at hl 0 rfl) ?_
      refine va_get (ci := 0) (C := "ZipGuard") (T := F_G) (N := 4) hx hb ht zi_G hown hK hP 0 rfl rfl 0 (by decide) (ht _ zm_395) (fun _ h9 => h9) rfl d_G_about_37 ?_
      refine va_get (ci := 1) (C := "ZipGuard$Tape") (T := F_T) (N := 2) hx hb ht zi_T hown hK hP 1 rfl rfl 1 (by decide) (ht _ zm_98) (fun _ h9 => h9) rfl d_G_about_40 ?_
      exact zretR hx hb hr hlk (⟨_, rfl, trivial⟩) d_G_about_43
    · skip
      by_cases hc_2 : i = 1
      · skip
        refine zv_eqI hc_2 ?_
        refine lv_tableIn (off := 43) (tgt := 44) hx hb d_G_about_1 (by decide) (by decide) (by decide) (by decide) ?_
        refine lv_aload_n hx hb d_G_about_44 rfl (lv_at hl 0 rfl) ?_
        refine va_get (ci := 0) (C := "ZipGuard") (T := F_G) (N := 4) hx hb ht zi_G hown hK hP 0 rfl rfl 1 (by decide) (ht _ zm_396) (fun _ h9 => h9) rfl d_G_about_45 ?_
        refine va_get (ci := 2) (C := "ZipGuard$Directory") (T := F_D) (N := 5) hx hb ht zi_D hown hK hP 2 rfl rfl 2 (by decide) (ht _ zm_184) (fun _ h9 => h9) rfl d_G_about_48 ?_
        refine zv_if_eq (tgt := 64) hx hb d_G_about_51 (by decide) (by omega) (fun hc_3 => ?_) (fun hc_3 => ?_)
        · skip
          refine lv_iconst (v := iI 0) hx hb d_G_about_64 (by decide) ?_
          exact zretR hx hb hr hlk (⟨_, rfl, trivial⟩) d_G_about_65
        · skip
          refine lv_aload_n hx hb d_G_about_54 rfl (lv_at hl 0 rfl) ?_
          refine va_get (ci := 0) (C := "ZipGuard") (T := F_G) (N := 4) hx hb ht zi_G hown hK hP 0 rfl rfl 1 (by decide) (ht _ zm_396) (fun _ h9 => h9) rfl d_G_about_55 ?_
          refine va_get (ci := 2) (C := "ZipGuard$Directory") (T := F_D) (N := 5) hx hb ht zi_D hown hK hP 2 rfl rfl 1 (by decide) (ht _ zm_182) (fun _ h9 => h9) rfl d_G_about_58 ?_
          refine lv_goto (tgt := 65) hx hb d_G_about_61 (by decide) ?_
          exact zretR hx hb hr hlk (⟨_, rfl, trivial⟩) d_G_about_65
      · skip
        by_cases hc_4 : i = 2
        · skip
          refine zv_eqI hc_4 ?_
          refine lv_tableIn (off := 65) (tgt := 66) hx hb d_G_about_1 (by decide) (by decide) (by decide) (by decide) ?_
          refine lv_aload_n hx hb d_G_about_66 rfl (lv_at hl 0 rfl) ?_
          refine va_get (ci := 0) (C := "ZipGuard") (T := F_G) (N := 4) hx hb ht zi_G hown hK hP 0 rfl rfl 2 (by decide) (ht _ zm_397) (fun _ h9 => h9) rfl d_G_about_67 ?_
          refine va_get (ci := 3) (C := "ZipGuard$Target") (T := F_A) (N := 5) hx hb ht zi_A hown hK hP 3 rfl rfl 2 (by decide) (ht _ zm_211) (fun _ h9 => h9) rfl d_G_about_70 ?_
          refine zv_any (fun x_5 ha_6 ha_7 => ?_)
          exact zretR hx hb hr hlk (⟨_, rfl, trivial⟩) d_G_about_73
        · skip
          by_cases hc_8 : i = 3
          · skip
            refine zv_eqI hc_8 ?_
            refine lv_tableIn (off := 73) (tgt := 74) hx hb d_G_about_1 (by decide) (by decide) (by decide) (by decide) ?_
            refine lv_aload_n hx hb d_G_about_74 rfl (lv_at hl 0 rfl) ?_
            refine va_get (ci := 0) (C := "ZipGuard") (T := F_G) (N := 4) hx hb ht zi_G hown hK hP 0 rfl rfl 2 (by decide) (ht _ zm_397) (fun _ h9 => h9) rfl d_G_about_75 ?_
            refine va_get (ci := 3) (C := "ZipGuard$Target") (T := F_A) (N := 5) hx hb ht zi_A hown hK hP 3 rfl rfl 0 (by decide) (ht _ zm_207) (fun _ h9 => h9) rfl d_G_about_78 ?_
            refine zv_any (fun x_9 ha_10 ha_11 => ?_)
            exact zretR hx hb hr hlk (⟨_, rfl, trivial⟩) d_G_about_81
          · skip
            by_cases hc_12 : i = 4
            · skip
              refine zv_eqI hc_12 ?_
              refine lv_tableIn (off := 81) (tgt := 82) hx hb d_G_about_1 (by decide) (by decide) (by decide) (by decide) ?_
              refine lv_aload_n hx hb d_G_about_82 rfl (lv_at hl 0 rfl) ?_
              refine va_get (ci := 0) (C := "ZipGuard") (T := F_G) (N := 4) hx hb ht zi_G hown hK hP 0 rfl rfl 2 (by decide) (ht _ zm_397) (fun _ h9 => h9) rfl d_G_about_83 ?_
              refine va_get (ci := 3) (C := "ZipGuard$Target") (T := F_A) (N := 5) hx hb ht zi_A hown hK hP 3 rfl rfl 1 (by decide) (ht _ zm_209) (fun _ h9 => h9) rfl d_G_about_86 ?_
              refine zv_any (fun x_13 ha_14 ha_15 => ?_)
              exact zretR hx hb hr hlk (⟨_, rfl, trivial⟩) d_G_about_89
            · skip
              refine lv_tableOut (tgt := 90) hx hb d_G_about_1 (by rw [iI_toInt (by omega)]; omega) (by decide) ?_
              exfalso; omega)
set_option maxHeartbeats 4000000 in
set_option maxRecDepth 100000 in
theorem a_G_abtX (l : Launch) (D : va_G) (sz : Nat) (qg : Nat) (qa : Nat) (qu : Nat) (qt : Nat) (qd : Nat) (i : Int) (hl9 : l.stackTraces = false) (hi : -2147483648 ≤ i ∧ i ≤ 2147483647) (hbad : i < 0 ∨ 4 < i) : zTh l y_G_about (Cond.code y_G_about prog_1_method_13_code 2 (Option.some Jvm.ClassFile.FieldType.int) :: zt) { frames := 6, cells := 1, slots := 6, locals := 90 } (zPc [.ref qg, .int (iI i)] D [(qg, .inr (0, [.ref qt, .ref qd, .ref qa, .ref qu]))] [] sz (zG)) "java/lang/IllegalArgumentException" 1 6 :=
  zTh_of (by decide) (Nat.le_of_ble_eq_true rfl) (fun p e s m below meth c A ls hx hb hr hml hown ht hlk hno hA hK hP hD hX hl => by
    have hS : va_S A s.heap s.heap [] := va_S.rf
    have hl : lv_has ls 2 [(0, .ref qg), (1, .int (iI i))] := hl
    refine lv_iload_n hx hb d_G_about_0 rfl (lv_at hl 1 rfl) ?_
    by_cases hc_1 : i = 0
    · skip
      refine zv_eqI hc_1 ?_
      refine lv_tableIn (off := 35) (tgt := 36) hx hb d_G_about_1 (by decide) (by decide) (by decide) (by decide) ?_
      exfalso; omega
    · skip
      by_cases hc_2 : i = 1
      · skip
        refine zv_eqI hc_2 ?_
        refine lv_tableIn (off := 43) (tgt := 44) hx hb d_G_about_1 (by decide) (by decide) (by decide) (by decide) ?_
        exfalso; omega
      · skip
        by_cases hc_3 : i = 2
        · skip
          refine zv_eqI hc_3 ?_
          refine lv_tableIn (off := 65) (tgt := 66) hx hb d_G_about_1 (by decide) (by decide) (by decide) (by decide) ?_
          exfalso; omega
        · skip
          by_cases hc_4 : i = 3
          · skip
            refine zv_eqI hc_4 ?_
            refine lv_tableIn (off := 73) (tgt := 74) hx hb d_G_about_1 (by decide) (by decide) (by decide) (by decide) ?_
            exfalso; omega
          · skip
            by_cases hc_5 : i = 4
            · skip
              refine zv_eqI hc_5 ?_
              refine lv_tableIn (off := 81) (tgt := 82) hx hb d_G_about_1 (by decide) (by decide) (by decide) (by decide) ?_
              exfalso; omega
            · skip
              refine lv_tableOut (tgt := 90) hx hb d_G_about_1 (by rw [iI_toInt (by omega)]; omega) (by decide) ?_
              exact zthrow (cls := zIAE) (names := zUP) (ik := 59) (ic := 61) (rest := []) hx hb hl9 hown (by decide) (by decide) (ht _ zm_561) (ht _ zm_77) (zhat zkey_IAE ht hX) (hl.1.trans hml.symm) d_G_about_90 d_G_about_93 d_G_about_94 d_G_about_97 hno (Nat.le_of_ble_eq_true rfl) (Nat.le_of_ble_eq_true rfl) (Nat.le_of_ble_eq_true rfl) (Nat.le_of_ble_eq_true rfl) hlk (Nat.le_of_ble_eq_true rfl) (Nat.le_of_ble_eq_true rfl))
