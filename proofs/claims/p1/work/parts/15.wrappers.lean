set_option maxRecDepth 100000 in
theorem zm_515 : Jvm.Cond.classLink "ZipGuardLaw" (13 : Nat) "java/lang/IllegalStateException" ∈ zt := zt_m4 (List.mem_of_getElem? (i := 4) rfl)
set_option maxRecDepth 100000 in
theorem zm_516 : Jvm.Cond.methodLink "ZipGuardLaw" (7 : Nat) ({ cls := "ZipGuard", name := "feed", desc := "(IIIII)I" } : Jvm.MethodName) ∈ zt := zt_m4 (List.mem_of_getElem? (i := 5) rfl)
set_option maxRecDepth 100000 in
theorem zm_517 : Jvm.Cond.instanceMethod ({ cls := "ZipGuard", name := "feed", desc := "(IIIII)I" } : Jvm.MethodName) ∈ zt := zt_m4 (List.mem_of_getElem? (i := 6) rfl)
set_option maxRecDepth 100000 in
theorem zm_518 : Jvm.Cond.selects "ZipGuard" ({ cls := "ZipGuard", name := "feed", desc := "(IIIII)I" } : Jvm.MethodName) ({ cls := "ZipGuard", name := "feed", desc := "(IIIII)I" } : Jvm.MethodName) ∈ zt := zt_m4 (List.mem_of_getElem? (i := 7) rfl)
set_option maxRecDepth 100000 in
theorem zm_519 : Jvm.Cond.code ({ cls := "ZipGuard", name := "feed", desc := "(IIIII)I" } : Jvm.MethodName) prog_1_method_2_code (6 : Nat) (Option.some Jvm.ClassFile.FieldType.int) ∈ zt := zt_m4 (List.mem_of_getElem? (i := 8) rfl)
set_option maxRecDepth 100000 in
theorem zm_556 : Jvm.Cond.classLink "ZipGuardLaw" (19 : Nat) "java/lang/IllegalArgumentException" ∈ zt := zt_m4 (List.mem_of_getElem? (i := 45) rfl)
set_option maxRecDepth 100000 in
theorem zm_557 : Jvm.Cond.methodLink "ZipGuardLaw" (15 : Nat) ({ cls := "ZipGuard", name := "end", desc := "(I)V" } : Jvm.MethodName) ∈ zt := zt_m4 (List.mem_of_getElem? (i := 46) rfl)
set_option maxRecDepth 100000 in
theorem zm_558 : Jvm.Cond.instanceMethod ({ cls := "ZipGuard", name := "end", desc := "(I)V" } : Jvm.MethodName) ∈ zt := zt_m4 (List.mem_of_getElem? (i := 47) rfl)
set_option maxRecDepth 100000 in
theorem zm_559 : Jvm.Cond.selects "ZipGuard" ({ cls := "ZipGuard", name := "end", desc := "(I)V" } : Jvm.MethodName) ({ cls := "ZipGuard", name := "end", desc := "(I)V" } : Jvm.MethodName) ∈ zt := zt_m4 (List.mem_of_getElem? (i := 48) rfl)
set_option maxRecDepth 100000 in
theorem zm_560 : Jvm.Cond.code ({ cls := "ZipGuard", name := "end", desc := "(I)V" } : Jvm.MethodName) prog_1_method_3_code (2 : Nat) (Option.none : Option Jvm.ClassFile.FieldType) ∈ zt := zt_m4 (List.mem_of_getElem? (i := 49) rfl)
set_option maxRecDepth 100000 in
theorem zm_573 : Jvm.Cond.classLink "ZipGuardLaw" (25 : Nat) "java/lang/IndexOutOfBoundsException" ∈ zt := zt_m4 (List.mem_of_getElem? (i := 62) rfl)
set_option maxRecDepth 100000 in
theorem zm_574 : Jvm.Cond.methodLink "ZipGuardLaw" (21 : Nat) ({ cls := "ZipGuard", name := "alter", desc := "(II)I" } : Jvm.MethodName) ∈ zt := zt_m4 (List.mem_of_getElem? (i := 63) rfl)
set_option maxRecDepth 100000 in
theorem zm_575 : Jvm.Cond.instanceMethod ({ cls := "ZipGuard", name := "alter", desc := "(II)I" } : Jvm.MethodName) ∈ zt := zt_m4 (List.mem_of_getElem? (i := 64) rfl)
set_option maxRecDepth 100000 in
theorem zm_576 : Jvm.Cond.selects "ZipGuard" ({ cls := "ZipGuard", name := "alter", desc := "(II)I" } : Jvm.MethodName) ({ cls := "ZipGuard", name := "alter", desc := "(II)I" } : Jvm.MethodName) ∈ zt := zt_m4 (List.mem_of_getElem? (i := 65) rfl)
set_option maxRecDepth 100000 in
theorem zm_577 : Jvm.Cond.code ({ cls := "ZipGuard", name := "alter", desc := "(II)I" } : Jvm.MethodName) prog_1_method_4_code (3 : Nat) (Option.some Jvm.ClassFile.FieldType.int) ∈ zt := zt_m4 (List.mem_of_getElem? (i := 66) rfl)
set_option maxRecDepth 100000 in
theorem zm_599 : Jvm.Cond.methodLink "ZipGuardLaw" (27 : Nat) ({ cls := "ZipGuard", name := "limits", desc := "(II)V" } : Jvm.MethodName) ∈ zt := zt_m4 (List.mem_of_getElem? (i := 88) rfl)
set_option maxRecDepth 100000 in
theorem zm_600 : Jvm.Cond.instanceMethod ({ cls := "ZipGuard", name := "limits", desc := "(II)V" } : Jvm.MethodName) ∈ zt := zt_m4 (List.mem_of_getElem? (i := 89) rfl)
set_option maxRecDepth 100000 in
theorem zm_601 : Jvm.Cond.selects "ZipGuard" ({ cls := "ZipGuard", name := "limits", desc := "(II)V" } : Jvm.MethodName) ({ cls := "ZipGuard", name := "limits", desc := "(II)V" } : Jvm.MethodName) ∈ zt := zt_m4 (List.mem_of_getElem? (i := 90) rfl)
set_option maxRecDepth 100000 in
theorem zm_602 : Jvm.Cond.code ({ cls := "ZipGuard", name := "limits", desc := "(II)V" } : Jvm.MethodName) prog_1_method_7_code (3 : Nat) (Option.none : Option Jvm.ClassFile.FieldType) ∈ zt := zt_m4 (List.mem_of_getElem? (i := 91) rfl)
set_option maxRecDepth 100000 in
theorem zm_607 : Jvm.Cond.methodLink "ZipGuardLaw" (31 : Nat) ({ cls := "ZipGuard", name := "take", desc := "(I)I" } : Jvm.MethodName) ∈ zt := zt_m4 (List.mem_of_getElem? (i := 96) rfl)
set_option maxRecDepth 100000 in
theorem zm_608 : Jvm.Cond.instanceMethod ({ cls := "ZipGuard", name := "take", desc := "(I)I" } : Jvm.MethodName) ∈ zt := zt_m4 (List.mem_of_getElem? (i := 97) rfl)
set_option maxRecDepth 100000 in
theorem zm_609 : Jvm.Cond.selects "ZipGuard" ({ cls := "ZipGuard", name := "take", desc := "(I)I" } : Jvm.MethodName) ({ cls := "ZipGuard", name := "take", desc := "(I)I" } : Jvm.MethodName) ∈ zt := zt_m4 (List.mem_of_getElem? (i := 98) rfl)
set_option maxRecDepth 100000 in
theorem zm_610 : Jvm.Cond.code ({ cls := "ZipGuard", name := "take", desc := "(I)I" } : Jvm.MethodName) prog_1_method_8_code (2 : Nat) (Option.some Jvm.ClassFile.FieldType.int) ∈ zt := zt_m4 (List.mem_of_getElem? (i := 99) rfl)
set_option maxRecDepth 100000 in
theorem zm_712 : Jvm.Cond.methodLink "ZipGuardLaw" (35 : Nat) ({ cls := "ZipGuard", name := "takeAll", desc := "()I" } : Jvm.MethodName) ∈ zt := zt_m4 (List.mem_of_getElem? (i := 201) rfl)
set_option maxRecDepth 100000 in
theorem zm_713 : Jvm.Cond.instanceMethod ({ cls := "ZipGuard", name := "takeAll", desc := "()I" } : Jvm.MethodName) ∈ zt := zt_m4 (List.mem_of_getElem? (i := 202) rfl)
set_option maxRecDepth 100000 in
theorem zm_714 : Jvm.Cond.selects "ZipGuard" ({ cls := "ZipGuard", name := "takeAll", desc := "()I" } : Jvm.MethodName) ({ cls := "ZipGuard", name := "takeAll", desc := "()I" } : Jvm.MethodName) ∈ zt := zt_m4 (List.mem_of_getElem? (i := 203) rfl)
set_option maxRecDepth 100000 in
theorem zm_715 : Jvm.Cond.code ({ cls := "ZipGuard", name := "takeAll", desc := "()I" } : Jvm.MethodName) prog_1_method_9_code (2 : Nat) (Option.some Jvm.ClassFile.FieldType.int) ∈ zt := zt_m4 (List.mem_of_getElem? (i := 204) rfl)
set_option maxRecDepth 100000 in
theorem zm_719 : Jvm.Cond.methodLink "ZipGuardLaw" (39 : Nat) ({ cls := "ZipGuard", name := "entry", desc := "(II)I" } : Jvm.MethodName) ∈ zt := zt_m4 (List.mem_of_getElem? (i := 208) rfl)
set_option maxRecDepth 100000 in
theorem zm_720 : Jvm.Cond.instanceMethod ({ cls := "ZipGuard", name := "entry", desc := "(II)I" } : Jvm.MethodName) ∈ zt := zt_m4 (List.mem_of_getElem? (i := 209) rfl)
set_option maxRecDepth 100000 in
theorem zm_721 : Jvm.Cond.selects "ZipGuard" ({ cls := "ZipGuard", name := "entry", desc := "(II)I" } : Jvm.MethodName) ({ cls := "ZipGuard", name := "entry", desc := "(II)I" } : Jvm.MethodName) ∈ zt := zt_m4 (List.mem_of_getElem? (i := 210) rfl)
set_option maxRecDepth 100000 in
theorem zm_722 : Jvm.Cond.code ({ cls := "ZipGuard", name := "entry", desc := "(II)I" } : Jvm.MethodName) prog_1_method_10_code (4 : Nat) (Option.some Jvm.ClassFile.FieldType.int) ∈ zt := zt_m4 (List.mem_of_getElem? (i := 211) rfl)
set_option maxRecDepth 100000 in
theorem zm_726 : Jvm.Cond.methodLink "ZipGuardLaw" (42 : Nat) ({ cls := "ZipGuard", name := "name", desc := "(II)I" } : Jvm.MethodName) ∈ zt := zt_m4 (List.mem_of_getElem? (i := 215) rfl)
set_option maxRecDepth 100000 in
theorem zm_727 : Jvm.Cond.instanceMethod ({ cls := "ZipGuard", name := "name", desc := "(II)I" } : Jvm.MethodName) ∈ zt := zt_m4 (List.mem_of_getElem? (i := 216) rfl)
set_option maxRecDepth 100000 in
theorem zm_728 : Jvm.Cond.selects "ZipGuard" ({ cls := "ZipGuard", name := "name", desc := "(II)I" } : Jvm.MethodName) ({ cls := "ZipGuard", name := "name", desc := "(II)I" } : Jvm.MethodName) ∈ zt := zt_m4 (List.mem_of_getElem? (i := 217) rfl)
set_option maxRecDepth 100000 in
theorem zm_729 : Jvm.Cond.code ({ cls := "ZipGuard", name := "name", desc := "(II)I" } : Jvm.MethodName) prog_1_method_11_code (4 : Nat) (Option.some Jvm.ClassFile.FieldType.int) ∈ zt := zt_m4 (List.mem_of_getElem? (i := 218) rfl)
set_option maxRecDepth 100000 in
theorem zm_733 : Jvm.Cond.methodLink "ZipGuardLaw" (45 : Nat) ({ cls := "ZipGuard", name := "written", desc := "(II)I" } : Jvm.MethodName) ∈ zt := zt_m5 (List.mem_of_getElem? (i := 3) rfl)
set_option maxRecDepth 100000 in
theorem zm_734 : Jvm.Cond.instanceMethod ({ cls := "ZipGuard", name := "written", desc := "(II)I" } : Jvm.MethodName) ∈ zt := zt_m5 (List.mem_of_getElem? (i := 4) rfl)
set_option maxRecDepth 100000 in
theorem zm_735 : Jvm.Cond.selects "ZipGuard" ({ cls := "ZipGuard", name := "written", desc := "(II)I" } : Jvm.MethodName) ({ cls := "ZipGuard", name := "written", desc := "(II)I" } : Jvm.MethodName) ∈ zt := zt_m5 (List.mem_of_getElem? (i := 5) rfl)
set_option maxRecDepth 100000 in
theorem zm_736 : Jvm.Cond.code ({ cls := "ZipGuard", name := "written", desc := "(II)I" } : Jvm.MethodName) prog_1_method_12_code (4 : Nat) (Option.some Jvm.ClassFile.FieldType.int) ∈ zt := zt_m5 (List.mem_of_getElem? (i := 6) rfl)
set_option maxRecDepth 100000 in
theorem zm_741 : Jvm.Cond.methodLink "ZipGuardLaw" (48 : Nat) ({ cls := "ZipGuard", name := "about", desc := "(I)I" } : Jvm.MethodName) ∈ zt := zt_m5 (List.mem_of_getElem? (i := 11) rfl)
set_option maxRecDepth 100000 in
theorem zm_742 : Jvm.Cond.instanceMethod ({ cls := "ZipGuard", name := "about", desc := "(I)I" } : Jvm.MethodName) ∈ zt := zt_m5 (List.mem_of_getElem? (i := 12) rfl)
set_option maxRecDepth 100000 in
theorem zm_743 : Jvm.Cond.selects "ZipGuard" ({ cls := "ZipGuard", name := "about", desc := "(I)I" } : Jvm.MethodName) ({ cls := "ZipGuard", name := "about", desc := "(I)I" } : Jvm.MethodName) ∈ zt := zt_m5 (List.mem_of_getElem? (i := 13) rfl)
set_option maxRecDepth 100000 in
theorem zm_744 : Jvm.Cond.code ({ cls := "ZipGuard", name := "about", desc := "(I)I" } : Jvm.MethodName) prog_1_method_13_code (2 : Nat) (Option.some Jvm.ClassFile.FieldType.int) ∈ zt := zt_m5 (List.mem_of_getElem? (i := 14) rfl)
theorem d_L_about_0 : decode method_12_code 0 = .ok (.aload_n 2, 1) := by decide +kernel
theorem d_L_about_1 : decode method_12_code 1 = .ok (.iconst 0, 1) := by decide +kernel
theorem d_L_about_2 : decode method_12_code 2 = .ok (.aload_n 0, 1) := by decide +kernel
theorem d_L_about_3 : decode method_12_code 3 = .ok (.iload_n 1, 1) := by decide +kernel
theorem d_L_about_4 : decode method_12_code 4 = .ok (.invokevirtual 48, 3) := by decide +kernel
theorem d_L_about_7 : decode method_12_code 7 = .ok (.i2l, 1) := by decide +kernel
theorem d_L_about_8 : decode method_12_code 8 = .ok (.lastore, 1) := by decide +kernel
theorem d_L_about_9 : decode method_12_code 9 = .ok (.goto 6, 3) := by decide +kernel
theorem d_L_about_12 : decode method_12_code 12 = .ok (.astore_n 3, 1) := by decide +kernel
theorem d_L_about_13 : decode method_12_code 13 = .ok (.iconst 1, 1) := by decide +kernel
theorem d_L_about_14 : decode method_12_code 14 = .ok (.ireturn, 1) := by decide +kernel
theorem d_L_about_15 : decode method_12_code 15 = .ok (.iconst 0, 1) := by decide +kernel
theorem d_L_about_16 : decode method_12_code 16 = .ok (.ireturn, 1) := by decide +kernel
theorem d_L_alter_0 : decode method_5_code 0 = .ok (.aload_n 3, 1) := by decide +kernel
theorem d_L_alter_1 : decode method_5_code 1 = .ok (.iconst 0, 1) := by decide +kernel
theorem d_L_alter_2 : decode method_5_code 2 = .ok (.aload_n 0, 1) := by decide +kernel
theorem d_L_alter_3 : decode method_5_code 3 = .ok (.iload_n 1, 1) := by decide +kernel
theorem d_L_alter_4 : decode method_5_code 4 = .ok (.iload_n 2, 1) := by decide +kernel
theorem d_L_alter_5 : decode method_5_code 5 = .ok (.invokevirtual 21, 3) := by decide +kernel
theorem d_L_alter_13 : decode method_5_code 13 = .ok (.astore 4, 2) := by decide +kernel
theorem d_L_alter_15 : decode method_5_code 15 = .ok (.iconst 1, 1) := by decide +kernel
theorem d_L_alter_16 : decode method_5_code 16 = .ok (.ireturn, 1) := by decide +kernel
theorem d_L_end_0 : decode method_4_code 0 = .ok (.aload_n 0, 1) := by decide +kernel
theorem d_L_end_1 : decode method_4_code 1 = .ok (.iload_n 1, 1) := by decide +kernel
theorem d_L_end_2 : decode method_4_code 2 = .ok (.invokevirtual 15, 3) := by decide +kernel
theorem d_L_end_5 : decode method_4_code 5 = .ok (.goto 6, 3) := by decide +kernel
theorem d_L_end_8 : decode method_4_code 8 = .ok (.astore_n 2, 1) := by decide +kernel
theorem d_L_end_9 : decode method_4_code 9 = .ok (.iconst 1, 1) := by decide +kernel
theorem d_L_end_10 : decode method_4_code 10 = .ok (.ireturn, 1) := by decide +kernel
theorem d_L_end_11 : decode method_4_code 11 = .ok (.iconst 0, 1) := by decide +kernel
theorem d_L_end_12 : decode method_4_code 12 = .ok (.ireturn, 1) := by decide +kernel
theorem d_L_entry_0 : decode method_9_code 0 = .ok (.aload_n 3, 1) := by decide +kernel
theorem d_L_entry_1 : decode method_9_code 1 = .ok (.iconst 0, 1) := by decide +kernel
theorem d_L_entry_2 : decode method_9_code 2 = .ok (.aload_n 0, 1) := by decide +kernel
theorem d_L_entry_3 : decode method_9_code 3 = .ok (.iload_n 1, 1) := by decide +kernel
theorem d_L_entry_4 : decode method_9_code 4 = .ok (.iload_n 2, 1) := by decide +kernel
theorem d_L_entry_5 : decode method_9_code 5 = .ok (.invokevirtual 39, 3) := by decide +kernel
theorem d_L_entry_13 : decode method_9_code 13 = .ok (.astore 4, 2) := by decide +kernel
theorem d_L_entry_15 : decode method_9_code 15 = .ok (.iconst 1, 1) := by decide +kernel
theorem d_L_entry_16 : decode method_9_code 16 = .ok (.ireturn, 1) := by decide +kernel
theorem d_L_feed_0 : decode method_3_code 0 = .ok (.aload 6, 2) := by decide +kernel
theorem d_L_feed_2 : decode method_3_code 2 = .ok (.iconst 0, 1) := by decide +kernel
theorem d_L_feed_3 : decode method_3_code 3 = .ok (.aload_n 0, 1) := by decide +kernel
theorem d_L_feed_4 : decode method_3_code 4 = .ok (.iload_n 1, 1) := by decide +kernel
theorem d_L_feed_5 : decode method_3_code 5 = .ok (.iload_n 2, 1) := by decide +kernel
theorem d_L_feed_6 : decode method_3_code 6 = .ok (.iload_n 3, 1) := by decide +kernel
theorem d_L_feed_7 : decode method_3_code 7 = .ok (.iload 4, 2) := by decide +kernel
theorem d_L_feed_9 : decode method_3_code 9 = .ok (.iload 5, 2) := by decide +kernel
theorem d_L_feed_11 : decode method_3_code 11 = .ok (.invokevirtual 7, 3) := by decide +kernel
theorem d_L_feed_14 : decode method_3_code 14 = .ok (.i2l, 1) := by decide +kernel
theorem d_L_feed_15 : decode method_3_code 15 = .ok (.lastore, 1) := by decide +kernel
theorem d_L_feed_16 : decode method_3_code 16 = .ok (.goto 7, 3) := by decide +kernel
theorem d_L_feed_23 : decode method_3_code 23 = .ok (.iconst 0, 1) := by decide +kernel
theorem d_L_feed_24 : decode method_3_code 24 = .ok (.ireturn, 1) := by decide +kernel
theorem d_L_limits_0 : decode method_6_code 0 = .ok (.aload_n 0, 1) := by decide +kernel
theorem d_L_limits_1 : decode method_6_code 1 = .ok (.iload_n 1, 1) := by decide +kernel
theorem d_L_limits_2 : decode method_6_code 2 = .ok (.iload_n 2, 1) := by decide +kernel
theorem d_L_limits_3 : decode method_6_code 3 = .ok (.invokevirtual 27, 3) := by decide +kernel
theorem d_L_limits_6 : decode method_6_code 6 = .ok (.goto 6, 3) := by decide +kernel
theorem d_L_limits_9 : decode method_6_code 9 = .ok (.astore_n 3, 1) := by decide +kernel
theorem d_L_limits_10 : decode method_6_code 10 = .ok (.iconst 1, 1) := by decide +kernel
theorem d_L_limits_11 : decode method_6_code 11 = .ok (.ireturn, 1) := by decide +kernel
theorem d_L_limits_12 : decode method_6_code 12 = .ok (.iconst 0, 1) := by decide +kernel
theorem d_L_limits_13 : decode method_6_code 13 = .ok (.ireturn, 1) := by decide +kernel
theorem d_L_name_0 : decode method_10_code 0 = .ok (.aload_n 3, 1) := by decide +kernel
theorem d_L_name_1 : decode method_10_code 1 = .ok (.iconst 0, 1) := by decide +kernel
theorem d_L_name_2 : decode method_10_code 2 = .ok (.aload_n 0, 1) := by decide +kernel
theorem d_L_name_3 : decode method_10_code 3 = .ok (.iload_n 1, 1) := by decide +kernel
theorem d_L_name_4 : decode method_10_code 4 = .ok (.iload_n 2, 1) := by decide +kernel
theorem d_L_name_5 : decode method_10_code 5 = .ok (.invokevirtual 42, 3) := by decide +kernel
theorem d_L_name_13 : decode method_10_code 13 = .ok (.astore 4, 2) := by decide +kernel
theorem d_L_name_15 : decode method_10_code 15 = .ok (.iconst 1, 1) := by decide +kernel
theorem d_L_name_16 : decode method_10_code 16 = .ok (.ireturn, 1) := by decide +kernel
theorem d_L_take_0 : decode method_7_code 0 = .ok (.aload_n 2, 1) := by decide +kernel
theorem d_L_take_1 : decode method_7_code 1 = .ok (.iconst 0, 1) := by decide +kernel
theorem d_L_take_2 : decode method_7_code 2 = .ok (.aload_n 0, 1) := by decide +kernel
theorem d_L_take_3 : decode method_7_code 3 = .ok (.iload_n 1, 1) := by decide +kernel
theorem d_L_take_4 : decode method_7_code 4 = .ok (.invokevirtual 31, 3) := by decide +kernel
theorem d_L_take_12 : decode method_7_code 12 = .ok (.astore_n 3, 1) := by decide +kernel
theorem d_L_take_13 : decode method_7_code 13 = .ok (.iconst 1, 1) := by decide +kernel
theorem d_L_take_14 : decode method_7_code 14 = .ok (.ireturn, 1) := by decide +kernel
theorem d_L_takeAll_0 : decode method_8_code 0 = .ok (.aload_n 1, 1) := by decide +kernel
theorem d_L_takeAll_1 : decode method_8_code 1 = .ok (.iconst 0, 1) := by decide +kernel
theorem d_L_takeAll_2 : decode method_8_code 2 = .ok (.aload_n 0, 1) := by decide +kernel
theorem d_L_takeAll_3 : decode method_8_code 3 = .ok (.invokevirtual 35, 3) := by decide +kernel
theorem d_L_takeAll_11 : decode method_8_code 11 = .ok (.astore_n 2, 1) := by decide +kernel
theorem d_L_takeAll_12 : decode method_8_code 12 = .ok (.iconst 1, 1) := by decide +kernel
theorem d_L_takeAll_13 : decode method_8_code 13 = .ok (.ireturn, 1) := by decide +kernel
theorem d_L_written_0 : decode method_11_code 0 = .ok (.aload_n 3, 1) := by decide +kernel
theorem d_L_written_1 : decode method_11_code 1 = .ok (.iconst 0, 1) := by decide +kernel
theorem d_L_written_2 : decode method_11_code 2 = .ok (.aload_n 0, 1) := by decide +kernel
theorem d_L_written_3 : decode method_11_code 3 = .ok (.iload_n 1, 1) := by decide +kernel
theorem d_L_written_4 : decode method_11_code 4 = .ok (.iload_n 2, 1) := by decide +kernel
theorem d_L_written_5 : decode method_11_code 5 = .ok (.invokevirtual 45, 3) := by decide +kernel
theorem d_L_written_13 : decode method_11_code 13 = .ok (.astore 4, 2) := by decide +kernel
theorem d_L_written_15 : decode method_11_code 15 = .ok (.iconst 1, 1) := by decide +kernel
theorem d_L_written_16 : decode method_11_code 16 = .ok (.ireturn, 1) := by decide +kernel
set_option maxHeartbeats 4000000 in
set_option maxRecDepth 100000 in
theorem c_L_feed (l : Launch) (D : va_G) (sz : Nat) (h0 : Nat) (qt : Nat) (qd : Nat) (qa : Nat) (qu : Nat) (qb : Nat) (qe : Nat) (cB : ClassId) (f : Nat → Int32) (cn : Int32) (op : Int32) (fp : Int32) (x1 : Int32) (x2 : Int32) (x3 : Int32) (x4 : Int32) (x5 : Int32) (qz : Nat) (cZ : ClassId) (g : Nat → Int64)  : Met l y_L_feed (Cond.codeWith y_L_feed method_3_code 8 (Option.some Jvm.ClassFile.FieldType.int) [((0 : Nat), (16 : Nat), (19 : Nat), (13 : Nat))] :: zt) { frames := 3, cells := 0, slots := 0, locals := 68 } (zPc [.ref h0, .int x1, .int x2, .int x3, .int x4, .int x5, .ref qz] D [(h0, .inr (0, [.ref qt, .ref qd, .ref qa, .ref qu])), (qt, .inr (1, [.ref qb, .int 0])), (qb, .inl (cB, 20000, .inl f)), (qd, .inr (2, [.ref qe, .int cn, .int op, .int fp, .ref qt])), (qz, .inl (cZ, 1, .inr (.inl g)))] [(cB, .byte), (cZ, .long)] sz (fun _ => True)) (va_Qi (fun (r : Int32) => fun (_ : Unit) => r = 0) (fun u t => zB D ((fun (_ : Unit) => [(qz, .inl (cZ, 1, .inr (.inl (vp_updL g (0 : Int32).toNatClampNeg (20 : Int32).toInt64))))]) u) ((fun (_ : Unit) => [(cZ, .long)]) u) (va_A [(h0, .inr (0, [.ref qt, .ref qd, .ref qa, .ref qu])), (qt, .inr (1, [.ref qb, .int 0])), (qb, .inl (cB, 20000, .inl f)), (qd, .inr (2, [.ref qe, .int cn, .int op, .int fp, .ref qt])), (qz, .inl (cZ, 1, .inr (.inl g)))] sz) t) (va_A [(h0, .inr (0, [.ref qt, .ref qd, .ref qa, .ref qu])), (qt, .inr (1, [.ref qb, .int 0])), (qb, .inl (cB, 20000, .inl f)), (qd, .inr (2, [.ref qe, .int cn, .int op, .int fp, .ref qt])), (qz, .inl (cZ, 1, .inr (.inl g)))] sz)) 0 0 (va_A [(h0, .inr (0, [.ref qt, .ref qd, .ref qa, .ref qu])), (qt, .inr (1, [.ref qb, .int 0])), (qb, .inl (cB, 20000, .inl f)), (qd, .inr (2, [.ref qe, .int cn, .int op, .int fp, .ref qt])), (qz, .inl (cZ, 1, .inr (.inl g)))] sz) :=
  zMetW (Qf := fun A => va_Qi (fun (r : Int32) => fun (_ : Unit) => r = 0) (fun u t => zB D ((fun (_ : Unit) => [(qz, .inl (cZ, 1, .inr (.inl (vp_updL g (0 : Int32).toNatClampNeg (20 : Int32).toInt64))))]) u) ((fun (_ : Unit) => [(cZ, .long)]) u) A t) A) (by decide) (Nat.le_of_ble_eq_true rfl) (fun p e s m below meth c A ls hx hb hr hml hown ht hlk hex hA hK hP hD hX hl => by
    have hS : va_S A s.heap s.heap [] := va_S.rf
    have hl : lv_has ls 8 [(0, .ref h0), (1, .int x1), (2, .int x2), (3, .int x3), (4, .int x4), (5, .int x5), (6, .ref qz)] := hl
    refine lv_aload hx hb d_L_feed_0 (lv_at hl 6 rfl) ?_
    refine lv_iconst (v := 0) hx hb d_L_feed_2 (by decide) ?_
    refine lv_aload_n hx hb d_L_feed_3 rfl (lv_at hl 0 rfl) ?_
    refine lv_iload_n hx hb d_L_feed_4 rfl (lv_at hl 1 rfl) ?_
    refine lv_iload_n hx hb d_L_feed_5 rfl (lv_at hl 2 rfl) ?_
    refine lv_iload_n hx hb d_L_feed_6 rfl (lv_at hl 3 rfl) ?_
    refine lv_iload hx hb d_L_feed_7 (lv_at hl 4 rfl) ?_
    refine lv_iload hx hb d_L_feed_9 (lv_at hl 5 rfl) ?_
    refine zji (wr := [(qz, .inl (cZ, 1, .inr (.inl g)))]) (va_runV (As := [.int x1, .int x2, .int x3, .int x4, .int x5]) (rest := [.int 0, .ref qz]) ⟨hx, hb, hml, hown, ht⟩ (c_G_feed l D _ h0 qt qd qa qu qb qe cB f 0 cn op fp x1 x2 x3 x4 x5 (by decide)) (cwV 5 ht (zt_goodV zm_516 zm_517 zm_518 zm_65 zm_519) rfl rfl rfl (by decide +kernel) ⟨Nat.le_of_ble_eq_true rfl, Nat.le_of_ble_eq_true rfl⟩) (zpreV zBlind_t hK hP hD [0, 1, 2, 3] [0] rfl (by decide) rfl (fun _ _ _ => trivial) (va_recv (q := ("ZipGuard", F_G, 4)) hK hP rfl (q0 := 0) (ci := 0) rfl)) rfl rfl hl.1 rfl (lv_room (Nat.le_of_ble_eq_true rfl)) d_L_feed_11 ⟨Nat.le_of_ble_eq_true rfl, Nat.le_of_ble_eq_true rfl⟩) hK hP hD hS hA [0, 1, 2, 3] [4] rfl rfl (by decide) (by decide) (fun r2 u H locs hp3 hP hD hK hS => ?_)
    obtain ⟨g1, rfl⟩ : ∃ z, z = u := ⟨u, rfl⟩
    dsimp only at hp3 hP hD hK
    have hP : va_P D zcl [(qz, .inl (cZ, 1, .inr (.inl g))), (h0, .inr (0, [.ref qt, .ref qd, .ref qa, .ref qu])), (qt, .inr (1, [.ref qb, .int (nI (0 + 20))])), (qb, .inl (cB, 20000, .inl g1)), (qd, .inr (2, [.ref qe, .int cn, .int 0, .int fp, .ref qt]))] H := hP
    have hD : va_D A [(qz, .inl (cZ, 1, .inr (.inl g))), (h0, .inr (0, [.ref qt, .ref qd, .ref qa, .ref qu])), (qt, .inr (1, [.ref qb, .int (nI (0 + 20))])), (qb, .inl (cB, 20000, .inl g1)), (qd, .inr (2, [.ref qe, .int cn, .int 0, .int fp, .ref qt]))] := hD
    have hK : va_K D zcl [(cB, .byte), (cZ, .long), (cB, .byte)] s := hK
    have hp3 : r2 = 20 := hp3.trans (by decide)
    subst hp3
    have hP := hP.sub (ws' := [(qz, .inl (cZ, 1, .inr (.inl g)))]) [0] rfl
    have hD := hD.sub (ws' := [(qz, .inl (cZ, 1, .inr (.inl g)))]) [0] (by decide) rfl
    have hK := hK.sub (tys' := [(cZ, .long)]) [1] rfl
    refine lv_i2l hx hb d_L_feed_14 rfl ?_
    refine va_last hx hb hK hP hD hS 0 0 rfl rfl (by unfold vp_in; decide) d_L_feed_15 (fun H locs hP hD hS => ?_)
    have hP : va_P D zcl [(qz, .inl (cZ, 1, .inr (.inl (vp_updL g (0 : Int32).toNatClampNeg ((20 : Int32).toInt64)))))] H := hP
    have hD : va_D A [(qz, .inl (cZ, 1, .inr (.inl (vp_updL g (0 : Int32).toNatClampNeg ((20 : Int32).toInt64)))))] := hD
    refine lv_goto (tgt := 23) hx hb d_L_feed_16 (by decide) ?_
    refine lv_iconst (v := 0) hx hb d_L_feed_23 (by decide) ?_
    exact zreti hx hb hr hlk hK hP hD hS () [0] [0] rfl (by decide) rfl (rfl) (Nat.le_of_ble_eq_true rfl) (Nat.le_of_ble_eq_true rfl) d_L_feed_24)
set_option maxHeartbeats 4000000 in
set_option maxRecDepth 100000 in
theorem c_L_end (l : Launch) (D : va_G) (sz : Nat) (h0 : Nat) (qt : Nat) (qd : Nat) (qa : Nat) (qu : Nat) (qb : Nat) (qe : Nat) (n0 : Int32) (cn : Int32) (op : Int32) (fp : Int32) (n : Int32) (ha : ¬ n < 0) (hb1 : n ≤ n0) : Met l y_L_end (Cond.codeWith y_L_end method_4_code 3 (Option.some Jvm.ClassFile.FieldType.int) [((0 : Nat), (5 : Nat), (8 : Nat), (19 : Nat))] :: zt) { frames := 2, cells := 0, slots := 0, locals := 42 } (zPc [.ref h0, .int n] D [(h0, .inr (0, [.ref qt, .ref qd, .ref qa, .ref qu])), (qt, .inr (1, [.ref qb, .int n0])), (qd, .inr (2, [.ref qe, .int cn, .int op, .int fp, .ref qt]))] [] sz (fun _ => True)) (va_Qi (fun (r : Int32) => fun (_ : Unit) => r = 0) (fun u t => zB D ((fun (_ : Unit) => []) u) ((fun (_ : Unit) => []) u) (va_A [(h0, .inr (0, [.ref qt, .ref qd, .ref qa, .ref qu])), (qt, .inr (1, [.ref qb, .int n0])), (qd, .inr (2, [.ref qe, .int cn, .int op, .int fp, .ref qt]))] sz) t) (va_A [(h0, .inr (0, [.ref qt, .ref qd, .ref qa, .ref qu])), (qt, .inr (1, [.ref qb, .int n0])), (qd, .inr (2, [.ref qe, .int cn, .int op, .int fp, .ref qt]))] sz)) 0 0 (va_A [(h0, .inr (0, [.ref qt, .ref qd, .ref qa, .ref qu])), (qt, .inr (1, [.ref qb, .int n0])), (qd, .inr (2, [.ref qe, .int cn, .int op, .int fp, .ref qt]))] sz) :=
  zMetW (Qf := fun A => va_Qi (fun (r : Int32) => fun (_ : Unit) => r = 0) (fun u t => zB D ((fun (_ : Unit) => []) u) ((fun (_ : Unit) => []) u) A t) A) (by decide) (Nat.le_of_ble_eq_true rfl) (fun p e s m below meth c A ls hx hb hr hml hown ht hlk hex hA hK hP hD hX hl => by
    have hS : va_S A s.heap s.heap [] := va_S.rf
    have hl : lv_has ls 3 [(0, .ref h0), (1, .int n)] := hl
    refine lv_aload_n hx hb d_L_end_0 rfl (lv_at hl 0 rfl) ?_
    refine lv_iload_n hx hb d_L_end_1 rfl (lv_at hl 1 rfl) ?_
    refine zjv (wr := []) (va_runV (As := [.int n]) (rest := []) ⟨hx, hb, hml, hown, ht⟩ (c_G_end l D _ h0 qt qd qa qu qb qe n0 cn op fp n ha hb1) (cwV 1 ht (zt_goodV zm_557 zm_558 zm_559 zm_65 zm_560) rfl rfl rfl (by decide +kernel) ⟨Nat.le_of_ble_eq_true rfl, Nat.le_of_ble_eq_true rfl⟩) (zpreV zBlind_t hK hP hD [0, 1, 2] [] rfl (by decide) rfl (fun _ _ _ => trivial) (va_recv (q := ("ZipGuard", F_G, 4)) hK hP rfl (q0 := 0) (ci := 0) rfl)) rfl rfl hl.1 rfl (lv_room (Nat.le_of_ble_eq_true rfl)) d_L_end_2 ⟨Nat.le_of_ble_eq_true rfl, Nat.le_of_ble_eq_true rfl⟩) hK hP hD hS hA [0, 1, 2] [] rfl rfl (by decide) (by decide) (fun u H locs hp2 hP hD hK hS => ?_)
    have hP : va_P D zcl [(h0, .inr (0, [.ref qt, .ref qd, .ref qa, .ref qu])), (qt, .inr (1, [.ref qb, .int n])), (qd, .inr (2, [.ref qe, .int cn, .int 0, .int fp, .ref qt]))] H := hP
    have hD : va_D A [(h0, .inr (0, [.ref qt, .ref qd, .ref qa, .ref qu])), (qt, .inr (1, [.ref qb, .int n])), (qd, .inr (2, [.ref qe, .int cn, .int 0, .int fp, .ref qt]))] := hD
    have hK : va_K D zcl [] s := hK
    refine lv_goto (tgt := 11) hx hb d_L_end_5 (by decide) ?_
    refine lv_iconst (v := 0) hx hb d_L_end_11 (by decide) ?_
    exact zreti hx hb hr hlk hK hP hD hS () [] [] rfl (by decide) rfl (rfl) (Nat.le_of_ble_eq_true rfl) (Nat.le_of_ble_eq_true rfl) d_L_end_12)
set_option maxHeartbeats 4000000 in
set_option maxRecDepth 100000 in
theorem c_L_endX (l : Launch) (D : va_G) (sz : Nat) (h0 : Nat) (qt : Nat) (qd : Nat) (qa : Nat) (qu : Nat) (qb : Nat) (qe : Nat) (n0 : Int32) (cn : Int32) (op : Int32) (fp : Int32) (n : Int32) (hl9 : l.stackTraces = false) (hbad : n < 0 ∨ ¬ n ≤ n0) : Met l y_L_end (Cond.codeWith y_L_end method_4_code 3 (Option.some Jvm.ClassFile.FieldType.int) [((0 : Nat), (5 : Nat), (8 : Nat), (19 : Nat))] :: zt) { frames := 7, cells := 1, slots := 6, locals := 111 } (zPc [.ref h0, .int n] D [(h0, .inr (0, [.ref qt, .ref qd, .ref qa, .ref qu])), (qt, .inr (1, [.ref qb, .int n0])), (qd, .inr (2, [.ref qe, .int cn, .int op, .int fp, .ref qt]))] [] sz (zG)) (va_Qi (fun (r : Int32) => fun (_ : Unit) => r = 1) (fun u t => zB D ((fun (_ : Unit) => []) u) ((fun (_ : Unit) => []) u) (va_A [(h0, .inr (0, [.ref qt, .ref qd, .ref qa, .ref qu])), (qt, .inr (1, [.ref qb, .int n0])), (qd, .inr (2, [.ref qe, .int cn, .int op, .int fp, .ref qt]))] sz) t) (va_A [(h0, .inr (0, [.ref qt, .ref qd, .ref qa, .ref qu])), (qt, .inr (1, [.ref qb, .int n0])), (qd, .inr (2, [.ref qe, .int cn, .int op, .int fp, .ref qt]))] sz)) 1 6 (va_A [(h0, .inr (0, [.ref qt, .ref qd, .ref qa, .ref qu])), (qt, .inr (1, [.ref qb, .int n0])), (qd, .inr (2, [.ref qe, .int cn, .int op, .int fp, .ref qt]))] sz) :=
  zMetW (Qf := fun A => va_Qi (fun (r : Int32) => fun (_ : Unit) => r = 1) (fun u t => zB D ((fun (_ : Unit) => []) u) ((fun (_ : Unit) => []) u) A t) A) (by decide) (Nat.le_of_ble_eq_true rfl) (fun p e s m below meth c A ls hx hb hr hml hown ht hlk hex hA hK hP hD hX hl => by
    have hS : va_S A s.heap s.heap [] := va_S.rf
    have hl : lv_has ls 3 [(0, .ref h0), (1, .int n)] := hl
    refine lv_aload_n hx hb d_L_end_0 rfl (lv_at hl 0 rfl) ?_
    refine lv_iload_n hx hb d_L_end_1 rfl (lv_at hl 1 rfl) ?_
    obtain ⟨x9, suf9, hsp9, e91, e92, e93, e94⟩ := zexc hex
    refine zcallVT (As := [.int n]) (rest := []) ⟨hx, hb, hml, hown, ht⟩ (c_G_endX l D _ h0 qt qd qa qu qb qe n0 cn op fp n hl9 hbad) (cwV 1 ht (zt_goodV zm_557 zm_558 zm_559 zm_65 zm_560) rfl rfl rfl (by decide +kernel) ⟨Nat.le_of_ble_eq_true rfl, Nat.le_of_ble_eq_true rfl⟩) (zpreV zBlind_G hK hP hD [0, 1, 2] [] rfl (by decide) rfl (fun U hU hW => zBlind_G s U hW.alike hU hX) (va_recv (q := ("ZipGuard", F_G, 4)) hK hP rfl (q0 := 0) (ci := 0) rfl)) rfl hl.1 (lv_room (Nat.le_of_ble_eq_true rfl)) d_L_end_2 ⟨Nat.le_of_ble_eq_true rfl, Nat.le_of_ble_eq_true rfl⟩ (fun q9 ce9 H9 z1 z2 z3 z4 z5 => ?_)
    refine zcatch hown x9 suf9 hsp9 (by simp [covers, e91, e92]) (by rw [e94]; decide) (by rw [e94]; exact ht _ zm_556) ((hX _).1 _ (by simp [zbadC])) z3 z4 z5 ?_
    rw [e93]
    have hP := hP.kept (H1 := H9) (fun k q hk => z2 _ ((hP k q hk).lt))
    have hS : va_S A s.heap H9 [] := ⟨Nat.le_trans hS.1 z1, fun q h1 h2 => (z2 q (Nat.lt_of_lt_of_le h1 hS.1)).trans (hS.2.1 q h1 h2), hS.2.2⟩
    refine lv_astore_n (lv' := [(2, .ref q9), (0, .ref h0), (1, .int n)]) hx hb d_L_end_8 rfl hl (by decide) rfl (fun ls hl => ?_)
    refine lv_iconst (v := 1) hx hb d_L_end_9 (by decide) ?_
    exact zreti hx hb hr hlk hK hP hD hS () [] [] rfl (by decide) rfl (rfl) (Nat.le_of_ble_eq_true rfl) (Nat.le_of_ble_eq_true rfl) d_L_end_10)
set_option maxHeartbeats 4000000 in
set_option maxRecDepth 100000 in
theorem c_L_altX (l : Launch) (D : va_G) (sz : Nat) (h0 : Nat) (qt : Nat) (qd : Nat) (qa : Nat) (qu : Nat) (qb : Nat) (n0 : Int32) (n : Int32) (y : Int32) (qz : Nat) (cZ : ClassId) (g : Nat → Int64) (hl9 : l.stackTraces = false) (hbad : n < 0 ∨ ¬ n < n0) : Met l y_L_alter (Cond.codeWith y_L_alter method_5_code 5 (Option.some Jvm.ClassFile.FieldType.int) [((0 : Nat), (10 : Nat), (13 : Nat), (25 : Nat))] :: zt) { frames := 7, cells := 1, slots := 6, locals := 112 } (zPc [.ref h0, .int n, .int y, .ref qz] D [(h0, .inr (0, [.ref qt, .ref qd, .ref qa, .ref qu])), (qt, .inr (1, [.ref qb, .int n0])), (qz, .inl (cZ, 1, .inr (.inl g)))] [(cZ, .long)] sz (zG)) (va_Qi (fun (r : Int32) => fun (_ : Unit) => r = 1) (fun u t => zB D ((fun (_ : Unit) => [(qz, .inl (cZ, 1, .inr (.inl g)))]) u) ((fun (_ : Unit) => [(cZ, .long)]) u) (va_A [(h0, .inr (0, [.ref qt, .ref qd, .ref qa, .ref qu])), (qt, .inr (1, [.ref qb, .int n0])), (qz, .inl (cZ, 1, .inr (.inl g)))] sz) t) (va_A [(h0, .inr (0, [.ref qt, .ref qd, .ref qa, .ref qu])), (qt, .inr (1, [.ref qb, .int n0])), (qz, .inl (cZ, 1, .inr (.inl g)))] sz)) 1 6 (va_A [(h0, .inr (0, [.ref qt, .ref qd, .ref qa, .ref qu])), (qt, .inr (1, [.ref qb, .int n0])), (qz, .inl (cZ, 1, .inr (.inl g)))] sz) :=
  zMetW (Qf := fun A => va_Qi (fun (r : Int32) => fun (_ : Unit) => r = 1) (fun u t => zB D ((fun (_ : Unit) => [(qz, .inl (cZ, 1, .inr (.inl g)))]) u) ((fun (_ : Unit) => [(cZ, .long)]) u) A t) A) (by decide) (Nat.le_of_ble_eq_true rfl) (fun p e s m below meth c A ls hx hb hr hml hown ht hlk hex hA hK hP hD hX hl => by
    have hS : va_S A s.heap s.heap [] := va_S.rf
    have hl : lv_has ls 5 [(0, .ref h0), (1, .int n), (2, .int y), (3, .ref qz)] := hl
    refine lv_aload_n hx hb d_L_alter_0 rfl (lv_at hl 3 rfl) ?_
    refine lv_iconst (v := 0) hx hb d_L_alter_1 (by decide) ?_
    refine lv_aload_n hx hb d_L_alter_2 rfl (lv_at hl 0 rfl) ?_
    refine lv_iload_n hx hb d_L_alter_3 rfl (lv_at hl 1 rfl) ?_
    refine lv_iload_n hx hb d_L_alter_4 rfl (lv_at hl 2 rfl) ?_
    obtain ⟨x9, suf9, hsp9, e91, e92, e93, e94⟩ := zexc hex
    refine zcallVT (As := [.int n, .int y]) (rest := [.int 0, .ref qz]) ⟨hx, hb, hml, hown, ht⟩ (c_G_alterX l D _ h0 qt qd qa qu qb n0 n y hl9 hbad) (cwV 2 ht (zt_goodV zm_574 zm_575 zm_576 zm_65 zm_577) rfl rfl rfl (by decide +kernel) ⟨Nat.le_of_ble_eq_true rfl, Nat.le_of_ble_eq_true rfl⟩) (zpreV zBlind_G hK hP hD [0, 1] [] rfl (by decide) rfl (fun U hU hW => zBlind_G s U hW.alike hU hX) (va_recv (q := ("ZipGuard", F_G, 4)) hK hP rfl (q0 := 0) (ci := 0) rfl)) rfl hl.1 (lv_room (Nat.le_of_ble_eq_true rfl)) d_L_alter_5 ⟨Nat.le_of_ble_eq_true rfl, Nat.le_of_ble_eq_true rfl⟩ (fun q9 ce9 H9 z1 z2 z3 z4 z5 => ?_)
    refine zcatch hown x9 suf9 hsp9 (by simp [covers, e91, e92]) (by rw [e94]; decide) (by rw [e94]; exact ht _ zm_573) ((hX _).1 _ (by simp [zbadC])) z3 z4 z5 ?_
    rw [e93]
    have hP := hP.kept (H1 := H9) (fun k q hk => z2 _ ((hP k q hk).lt))
    have hS : va_S A s.heap H9 [] := ⟨Nat.le_trans hS.1 z1, fun q h1 h2 => (z2 q (Nat.lt_of_lt_of_le h1 hS.1)).trans (hS.2.1 q h1 h2), hS.2.2⟩
    refine lv_astore (lv' := [(4, .ref q9), (0, .ref h0), (1, .int n), (2, .int y), (3, .ref qz)]) hx hb d_L_alter_13 hl (by decide) rfl (fun ls hl => ?_)
    refine lv_iconst (v := 1) hx hb d_L_alter_15 (by decide) ?_
    exact zreti hx hb hr hlk hK hP hD hS () [2] [0] rfl (by decide) rfl (rfl) (Nat.le_of_ble_eq_true rfl) (Nat.le_of_ble_eq_true rfl) d_L_alter_16)
set_option maxHeartbeats 4000000 in
set_option maxRecDepth 100000 in
theorem c_L_lim (l : Launch) (D : va_G) (sz : Nat) (h0 : Nat) (qt : Nat) (qd : Nat) (qa : Nat) (qu : Nat) (qo : Nat) (bu : Int32) (ra : Int32) (to : Int32) (rs : Int32) (x : Int32) (y : Int32) (h1 : ¬ x < 0) (h2 : ¬ 40000 < x) (h3 : ¬ y < 0) (h4 : y ≤ 2000) : Met l y_L_limits (Cond.codeWith y_L_limits method_6_code 4 (Option.some Jvm.ClassFile.FieldType.int) [((0 : Nat), (6 : Nat), (9 : Nat), (19 : Nat))] :: zt) { frames := 1, cells := 0, slots := 0, locals := 22 } (zPc [.ref h0, .int x, .int y] D [(h0, .inr (0, [.ref qt, .ref qd, .ref qa, .ref qu])), (qa, .inr (3, [.int bu, .int ra, .int to, .ref qo, .int rs]))] [] sz (fun _ => True)) (va_Qi (fun (r : Int32) => fun (_ : Unit) => r = 0) (fun u t => zB D ((fun (_ : Unit) => []) u) ((fun (_ : Unit) => []) u) (va_A [(h0, .inr (0, [.ref qt, .ref qd, .ref qa, .ref qu])), (qa, .inr (3, [.int bu, .int ra, .int to, .ref qo, .int rs]))] sz) t) (va_A [(h0, .inr (0, [.ref qt, .ref qd, .ref qa, .ref qu])), (qa, .inr (3, [.int bu, .int ra, .int to, .ref qo, .int rs]))] sz)) 0 0 (va_A [(h0, .inr (0, [.ref qt, .ref qd, .ref qa, .ref qu])), (qa, .inr (3, [.int bu, .int ra, .int to, .ref qo, .int rs]))] sz) :=
  zMetW (Qf := fun A => va_Qi (fun (r : Int32) => fun (_ : Unit) => r = 0) (fun u t => zB D ((fun (_ : Unit) => []) u) ((fun (_ : Unit) => []) u) A t) A) (by decide) (Nat.le_of_ble_eq_true rfl) (fun p e s m below meth c A ls hx hb hr hml hown ht hlk hex hA hK hP hD hX hl => by
    have hS : va_S A s.heap s.heap [] := va_S.rf
    have hl : lv_has ls 4 [(0, .ref h0), (1, .int x), (2, .int y)] := hl
    refine lv_aload_n hx hb d_L_limits_0 rfl (lv_at hl 0 rfl) ?_
    refine lv_iload_n hx hb d_L_limits_1 rfl (lv_at hl 1 rfl) ?_
    refine lv_iload_n hx hb d_L_limits_2 rfl (lv_at hl 2 rfl) ?_
    refine zjv (wr := []) (va_runV (As := [.int x, .int y]) (rest := []) ⟨hx, hb, hml, hown, ht⟩ (c_G_lim l D _ h0 qt qd qa qu qo bu ra to rs x y h1 h2 h3 h4) (cwV 2 ht (zt_goodV zm_599 zm_600 zm_601 zm_65 zm_602) rfl rfl rfl (by decide +kernel) ⟨Nat.le_of_ble_eq_true rfl, Nat.le_of_ble_eq_true rfl⟩) (zpreV zBlind_t hK hP hD [0, 1] [] rfl (by decide) rfl (fun _ _ _ => trivial) (va_recv (q := ("ZipGuard", F_G, 4)) hK hP rfl (q0 := 0) (ci := 0) rfl)) rfl rfl hl.1 rfl (lv_room (Nat.le_of_ble_eq_true rfl)) d_L_limits_3 ⟨Nat.le_of_ble_eq_true rfl, Nat.le_of_ble_eq_true rfl⟩) hK hP hD hS hA [0, 1] [] rfl rfl (by decide) (by decide) (fun u H locs hp2 hP hD hK hS => ?_)
    have hP : va_P D zcl [(h0, .inr (0, [.ref qt, .ref qd, .ref qa, .ref qu])), (qa, .inr (3, [.int x, .int y, .int to, .ref qo, .int rs]))] H := hP
    have hD : va_D A [(h0, .inr (0, [.ref qt, .ref qd, .ref qa, .ref qu])), (qa, .inr (3, [.int x, .int y, .int to, .ref qo, .int rs]))] := hD
    have hK : va_K D zcl [] s := hK
    refine lv_goto (tgt := 12) hx hb d_L_limits_6 (by decide) ?_
    refine lv_iconst (v := 0) hx hb d_L_limits_12 (by decide) ?_
    exact zreti hx hb hr hlk hK hP hD hS () [] [] rfl (by decide) rfl (rfl) (Nat.le_of_ble_eq_true rfl) (Nat.le_of_ble_eq_true rfl) d_L_limits_13)
set_option maxHeartbeats 4000000 in
set_option maxRecDepth 100000 in
theorem c_L_limX (l : Launch) (D : va_G) (sz : Nat) (h0 : Nat) (qt : Nat) (qd : Nat) (qa : Nat) (qu : Nat) (qo : Nat) (bu : Int32) (ra : Int32) (to : Int32) (rs : Int32) (x : Int32) (y : Int32) (hl9 : l.stackTraces = false) (hbad : x < 0 ∨ 40000 < x ∨ y < 0 ∨ ¬ y ≤ 2000) : Met l y_L_limits (Cond.codeWith y_L_limits method_6_code 4 (Option.some Jvm.ClassFile.FieldType.int) [((0 : Nat), (6 : Nat), (9 : Nat), (19 : Nat))] :: zt) { frames := 7, cells := 1, slots := 6, locals := 112 } (zPc [.ref h0, .int x, .int y] D [(h0, .inr (0, [.ref qt, .ref qd, .ref qa, .ref qu])), (qa, .inr (3, [.int bu, .int ra, .int to, .ref qo, .int rs]))] [] sz (zG)) (va_Qi (fun (r : Int32) => fun (_ : Unit) => r = 1) (fun u t => zB D ((fun (_ : Unit) => []) u) ((fun (_ : Unit) => []) u) (va_A [(h0, .inr (0, [.ref qt, .ref qd, .ref qa, .ref qu])), (qa, .inr (3, [.int bu, .int ra, .int to, .ref qo, .int rs]))] sz) t) (va_A [(h0, .inr (0, [.ref qt, .ref qd, .ref qa, .ref qu])), (qa, .inr (3, [.int bu, .int ra, .int to, .ref qo, .int rs]))] sz)) 1 6 (va_A [(h0, .inr (0, [.ref qt, .ref qd, .ref qa, .ref qu])), (qa, .inr (3, [.int bu, .int ra, .int to, .ref qo, .int rs]))] sz) :=
  zMetW (Qf := fun A => va_Qi (fun (r : Int32) => fun (_ : Unit) => r = 1) (fun u t => zB D ((fun (_ : Unit) => []) u) ((fun (_ : Unit) => []) u) A t) A) (by decide) (Nat.le_of_ble_eq_true rfl) (fun p e s m below meth c A ls hx hb hr hml hown ht hlk hex hA hK hP hD hX hl => by
    have hS : va_S A s.heap s.heap [] := va_S.rf
    have hl : lv_has ls 4 [(0, .ref h0), (1, .int x), (2, .int y)] := hl
    refine lv_aload_n hx hb d_L_limits_0 rfl (lv_at hl 0 rfl) ?_
    refine lv_iload_n hx hb d_L_limits_1 rfl (lv_at hl 1 rfl) ?_
    refine lv_iload_n hx hb d_L_limits_2 rfl (lv_at hl 2 rfl) ?_
    obtain ⟨x9, suf9, hsp9, e91, e92, e93, e94⟩ := zexc hex
    refine zcallVT (As := [.int x, .int y]) (rest := []) ⟨hx, hb, hml, hown, ht⟩ (c_G_limX l D _ h0 qt qd qa qu qo bu ra to rs x y hl9 hbad) (cwV 2 ht (zt_goodV zm_599 zm_600 zm_601 zm_65 zm_602) rfl rfl rfl (by decide +kernel) ⟨Nat.le_of_ble_eq_true rfl, Nat.le_of_ble_eq_true rfl⟩) (zpreV zBlind_G hK hP hD [0, 1] [] rfl (by decide) rfl (fun U hU hW => zBlind_G s U hW.alike hU hX) (va_recv (q := ("ZipGuard", F_G, 4)) hK hP rfl (q0 := 0) (ci := 0) rfl)) rfl hl.1 (lv_room (Nat.le_of_ble_eq_true rfl)) d_L_limits_3 ⟨Nat.le_of_ble_eq_true rfl, Nat.le_of_ble_eq_true rfl⟩ (fun q9 ce9 H9 z1 z2 z3 z4 z5 => ?_)
    refine zcatch hown x9 suf9 hsp9 (by simp [covers, e91, e92]) (by rw [e94]; decide) (by rw [e94]; exact ht _ zm_556) ((hX _).1 _ (by simp [zbadC])) z3 z4 z5 ?_
    rw [e93]
    have hP := hP.kept (H1 := H9) (fun k q hk => z2 _ ((hP k q hk).lt))
    have hS : va_S A s.heap H9 [] := ⟨Nat.le_trans hS.1 z1, fun q h1 h2 => (z2 q (Nat.lt_of_lt_of_le h1 hS.1)).trans (hS.2.1 q h1 h2), hS.2.2⟩
    refine lv_astore_n (lv' := [(3, .ref q9), (0, .ref h0), (1, .int x), (2, .int y)]) hx hb d_L_limits_9 rfl hl (by decide) rfl (fun ls hl => ?_)
    refine lv_iconst (v := 1) hx hb d_L_limits_10 (by decide) ?_
    exact zreti hx hb hr hlk hK hP hD hS () [] [] rfl (by decide) rfl (rfl) (Nat.le_of_ble_eq_true rfl) (Nat.le_of_ble_eq_true rfl) d_L_limits_11)
set_option maxHeartbeats 4000000 in
set_option maxRecDepth 100000 in
theorem c_L_takeX (l : Launch) (D : va_G) (sz : Nat) (h0 : Nat) (qt : Nat) (qd : Nat) (qa : Nat) (qu : Nat) (qe : Nat) (cn : Int32) (fp : Int32) (n : Int32) (qz : Nat) (cZ : ClassId) (g : Nat → Int64) (hl9 : l.stackTraces = false) : Met l y_L_take (Cond.codeWith y_L_take method_7_code 4 (Option.some Jvm.ClassFile.FieldType.int) [((0 : Nat), (9 : Nat), (12 : Nat), (13 : Nat)), ((0 : Nat), (9 : Nat), (15 : Nat), (25 : Nat))] :: zt) { frames := 8, cells := 1, slots := 6, locals := 132 } (zPc [.ref h0, .int n, .ref qz] D [(h0, .inr (0, [.ref qt, .ref qd, .ref qa, .ref qu])), (qd, .inr (2, [.ref qe, .int cn, .int 0, .int fp, .ref qt])), (qz, .inl (cZ, 1, .inr (.inl g)))] [(cZ, .long)] sz (zG)) (va_Qi (fun (r : Int32) => fun (_ : Unit) => r = 1) (fun u t => zB D ((fun (_ : Unit) => [(qz, .inl (cZ, 1, .inr (.inl g)))]) u) ((fun (_ : Unit) => [(cZ, .long)]) u) (va_A [(h0, .inr (0, [.ref qt, .ref qd, .ref qa, .ref qu])), (qd, .inr (2, [.ref qe, .int cn, .int 0, .int fp, .ref qt])), (qz, .inl (cZ, 1, .inr (.inl g)))] sz) t) (va_A [(h0, .inr (0, [.ref qt, .ref qd, .ref qa, .ref qu])), (qd, .inr (2, [.ref qe, .int cn, .int 0, .int fp, .ref qt])), (qz, .inl (cZ, 1, .inr (.inl g)))] sz)) 1 6 (va_A [(h0, .inr (0, [.ref qt, .ref qd, .ref qa, .ref qu])), (qd, .inr (2, [.ref qe, .int cn, .int 0, .int fp, .ref qt])), (qz, .inl (cZ, 1, .inr (.inl g)))] sz) :=
  zMetW (Qf := fun A => va_Qi (fun (r : Int32) => fun (_ : Unit) => r = 1) (fun u t => zB D ((fun (_ : Unit) => [(qz, .inl (cZ, 1, .inr (.inl g)))]) u) ((fun (_ : Unit) => [(cZ, .long)]) u) A t) A) (by decide) (Nat.le_of_ble_eq_true rfl) (fun p e s m below meth c A ls hx hb hr hml hown ht hlk hex hA hK hP hD hX hl => by
    have hS : va_S A s.heap s.heap [] := va_S.rf
    have hl : lv_has ls 4 [(0, .ref h0), (1, .int n), (2, .ref qz)] := hl
    refine lv_aload_n hx hb d_L_take_0 rfl (lv_at hl 2 rfl) ?_
    refine lv_iconst (v := 0) hx hb d_L_take_1 (by decide) ?_
    refine lv_aload_n hx hb d_L_take_2 rfl (lv_at hl 0 rfl) ?_
    refine lv_iload_n hx hb d_L_take_3 rfl (lv_at hl 1 rfl) ?_
    obtain ⟨x9, suf9, hsp9, e91, e92, e93, e94⟩ := zexc hex
    refine zcallVT (As := [.int n]) (rest := [.int 0, .ref qz]) ⟨hx, hb, hml, hown, ht⟩ (c_G_takeX l D _ h0 qt qd qa qu qe cn fp n hl9) (cwV 1 ht (zt_goodV zm_607 zm_608 zm_609 zm_65 zm_610) rfl rfl rfl (by decide +kernel) ⟨Nat.le_of_ble_eq_true rfl, Nat.le_of_ble_eq_true rfl⟩) (zpreV zBlind_G hK hP hD [0, 1] [] rfl (by decide) rfl (fun U hU hW => zBlind_G s U hW.alike hU hX) (va_recv (q := ("ZipGuard", F_G, 4)) hK hP rfl (q0 := 0) (ci := 0) rfl)) rfl hl.1 (lv_room (Nat.le_of_ble_eq_true rfl)) d_L_take_4 ⟨Nat.le_of_ble_eq_true rfl, Nat.le_of_ble_eq_true rfl⟩ (fun q9 ce9 H9 z1 z2 z3 z4 z5 => ?_)
    refine zcatch hown x9 suf9 hsp9 (by simp [covers, e91, e92]) (by rw [e94]; decide) (by rw [e94]; exact ht _ zm_515) ((hX _).1 _ (by simp [zbadC])) z3 z4 z5 ?_
    rw [e93]
    have hP := hP.kept (H1 := H9) (fun k q hk => z2 _ ((hP k q hk).lt))
    have hS : va_S A s.heap H9 [] := ⟨Nat.le_trans hS.1 z1, fun q h1 h2 => (z2 q (Nat.lt_of_lt_of_le h1 hS.1)).trans (hS.2.1 q h1 h2), hS.2.2⟩
    refine lv_astore_n (lv' := [(3, .ref q9), (0, .ref h0), (1, .int n), (2, .ref qz)]) hx hb d_L_take_12 rfl hl (by decide) rfl (fun ls hl => ?_)
    refine lv_iconst (v := 1) hx hb d_L_take_13 (by decide) ?_
    exact zreti hx hb hr hlk hK hP hD hS () [2] [0] rfl (by decide) rfl (rfl) (Nat.le_of_ble_eq_true rfl) (Nat.le_of_ble_eq_true rfl) d_L_take_14)
set_option maxHeartbeats 4000000 in
set_option maxRecDepth 100000 in
theorem c_L_taX (l : Launch) (D : va_G) (sz : Nat) (h0 : Nat) (qt : Nat) (qd : Nat) (qa : Nat) (qu : Nat) (qe : Nat) (cn : Int32) (fp : Int32) (qz : Nat) (cZ : ClassId) (g : Nat → Int64) (hl9 : l.stackTraces = false) : Met l y_L_takeAll (Cond.codeWith y_L_takeAll method_8_code 3 (Option.some Jvm.ClassFile.FieldType.int) [((0 : Nat), (8 : Nat), (11 : Nat), (13 : Nat))] :: zt) { frames := 7, cells := 1, slots := 6, locals := 111 } (zPc [.ref h0, .ref qz] D [(h0, .inr (0, [.ref qt, .ref qd, .ref qa, .ref qu])), (qd, .inr (2, [.ref qe, .int cn, .int 0, .int fp, .ref qt])), (qz, .inl (cZ, 1, .inr (.inl g)))] [(cZ, .long)] sz (zG)) (va_Qi (fun (r : Int32) => fun (_ : Unit) => r = 1) (fun u t => zB D ((fun (_ : Unit) => [(qz, .inl (cZ, 1, .inr (.inl g)))]) u) ((fun (_ : Unit) => [(cZ, .long)]) u) (va_A [(h0, .inr (0, [.ref qt, .ref qd, .ref qa, .ref qu])), (qd, .inr (2, [.ref qe, .int cn, .int 0, .int fp, .ref qt])), (qz, .inl (cZ, 1, .inr (.inl g)))] sz) t) (va_A [(h0, .inr (0, [.ref qt, .ref qd, .ref qa, .ref qu])), (qd, .inr (2, [.ref qe, .int cn, .int 0, .int fp, .ref qt])), (qz, .inl (cZ, 1, .inr (.inl g)))] sz)) 1 6 (va_A [(h0, .inr (0, [.ref qt, .ref qd, .ref qa, .ref qu])), (qd, .inr (2, [.ref qe, .int cn, .int 0, .int fp, .ref qt])), (qz, .inl (cZ, 1, .inr (.inl g)))] sz) :=
  zMetW (Qf := fun A => va_Qi (fun (r : Int32) => fun (_ : Unit) => r = 1) (fun u t => zB D ((fun (_ : Unit) => [(qz, .inl (cZ, 1, .inr (.inl g)))]) u) ((fun (_ : Unit) => [(cZ, .long)]) u) A t) A) (by decide) (Nat.le_of_ble_eq_true rfl) (fun p e s m below meth c A ls hx hb hr hml hown ht hlk hex hA hK hP hD hX hl => by
    have hS : va_S A s.heap s.heap [] := va_S.rf
    have hl : lv_has ls 3 [(0, .ref h0), (1, .ref qz)] := hl
    refine lv_aload_n hx hb d_L_takeAll_0 rfl (lv_at hl 1 rfl) ?_
    refine lv_iconst (v := 0) hx hb d_L_takeAll_1 (by decide) ?_
    refine lv_aload_n hx hb d_L_takeAll_2 rfl (lv_at hl 0 rfl) ?_
    obtain ⟨x9, suf9, hsp9, e91, e92, e93, e94⟩ := zexc hex
    refine zcallVT (As := []) (rest := [.int 0, .ref qz]) ⟨hx, hb, hml, hown, ht⟩ (c_G_taX l D _ h0 qt qd qa qu qe cn fp hl9) (cwV 0 ht (zt_goodV zm_712 zm_713 zm_714 zm_65 zm_715) rfl rfl rfl (by decide +kernel) ⟨Nat.le_of_ble_eq_true rfl, Nat.le_of_ble_eq_true rfl⟩) (zpreV zBlind_G hK hP hD [0, 1] [] rfl (by decide) rfl (fun U hU hW => zBlind_G s U hW.alike hU hX) (va_recv (q := ("ZipGuard", F_G, 4)) hK hP rfl (q0 := 0) (ci := 0) rfl)) rfl hl.1 (lv_room (Nat.le_of_ble_eq_true rfl)) d_L_takeAll_3 ⟨Nat.le_of_ble_eq_true rfl, Nat.le_of_ble_eq_true rfl⟩ (fun q9 ce9 H9 z1 z2 z3 z4 z5 => ?_)
    refine zcatch hown x9 suf9 hsp9 (by simp [covers, e91, e92]) (by rw [e94]; decide) (by rw [e94]; exact ht _ zm_515) ((hX _).1 _ (by simp [zbadC])) z3 z4 z5 ?_
    rw [e93]
    have hP := hP.kept (H1 := H9) (fun k q hk => z2 _ ((hP k q hk).lt))
    have hS : va_S A s.heap H9 [] := ⟨Nat.le_trans hS.1 z1, fun q h1 h2 => (z2 q (Nat.lt_of_lt_of_le h1 hS.1)).trans (hS.2.1 q h1 h2), hS.2.2⟩
    refine lv_astore_n (lv' := [(2, .ref q9), (0, .ref h0), (1, .ref qz)]) hx hb d_L_takeAll_11 rfl hl (by decide) rfl (fun ls hl => ?_)
    refine lv_iconst (v := 1) hx hb d_L_takeAll_12 (by decide) ?_
    exact zreti hx hb hr hlk hK hP hD hS () [2] [0] rfl (by decide) rfl (rfl) (Nat.le_of_ble_eq_true rfl) (Nat.le_of_ble_eq_true rfl) d_L_takeAll_13)
set_option maxHeartbeats 4000000 in
set_option maxRecDepth 100000 in
theorem c_L_entX (l : Launch) (D : va_G) (sz : Nat) (h0 : Nat) (qt : Nat) (qd : Nat) (qa : Nat) (qu : Nat) (qe : Nat) (cn : Int32) (fp : Int32) (n : Int32) (y : Int32) (qz : Nat) (cZ : ClassId) (g : Nat → Int64) (hl9 : l.stackTraces = false) : Met l y_L_entry (Cond.codeWith y_L_entry method_9_code 5 (Option.some Jvm.ClassFile.FieldType.int) [((0 : Nat), (10 : Nat), (13 : Nat), (13 : Nat)), ((0 : Nat), (10 : Nat), (17 : Nat), (25 : Nat)), ((0 : Nat), (10 : Nat), (21 : Nat), (19 : Nat))] :: zt) { frames := 8, cells := 1, slots := 6, locals := 134 } (zPc [.ref h0, .int n, .int y, .ref qz] D [(h0, .inr (0, [.ref qt, .ref qd, .ref qa, .ref qu])), (qd, .inr (2, [.ref qe, .int cn, .int 0, .int fp, .ref qt])), (qz, .inl (cZ, 1, .inr (.inl g)))] [(cZ, .long)] sz (zG)) (va_Qi (fun (r : Int32) => fun (_ : Unit) => r = 1) (fun u t => zB D ((fun (_ : Unit) => [(qz, .inl (cZ, 1, .inr (.inl g)))]) u) ((fun (_ : Unit) => [(cZ, .long)]) u) (va_A [(h0, .inr (0, [.ref qt, .ref qd, .ref qa, .ref qu])), (qd, .inr (2, [.ref qe, .int cn, .int 0, .int fp, .ref qt])), (qz, .inl (cZ, 1, .inr (.inl g)))] sz) t) (va_A [(h0, .inr (0, [.ref qt, .ref qd, .ref qa, .ref qu])), (qd, .inr (2, [.ref qe, .int cn, .int 0, .int fp, .ref qt])), (qz, .inl (cZ, 1, .inr (.inl g)))] sz)) 1 6 (va_A [(h0, .inr (0, [.ref qt, .ref qd, .ref qa, .ref qu])), (qd, .inr (2, [.ref qe, .int cn, .int 0, .int fp, .ref qt])), (qz, .inl (cZ, 1, .inr (.inl g)))] sz) :=
  zMetW (Qf := fun A => va_Qi (fun (r : Int32) => fun (_ : Unit) => r = 1) (fun u t => zB D ((fun (_ : Unit) => [(qz, .inl (cZ, 1, .inr (.inl g)))]) u) ((fun (_ : Unit) => [(cZ, .long)]) u) A t) A) (by decide) (Nat.le_of_ble_eq_true rfl) (fun p e s m below meth c A ls hx hb hr hml hown ht hlk hex hA hK hP hD hX hl => by
    have hS : va_S A s.heap s.heap [] := va_S.rf
    have hl : lv_has ls 5 [(0, .ref h0), (1, .int n), (2, .int y), (3, .ref qz)] := hl
    refine lv_aload_n hx hb d_L_entry_0 rfl (lv_at hl 3 rfl) ?_
    refine lv_iconst (v := 0) hx hb d_L_entry_1 (by decide) ?_
    refine lv_aload_n hx hb d_L_entry_2 rfl (lv_at hl 0 rfl) ?_
    refine lv_iload_n hx hb d_L_entry_3 rfl (lv_at hl 1 rfl) ?_
    refine lv_iload_n hx hb d_L_entry_4 rfl (lv_at hl 2 rfl) ?_
    obtain ⟨x9, suf9, hsp9, e91, e92, e93, e94⟩ := zexc hex
    refine zcallVT (As := [.int n, .int y]) (rest := [.int 0, .ref qz]) ⟨hx, hb, hml, hown, ht⟩ (c_G_entX l D _ h0 qt qd qa qu qe cn fp n y hl9) (cwV 2 ht (zt_goodV zm_719 zm_720 zm_721 zm_65 zm_722) rfl rfl rfl (by decide +kernel) ⟨Nat.le_of_ble_eq_true rfl, Nat.le_of_ble_eq_true rfl⟩) (zpreV zBlind_G hK hP hD [0, 1] [] rfl (by decide) rfl (fun U hU hW => zBlind_G s U hW.alike hU hX) (va_recv (q := ("ZipGuard", F_G, 4)) hK hP rfl (q0 := 0) (ci := 0) rfl)) rfl hl.1 (lv_room (Nat.le_of_ble_eq_true rfl)) d_L_entry_5 ⟨Nat.le_of_ble_eq_true rfl, Nat.le_of_ble_eq_true rfl⟩ (fun q9 ce9 H9 z1 z2 z3 z4 z5 => ?_)
    refine zcatch hown x9 suf9 hsp9 (by simp [covers, e91, e92]) (by rw [e94]; decide) (by rw [e94]; exact ht _ zm_515) ((hX _).1 _ (by simp [zbadC])) z3 z4 z5 ?_
    rw [e93]
    have hP := hP.kept (H1 := H9) (fun k q hk => z2 _ ((hP k q hk).lt))
    have hS : va_S A s.heap H9 [] := ⟨Nat.le_trans hS.1 z1, fun q h1 h2 => (z2 q (Nat.lt_of_lt_of_le h1 hS.1)).trans (hS.2.1 q h1 h2), hS.2.2⟩
    refine lv_astore (lv' := [(4, .ref q9), (0, .ref h0), (1, .int n), (2, .int y), (3, .ref qz)]) hx hb d_L_entry_13 hl (by decide) rfl (fun ls hl => ?_)
    refine lv_iconst (v := 1) hx hb d_L_entry_15 (by decide) ?_
    exact zreti hx hb hr hlk hK hP hD hS () [2] [0] rfl (by decide) rfl (rfl) (Nat.le_of_ble_eq_true rfl) (Nat.le_of_ble_eq_true rfl) d_L_entry_16)
set_option maxHeartbeats 4000000 in
set_option maxRecDepth 100000 in
theorem c_L_namX (l : Launch) (D : va_G) (sz : Nat) (h0 : Nat) (qt : Nat) (qd : Nat) (qa : Nat) (qu : Nat) (qe : Nat) (cn : Int32) (fp : Int32) (n : Int32) (y : Int32) (qz : Nat) (cZ : ClassId) (g : Nat → Int64) (hl9 : l.stackTraces = false) : Met l y_L_name (Cond.codeWith y_L_name method_10_code 5 (Option.some Jvm.ClassFile.FieldType.int) [((0 : Nat), (10 : Nat), (13 : Nat), (13 : Nat)), ((0 : Nat), (10 : Nat), (17 : Nat), (25 : Nat))] :: zt) { frames := 8, cells := 1, slots := 6, locals := 134 } (zPc [.ref h0, .int n, .int y, .ref qz] D [(h0, .inr (0, [.ref qt, .ref qd, .ref qa, .ref qu])), (qd, .inr (2, [.ref qe, .int cn, .int 0, .int fp, .ref qt])), (qz, .inl (cZ, 1, .inr (.inl g)))] [(cZ, .long)] sz (zG)) (va_Qi (fun (r : Int32) => fun (_ : Unit) => r = 1) (fun u t => zB D ((fun (_ : Unit) => [(qz, .inl (cZ, 1, .inr (.inl g)))]) u) ((fun (_ : Unit) => [(cZ, .long)]) u) (va_A [(h0, .inr (0, [.ref qt, .ref qd, .ref qa, .ref qu])), (qd, .inr (2, [.ref qe, .int cn, .int 0, .int fp, .ref qt])), (qz, .inl (cZ, 1, .inr (.inl g)))] sz) t) (va_A [(h0, .inr (0, [.ref qt, .ref qd, .ref qa, .ref qu])), (qd, .inr (2, [.ref qe, .int cn, .int 0, .int fp, .ref qt])), (qz, .inl (cZ, 1, .inr (.inl g)))] sz)) 1 6 (va_A [(h0, .inr (0, [.ref qt, .ref qd, .ref qa, .ref qu])), (qd, .inr (2, [.ref qe, .int cn, .int 0, .int fp, .ref qt])), (qz, .inl (cZ, 1, .inr (.inl g)))] sz) :=
  zMetW (Qf := fun A => va_Qi (fun (r : Int32) => fun (_ : Unit) => r = 1) (fun u t => zB D ((fun (_ : Unit) => [(qz, .inl (cZ, 1, .inr (.inl g)))]) u) ((fun (_ : Unit) => [(cZ, .long)]) u) A t) A) (by decide) (Nat.le_of_ble_eq_true rfl) (fun p e s m below meth c A ls hx hb hr hml hown ht hlk hex hA hK hP hD hX hl => by
    have hS : va_S A s.heap s.heap [] := va_S.rf
    have hl : lv_has ls 5 [(0, .ref h0), (1, .int n), (2, .int y), (3, .ref qz)] := hl
    refine lv_aload_n hx hb d_L_name_0 rfl (lv_at hl 3 rfl) ?_
    refine lv_iconst (v := 0) hx hb d_L_name_1 (by decide) ?_
    refine lv_aload_n hx hb d_L_name_2 rfl (lv_at hl 0 rfl) ?_
    refine lv_iload_n hx hb d_L_name_3 rfl (lv_at hl 1 rfl) ?_
    refine lv_iload_n hx hb d_L_name_4 rfl (lv_at hl 2 rfl) ?_
    obtain ⟨x9, suf9, hsp9, e91, e92, e93, e94⟩ := zexc hex
    refine zcallVT (As := [.int n, .int y]) (rest := [.int 0, .ref qz]) ⟨hx, hb, hml, hown, ht⟩ (c_G_namX l D _ h0 qt qd qa qu qe cn fp n y hl9) (cwV 2 ht (zt_goodV zm_726 zm_727 zm_728 zm_65 zm_729) rfl rfl rfl (by decide +kernel) ⟨Nat.le_of_ble_eq_true rfl, Nat.le_of_ble_eq_true rfl⟩) (zpreV zBlind_G hK hP hD [0, 1] [] rfl (by decide) rfl (fun U hU hW => zBlind_G s U hW.alike hU hX) (va_recv (q := ("ZipGuard", F_G, 4)) hK hP rfl (q0 := 0) (ci := 0) rfl)) rfl hl.1 (lv_room (Nat.le_of_ble_eq_true rfl)) d_L_name_5 ⟨Nat.le_of_ble_eq_true rfl, Nat.le_of_ble_eq_true rfl⟩ (fun q9 ce9 H9 z1 z2 z3 z4 z5 => ?_)
    refine zcatch hown x9 suf9 hsp9 (by simp [covers, e91, e92]) (by rw [e94]; decide) (by rw [e94]; exact ht _ zm_515) ((hX _).1 _ (by simp [zbadC])) z3 z4 z5 ?_
    rw [e93]
    have hP := hP.kept (H1 := H9) (fun k q hk => z2 _ ((hP k q hk).lt))
    have hS : va_S A s.heap H9 [] := ⟨Nat.le_trans hS.1 z1, fun q h1 h2 => (z2 q (Nat.lt_of_lt_of_le h1 hS.1)).trans (hS.2.1 q h1 h2), hS.2.2⟩
    refine lv_astore (lv' := [(4, .ref q9), (0, .ref h0), (1, .int n), (2, .int y), (3, .ref qz)]) hx hb d_L_name_13 hl (by decide) rfl (fun ls hl => ?_)
    refine lv_iconst (v := 1) hx hb d_L_name_15 (by decide) ?_
    exact zreti hx hb hr hlk hK hP hD hS () [2] [0] rfl (by decide) rfl (rfl) (Nat.le_of_ble_eq_true rfl) (Nat.le_of_ble_eq_true rfl) d_L_name_16)
set_option maxHeartbeats 4000000 in
set_option maxRecDepth 100000 in
theorem c_L_wriX (l : Launch) (D : va_G) (sz : Nat) (h0 : Nat) (qt : Nat) (qd : Nat) (qa : Nat) (qu : Nat) (qe : Nat) (cn : Int32) (fp : Int32) (n : Int32) (y : Int32) (qz : Nat) (cZ : ClassId) (g : Nat → Int64) (hl9 : l.stackTraces = false) : Met l y_L_written (Cond.codeWith y_L_written method_11_code 5 (Option.some Jvm.ClassFile.FieldType.int) [((0 : Nat), (10 : Nat), (13 : Nat), (13 : Nat)), ((0 : Nat), (10 : Nat), (17 : Nat), (25 : Nat))] :: zt) { frames := 8, cells := 1, slots := 6, locals := 134 } (zPc [.ref h0, .int n, .int y, .ref qz] D [(h0, .inr (0, [.ref qt, .ref qd, .ref qa, .ref qu])), (qd, .inr (2, [.ref qe, .int cn, .int 0, .int fp, .ref qt])), (qz, .inl (cZ, 1, .inr (.inl g)))] [(cZ, .long)] sz (zG)) (va_Qi (fun (r : Int32) => fun (_ : Unit) => r = 1) (fun u t => zB D ((fun (_ : Unit) => [(qz, .inl (cZ, 1, .inr (.inl g)))]) u) ((fun (_ : Unit) => [(cZ, .long)]) u) (va_A [(h0, .inr (0, [.ref qt, .ref qd, .ref qa, .ref qu])), (qd, .inr (2, [.ref qe, .int cn, .int 0, .int fp, .ref qt])), (qz, .inl (cZ, 1, .inr (.inl g)))] sz) t) (va_A [(h0, .inr (0, [.ref qt, .ref qd, .ref qa, .ref qu])), (qd, .inr (2, [.ref qe, .int cn, .int 0, .int fp, .ref qt])), (qz, .inl (cZ, 1, .inr (.inl g)))] sz)) 1 6 (va_A [(h0, .inr (0, [.ref qt, .ref qd, .ref qa, .ref qu])), (qd, .inr (2, [.ref qe, .int cn, .int 0, .int fp, .ref qt])), (qz, .inl (cZ, 1, .inr (.inl g)))] sz) :=
  zMetW (Qf := fun A => va_Qi (fun (r : Int32) => fun (_ : Unit) => r = 1) (fun u t => zB D ((fun (_ : Unit) => [(qz, .inl (cZ, 1, .inr (.inl g)))]) u) ((fun (_ : Unit) => [(cZ, .long)]) u) A t) A) (by decide) (Nat.le_of_ble_eq_true rfl) (fun p e s m below meth c A ls hx hb hr hml hown ht hlk hex hA hK hP hD hX hl => by
    have hS : va_S A s.heap s.heap [] := va_S.rf
    have hl : lv_has ls 5 [(0, .ref h0), (1, .int n), (2, .int y), (3, .ref qz)] := hl
    refine lv_aload_n hx hb d_L_written_0 rfl (lv_at hl 3 rfl) ?_
    refine lv_iconst (v := 0) hx hb d_L_written_1 (by decide) ?_
    refine lv_aload_n hx hb d_L_written_2 rfl (lv_at hl 0 rfl) ?_
    refine lv_iload_n hx hb d_L_written_3 rfl (lv_at hl 1 rfl) ?_
    refine lv_iload_n hx hb d_L_written_4 rfl (lv_at hl 2 rfl) ?_
    obtain ⟨x9, suf9, hsp9, e91, e92, e93, e94⟩ := zexc hex
    refine zcallVT (As := [.int n, .int y]) (rest := [.int 0, .ref qz]) ⟨hx, hb, hml, hown, ht⟩ (c_G_wriX l D _ h0 qt qd qa qu qe cn fp n y hl9) (cwV 2 ht (zt_goodV zm_733 zm_734 zm_735 zm_65 zm_736) rfl rfl rfl (by decide +kernel) ⟨Nat.le_of_ble_eq_true rfl, Nat.le_of_ble_eq_true rfl⟩) (zpreV zBlind_G hK hP hD [0, 1] [] rfl (by decide) rfl (fun U hU hW => zBlind_G s U hW.alike hU hX) (va_recv (q := ("ZipGuard", F_G, 4)) hK hP rfl (q0 := 0) (ci := 0) rfl)) rfl hl.1 (lv_room (Nat.le_of_ble_eq_true rfl)) d_L_written_5 ⟨Nat.le_of_ble_eq_true rfl, Nat.le_of_ble_eq_true rfl⟩ (fun q9 ce9 H9 z1 z2 z3 z4 z5 => ?_)
    refine zcatch hown x9 suf9 hsp9 (by simp [covers, e91, e92]) (by rw [e94]; decide) (by rw [e94]; exact ht _ zm_515) ((hX _).1 _ (by simp [zbadC])) z3 z4 z5 ?_
    rw [e93]
    have hP := hP.kept (H1 := H9) (fun k q hk => z2 _ ((hP k q hk).lt))
    have hS : va_S A s.heap H9 [] := ⟨Nat.le_trans hS.1 z1, fun q h1 h2 => (z2 q (Nat.lt_of_lt_of_le h1 hS.1)).trans (hS.2.1 q h1 h2), hS.2.2⟩
    refine lv_astore (lv' := [(4, .ref q9), (0, .ref h0), (1, .int n), (2, .int y), (3, .ref qz)]) hx hb d_L_written_13 hl (by decide) rfl (fun ls hl => ?_)
    refine lv_iconst (v := 1) hx hb d_L_written_15 (by decide) ?_
    exact zreti hx hb hr hlk hK hP hD hS () [2] [0] rfl (by decide) rfl (rfl) (Nat.le_of_ble_eq_true rfl) (Nat.le_of_ble_eq_true rfl) d_L_written_16)
set_option maxHeartbeats 4000000 in
set_option maxRecDepth 100000 in
theorem c_L_ab0 (l : Launch) (D : va_G) (sz : Nat) (h0 : Nat) (qt : Nat) (qd : Nat) (qa : Nat) (qu : Nat) (qb : Nat) (qe : Nat) (qo : Nat) (n0 : Int32) (cn : Int32) (fp : Int32) (bu : Int32) (ra : Int32) (to : Int32) (rs : Int32) (qz : Nat) (cZ : ClassId) (g : Nat → Int64)  : Met l y_L_about (Cond.codeWith y_L_about method_12_code 4 (Option.some Jvm.ClassFile.FieldType.int) [((0 : Nat), (9 : Nat), (12 : Nat), (19 : Nat))] :: zt) { frames := 1, cells := 0, slots := 0, locals := 21 } (zPc [.ref h0, .int 0, .ref qz] D [(h0, .inr (0, [.ref qt, .ref qd, .ref qa, .ref qu])), (qt, .inr (1, [.ref qb, .int n0])), (qd, .inr (2, [.ref qe, .int cn, .int 0, .int fp, .ref qt])), (qa, .inr (3, [.int bu, .int ra, .int to, .ref qo, .int rs])), (qz, .inl (cZ, 1, .inr (.inl g)))] [(cZ, .long)] sz (fun _ => True)) (va_Qi (fun (r : Int32) => fun (_ : Unit) => r = 0) (fun u t => zB D ((fun (_ : Unit) => [(qz, .inl (cZ, 1, .inr (.inl (vp_updL g (0 : Int32).toNatClampNeg n0.toInt64))))]) u) ((fun (_ : Unit) => [(cZ, .long)]) u) (va_A [(h0, .inr (0, [.ref qt, .ref qd, .ref qa, .ref qu])), (qt, .inr (1, [.ref qb, .int n0])), (qd, .inr (2, [.ref qe, .int cn, .int 0, .int fp, .ref qt])), (qa, .inr (3, [.int bu, .int ra, .int to, .ref qo, .int rs])), (qz, .inl (cZ, 1, .inr (.inl g)))] sz) t) (va_A [(h0, .inr (0, [.ref qt, .ref qd, .ref qa, .ref qu])), (qt, .inr (1, [.ref qb, .int n0])), (qd, .inr (2, [.ref qe, .int cn, .int 0, .int fp, .ref qt])), (qa, .inr (3, [.int bu, .int ra, .int to, .ref qo, .int rs])), (qz, .inl (cZ, 1, .inr (.inl g)))] sz)) 0 0 (va_A [(h0, .inr (0, [.ref qt, .ref qd, .ref qa, .ref qu])), (qt, .inr (1, [.ref qb, .int n0])), (qd, .inr (2, [.ref qe, .int cn, .int 0, .int fp, .ref qt])), (qa, .inr (3, [.int bu, .int ra, .int to, .ref qo, .int rs])), (qz, .inl (cZ, 1, .inr (.inl g)))] sz) :=
  zMetW (Qf := fun A => va_Qi (fun (r : Int32) => fun (_ : Unit) => r = 0) (fun u t => zB D ((fun (_ : Unit) => [(qz, .inl (cZ, 1, .inr (.inl (vp_updL g (0 : Int32).toNatClampNeg n0.toInt64))))]) u) ((fun (_ : Unit) => [(cZ, .long)]) u) A t) A) (by decide) (Nat.le_of_ble_eq_true rfl) (fun p e s m below meth c A ls hx hb hr hml hown ht hlk hex hA hK hP hD hX hl => by
    have hS : va_S A s.heap s.heap [] := va_S.rf
    have hl : lv_has ls 4 [(0, .ref h0), (1, .int 0), (2, .ref qz)] := hl
    refine lv_aload_n hx hb d_L_about_0 rfl (lv_at hl 2 rfl) ?_
    refine lv_iconst (v := 0) hx hb d_L_about_1 (by decide) ?_
    refine lv_aload_n hx hb d_L_about_2 rfl (lv_at hl 0 rfl) ?_
    refine lv_iload_n hx hb d_L_about_3 rfl (lv_at hl 1 rfl) ?_
    refine zji (wr := [(qz, .inl (cZ, 1, .inr (.inl g)))]) (va_runV (As := [.int 0]) (rest := [.int 0, .ref qz]) ⟨hx, hb, hml, hown, ht⟩ (c_G_ab0 l D _ h0 qt qd qa qu qb qe qo n0 cn fp bu ra to rs ) (cwV 1 ht (zt_goodV zm_741 zm_742 zm_743 zm_65 zm_744) rfl rfl rfl (by decide +kernel) ⟨Nat.le_of_ble_eq_true rfl, Nat.le_of_ble_eq_true rfl⟩) (zpreV zBlind_t hK hP hD [0, 1, 2, 3] [] rfl (by decide) rfl (fun _ _ _ => trivial) (va_recv (q := ("ZipGuard", F_G, 4)) hK hP rfl (q0 := 0) (ci := 0) rfl)) rfl rfl hl.1 rfl (lv_room (Nat.le_of_ble_eq_true rfl)) d_L_about_4 ⟨Nat.le_of_ble_eq_true rfl, Nat.le_of_ble_eq_true rfl⟩) hK hP hD hS hA [0, 1, 2, 3] [4] rfl rfl (by decide) (by decide) (fun r1 u H locs hp2 hP hD hK hS => ?_)
    have hP : va_P D zcl [(qz, .inl (cZ, 1, .inr (.inl g))), (h0, .inr (0, [.ref qt, .ref qd, .ref qa, .ref qu])), (qt, .inr (1, [.ref qb, .int n0])), (qd, .inr (2, [.ref qe, .int cn, .int 0, .int fp, .ref qt])), (qa, .inr (3, [.int bu, .int ra, .int to, .ref qo, .int rs]))] H := hP
    have hD : va_D A [(qz, .inl (cZ, 1, .inr (.inl g))), (h0, .inr (0, [.ref qt, .ref qd, .ref qa, .ref qu])), (qt, .inr (1, [.ref qb, .int n0])), (qd, .inr (2, [.ref qe, .int cn, .int 0, .int fp, .ref qt])), (qa, .inr (3, [.int bu, .int ra, .int to, .ref qo, .int rs]))] := hD
    have hK : va_K D zcl [(cZ, .long)] s := hK
    have hp2 := hp2.symm
    subst hp2
    have hP := hP.sub (ws' := [(qz, .inl (cZ, 1, .inr (.inl g)))]) [0] rfl
    have hD := hD.sub (ws' := [(qz, .inl (cZ, 1, .inr (.inl g)))]) [0] (by decide) rfl
    have hK := hK.sub (tys' := [(cZ, .long)]) [0] rfl
    refine lv_i2l hx hb d_L_about_7 rfl ?_
    refine va_last hx hb hK hP hD hS 0 0 rfl rfl (by unfold vp_in; decide) d_L_about_8 (fun H locs hP hD hS => ?_)
    have hP : va_P D zcl [(qz, .inl (cZ, 1, .inr (.inl (vp_updL g (0 : Int32).toNatClampNeg n0.toInt64))))] H := hP
    have hD : va_D A [(qz, .inl (cZ, 1, .inr (.inl (vp_updL g (0 : Int32).toNatClampNeg n0.toInt64))))] := hD
    refine lv_goto (tgt := 15) hx hb d_L_about_9 (by decide) ?_
    refine lv_iconst (v := 0) hx hb d_L_about_15 (by decide) ?_
    exact zreti hx hb hr hlk hK hP hD hS () [0] [0] rfl (by decide) rfl (rfl) (Nat.le_of_ble_eq_true rfl) (Nat.le_of_ble_eq_true rfl) d_L_about_16)
set_option maxHeartbeats 4000000 in
set_option maxRecDepth 100000 in
theorem c_L_ab1 (l : Launch) (D : va_G) (sz : Nat) (h0 : Nat) (qt : Nat) (qd : Nat) (qa : Nat) (qu : Nat) (qb : Nat) (qe : Nat) (qo : Nat) (n0 : Int32) (cn : Int32) (fp : Int32) (bu : Int32) (ra : Int32) (to : Int32) (rs : Int32) (qz : Nat) (cZ : ClassId) (g : Nat → Int64)  : Met l y_L_about (Cond.codeWith y_L_about method_12_code 4 (Option.some Jvm.ClassFile.FieldType.int) [((0 : Nat), (9 : Nat), (12 : Nat), (19 : Nat))] :: zt) { frames := 1, cells := 0, slots := 0, locals := 21 } (zPc [.ref h0, .int 1, .ref qz] D [(h0, .inr (0, [.ref qt, .ref qd, .ref qa, .ref qu])), (qt, .inr (1, [.ref qb, .int n0])), (qd, .inr (2, [.ref qe, .int cn, .int 0, .int fp, .ref qt])), (qa, .inr (3, [.int bu, .int ra, .int to, .ref qo, .int rs])), (qz, .inl (cZ, 1, .inr (.inl g)))] [(cZ, .long)] sz (fun _ => True)) (va_Qi (fun (r : Int32) => fun (_ : Unit) => r = 0) (fun u t => zB D ((fun (_ : Unit) => [(qz, .inl (cZ, 1, .inr (.inl (vp_updL g (0 : Int32).toNatClampNeg (0 : Int32).toInt64))))]) u) ((fun (_ : Unit) => [(cZ, .long)]) u) (va_A [(h0, .inr (0, [.ref qt, .ref qd, .ref qa, .ref qu])), (qt, .inr (1, [.ref qb, .int n0])), (qd, .inr (2, [.ref qe, .int cn, .int 0, .int fp, .ref qt])), (qa, .inr (3, [.int bu, .int ra, .int to, .ref qo, .int rs])), (qz, .inl (cZ, 1, .inr (.inl g)))] sz) t) (va_A [(h0, .inr (0, [.ref qt, .ref qd, .ref qa, .ref qu])), (qt, .inr (1, [.ref qb, .int n0])), (qd, .inr (2, [.ref qe, .int cn, .int 0, .int fp, .ref qt])), (qa, .inr (3, [.int bu, .int ra, .int to, .ref qo, .int rs])), (qz, .inl (cZ, 1, .inr (.inl g)))] sz)) 0 0 (va_A [(h0, .inr (0, [.ref qt, .ref qd, .ref qa, .ref qu])), (qt, .inr (1, [.ref qb, .int n0])), (qd, .inr (2, [.ref qe, .int cn, .int 0, .int fp, .ref qt])), (qa, .inr (3, [.int bu, .int ra, .int to, .ref qo, .int rs])), (qz, .inl (cZ, 1, .inr (.inl g)))] sz) :=
  zMetW (Qf := fun A => va_Qi (fun (r : Int32) => fun (_ : Unit) => r = 0) (fun u t => zB D ((fun (_ : Unit) => [(qz, .inl (cZ, 1, .inr (.inl (vp_updL g (0 : Int32).toNatClampNeg (0 : Int32).toInt64))))]) u) ((fun (_ : Unit) => [(cZ, .long)]) u) A t) A) (by decide) (Nat.le_of_ble_eq_true rfl) (fun p e s m below meth c A ls hx hb hr hml hown ht hlk hex hA hK hP hD hX hl => by
    have hS : va_S A s.heap s.heap [] := va_S.rf
    have hl : lv_has ls 4 [(0, .ref h0), (1, .int 1), (2, .ref qz)] := hl
    refine lv_aload_n hx hb d_L_about_0 rfl (lv_at hl 2 rfl) ?_
    refine lv_iconst (v := 0) hx hb d_L_about_1 (by decide) ?_
    refine lv_aload_n hx hb d_L_about_2 rfl (lv_at hl 0 rfl) ?_
    refine lv_iload_n hx hb d_L_about_3 rfl (lv_at hl 1 rfl) ?_
    refine zji (wr := [(qz, .inl (cZ, 1, .inr (.inl g)))]) (va_runV (As := [.int 1]) (rest := [.int 0, .ref qz]) ⟨hx, hb, hml, hown, ht⟩ (c_G_ab1 l D _ h0 qt qd qa qu qb qe qo n0 cn fp bu ra to rs ) (cwV 1 ht (zt_goodV zm_741 zm_742 zm_743 zm_65 zm_744) rfl rfl rfl (by decide +kernel) ⟨Nat.le_of_ble_eq_true rfl, Nat.le_of_ble_eq_true rfl⟩) (zpreV zBlind_t hK hP hD [0, 1, 2, 3] [] rfl (by decide) rfl (fun _ _ _ => trivial) (va_recv (q := ("ZipGuard", F_G, 4)) hK hP rfl (q0 := 0) (ci := 0) rfl)) rfl rfl hl.1 rfl (lv_room (Nat.le_of_ble_eq_true rfl)) d_L_about_4 ⟨Nat.le_of_ble_eq_true rfl, Nat.le_of_ble_eq_true rfl⟩) hK hP hD hS hA [0, 1, 2, 3] [4] rfl rfl (by decide) (by decide) (fun r1 u H locs hp2 hP hD hK hS => ?_)
    have hP : va_P D zcl [(qz, .inl (cZ, 1, .inr (.inl g))), (h0, .inr (0, [.ref qt, .ref qd, .ref qa, .ref qu])), (qt, .inr (1, [.ref qb, .int n0])), (qd, .inr (2, [.ref qe, .int cn, .int 0, .int fp, .ref qt])), (qa, .inr (3, [.int bu, .int ra, .int to, .ref qo, .int rs]))] H := hP
    have hD : va_D A [(qz, .inl (cZ, 1, .inr (.inl g))), (h0, .inr (0, [.ref qt, .ref qd, .ref qa, .ref qu])), (qt, .inr (1, [.ref qb, .int n0])), (qd, .inr (2, [.ref qe, .int cn, .int 0, .int fp, .ref qt])), (qa, .inr (3, [.int bu, .int ra, .int to, .ref qo, .int rs]))] := hD
    have hK : va_K D zcl [(cZ, .long)] s := hK
    have hp2 := hp2.symm
    subst hp2
    have hP := hP.sub (ws' := [(qz, .inl (cZ, 1, .inr (.inl g)))]) [0] rfl
    have hD := hD.sub (ws' := [(qz, .inl (cZ, 1, .inr (.inl g)))]) [0] (by decide) rfl
    have hK := hK.sub (tys' := [(cZ, .long)]) [0] rfl
    refine lv_i2l hx hb d_L_about_7 rfl ?_
    refine va_last hx hb hK hP hD hS 0 0 rfl rfl (by unfold vp_in; decide) d_L_about_8 (fun H locs hP hD hS => ?_)
    have hP : va_P D zcl [(qz, .inl (cZ, 1, .inr (.inl (vp_updL g (0 : Int32).toNatClampNeg ((0 : Int32).toInt64)))))] H := hP
    have hD : va_D A [(qz, .inl (cZ, 1, .inr (.inl (vp_updL g (0 : Int32).toNatClampNeg ((0 : Int32).toInt64)))))] := hD
    refine lv_goto (tgt := 15) hx hb d_L_about_9 (by decide) ?_
    refine lv_iconst (v := 0) hx hb d_L_about_15 (by decide) ?_
    exact zreti hx hb hr hlk hK hP hD hS () [0] [0] rfl (by decide) rfl (rfl) (Nat.le_of_ble_eq_true rfl) (Nat.le_of_ble_eq_true rfl) d_L_about_16)
set_option maxHeartbeats 4000000 in
set_option maxRecDepth 100000 in
theorem c_L_ab2 (l : Launch) (D : va_G) (sz : Nat) (h0 : Nat) (qt : Nat) (qd : Nat) (qa : Nat) (qu : Nat) (qb : Nat) (qe : Nat) (qo : Nat) (n0 : Int32) (cn : Int32) (fp : Int32) (bu : Int32) (ra : Int32) (to : Int32) (rs : Int32) (qz : Nat) (cZ : ClassId) (g : Nat → Int64)  : Met l y_L_about (Cond.codeWith y_L_about method_12_code 4 (Option.some Jvm.ClassFile.FieldType.int) [((0 : Nat), (9 : Nat), (12 : Nat), (19 : Nat))] :: zt) { frames := 1, cells := 0, slots := 0, locals := 21 } (zPc [.ref h0, .int 2, .ref qz] D [(h0, .inr (0, [.ref qt, .ref qd, .ref qa, .ref qu])), (qt, .inr (1, [.ref qb, .int n0])), (qd, .inr (2, [.ref qe, .int cn, .int 0, .int fp, .ref qt])), (qa, .inr (3, [.int bu, .int ra, .int to, .ref qo, .int rs])), (qz, .inl (cZ, 1, .inr (.inl g)))] [(cZ, .long)] sz (fun _ => True)) (va_Qi (fun (r : Int32) => fun (_ : Unit) => r = 0) (fun u t => zB D ((fun (_ : Unit) => [(qz, .inl (cZ, 1, .inr (.inl (vp_updL g (0 : Int32).toNatClampNeg to.toInt64))))]) u) ((fun (_ : Unit) => [(cZ, .long)]) u) (va_A [(h0, .inr (0, [.ref qt, .ref qd, .ref qa, .ref qu])), (qt, .inr (1, [.ref qb, .int n0])), (qd, .inr (2, [.ref qe, .int cn, .int 0, .int fp, .ref qt])), (qa, .inr (3, [.int bu, .int ra, .int to, .ref qo, .int rs])), (qz, .inl (cZ, 1, .inr (.inl g)))] sz) t) (va_A [(h0, .inr (0, [.ref qt, .ref qd, .ref qa, .ref qu])), (qt, .inr (1, [.ref qb, .int n0])), (qd, .inr (2, [.ref qe, .int cn, .int 0, .int fp, .ref qt])), (qa, .inr (3, [.int bu, .int ra, .int to, .ref qo, .int rs])), (qz, .inl (cZ, 1, .inr (.inl g)))] sz)) 0 0 (va_A [(h0, .inr (0, [.ref qt, .ref qd, .ref qa, .ref qu])), (qt, .inr (1, [.ref qb, .int n0])), (qd, .inr (2, [.ref qe, .int cn, .int 0, .int fp, .ref qt])), (qa, .inr (3, [.int bu, .int ra, .int to, .ref qo, .int rs])), (qz, .inl (cZ, 1, .inr (.inl g)))] sz) :=
  zMetW (Qf := fun A => va_Qi (fun (r : Int32) => fun (_ : Unit) => r = 0) (fun u t => zB D ((fun (_ : Unit) => [(qz, .inl (cZ, 1, .inr (.inl (vp_updL g (0 : Int32).toNatClampNeg to.toInt64))))]) u) ((fun (_ : Unit) => [(cZ, .long)]) u) A t) A) (by decide) (Nat.le_of_ble_eq_true rfl) (fun p e s m below meth c A ls hx hb hr hml hown ht hlk hex hA hK hP hD hX hl => by
    have hS : va_S A s.heap s.heap [] := va_S.rf
    have hl : lv_has ls 4 [(0, .ref h0), (1, .int 2), (2, .ref qz)] := hl
    refine lv_aload_n hx hb d_L_about_0 rfl (lv_at hl 2 rfl) ?_
    refine lv_iconst (v := 0) hx hb d_L_about_1 (by decide) ?_
    refine lv_aload_n hx hb d_L_about_2 rfl (lv_at hl 0 rfl) ?_
    refine lv_iload_n hx hb d_L_about_3 rfl (lv_at hl 1 rfl) ?_
    refine zji (wr := [(qz, .inl (cZ, 1, .inr (.inl g)))]) (va_runV (As := [.int 2]) (rest := [.int 0, .ref qz]) ⟨hx, hb, hml, hown, ht⟩ (c_G_ab2 l D _ h0 qt qd qa qu qb qe qo n0 cn fp bu ra to rs ) (cwV 1 ht (zt_goodV zm_741 zm_742 zm_743 zm_65 zm_744) rfl rfl rfl (by decide +kernel) ⟨Nat.le_of_ble_eq_true rfl, Nat.le_of_ble_eq_true rfl⟩) (zpreV zBlind_t hK hP hD [0, 1, 2, 3] [] rfl (by decide) rfl (fun _ _ _ => trivial) (va_recv (q := ("ZipGuard", F_G, 4)) hK hP rfl (q0 := 0) (ci := 0) rfl)) rfl rfl hl.1 rfl (lv_room (Nat.le_of_ble_eq_true rfl)) d_L_about_4 ⟨Nat.le_of_ble_eq_true rfl, Nat.le_of_ble_eq_true rfl⟩) hK hP hD hS hA [0, 1, 2, 3] [4] rfl rfl (by decide) (by decide) (fun r1 u H locs hp2 hP hD hK hS => ?_)
    have hP : va_P D zcl [(qz, .inl (cZ, 1, .inr (.inl g))), (h0, .inr (0, [.ref qt, .ref qd, .ref qa, .ref qu])), (qt, .inr (1, [.ref qb, .int n0])), (qd, .inr (2, [.ref qe, .int cn, .int 0, .int fp, .ref qt])), (qa, .inr (3, [.int bu, .int ra, .int to, .ref qo, .int rs]))] H := hP
    have hD : va_D A [(qz, .inl (cZ, 1, .inr (.inl g))), (h0, .inr (0, [.ref qt, .ref qd, .ref qa, .ref qu])), (qt, .inr (1, [.ref qb, .int n0])), (qd, .inr (2, [.ref qe, .int cn, .int 0, .int fp, .ref qt])), (qa, .inr (3, [.int bu, .int ra, .int to, .ref qo, .int rs]))] := hD
    have hK : va_K D zcl [(cZ, .long)] s := hK
    have hp2 := hp2.symm
    subst hp2
    have hP := hP.sub (ws' := [(qz, .inl (cZ, 1, .inr (.inl g)))]) [0] rfl
    have hD := hD.sub (ws' := [(qz, .inl (cZ, 1, .inr (.inl g)))]) [0] (by decide) rfl
    have hK := hK.sub (tys' := [(cZ, .long)]) [0] rfl
    refine lv_i2l hx hb d_L_about_7 rfl ?_
    refine va_last hx hb hK hP hD hS 0 0 rfl rfl (by unfold vp_in; decide) d_L_about_8 (fun H locs hP hD hS => ?_)
    have hP : va_P D zcl [(qz, .inl (cZ, 1, .inr (.inl (vp_updL g (0 : Int32).toNatClampNeg to.toInt64))))] H := hP
    have hD : va_D A [(qz, .inl (cZ, 1, .inr (.inl (vp_updL g (0 : Int32).toNatClampNeg to.toInt64))))] := hD
    refine lv_goto (tgt := 15) hx hb d_L_about_9 (by decide) ?_
    refine lv_iconst (v := 0) hx hb d_L_about_15 (by decide) ?_
    exact zreti hx hb hr hlk hK hP hD hS () [0] [0] rfl (by decide) rfl (rfl) (Nat.le_of_ble_eq_true rfl) (Nat.le_of_ble_eq_true rfl) d_L_about_16)
set_option maxHeartbeats 4000000 in
set_option maxRecDepth 100000 in
theorem c_L_ab3 (l : Launch) (D : va_G) (sz : Nat) (h0 : Nat) (qt : Nat) (qd : Nat) (qa : Nat) (qu : Nat) (qb : Nat) (qe : Nat) (qo : Nat) (n0 : Int32) (cn : Int32) (fp : Int32) (bu : Int32) (ra : Int32) (to : Int32) (rs : Int32) (qz : Nat) (cZ : ClassId) (g : Nat → Int64)  : Met l y_L_about (Cond.codeWith y_L_about method_12_code 4 (Option.some Jvm.ClassFile.FieldType.int) [((0 : Nat), (9 : Nat), (12 : Nat), (19 : Nat))] :: zt) { frames := 1, cells := 0, slots := 0, locals := 21 } (zPc [.ref h0, .int 3, .ref qz] D [(h0, .inr (0, [.ref qt, .ref qd, .ref qa, .ref qu])), (qt, .inr (1, [.ref qb, .int n0])), (qd, .inr (2, [.ref qe, .int cn, .int 0, .int fp, .ref qt])), (qa, .inr (3, [.int bu, .int ra, .int to, .ref qo, .int rs])), (qz, .inl (cZ, 1, .inr (.inl g)))] [(cZ, .long)] sz (fun _ => True)) (va_Qi (fun (r : Int32) => fun (_ : Unit) => r = 0) (fun u t => zB D ((fun (_ : Unit) => [(qz, .inl (cZ, 1, .inr (.inl (vp_updL g (0 : Int32).toNatClampNeg bu.toInt64))))]) u) ((fun (_ : Unit) => [(cZ, .long)]) u) (va_A [(h0, .inr (0, [.ref qt, .ref qd, .ref qa, .ref qu])), (qt, .inr (1, [.ref qb, .int n0])), (qd, .inr (2, [.ref qe, .int cn, .int 0, .int fp, .ref qt])), (qa, .inr (3, [.int bu, .int ra, .int to, .ref qo, .int rs])), (qz, .inl (cZ, 1, .inr (.inl g)))] sz) t) (va_A [(h0, .inr (0, [.ref qt, .ref qd, .ref qa, .ref qu])), (qt, .inr (1, [.ref qb, .int n0])), (qd, .inr (2, [.ref qe, .int cn, .int 0, .int fp, .ref qt])), (qa, .inr (3, [.int bu, .int ra, .int to, .ref qo, .int rs])), (qz, .inl (cZ, 1, .inr (.inl g)))] sz)) 0 0 (va_A [(h0, .inr (0, [.ref qt, .ref qd, .ref qa, .ref qu])), (qt, .inr (1, [.ref qb, .int n0])), (qd, .inr (2, [.ref qe, .int cn, .int 0, .int fp, .ref qt])), (qa, .inr (3, [.int bu, .int ra, .int to, .ref qo, .int rs])), (qz, .inl (cZ, 1, .inr (.inl g)))] sz) :=
  zMetW (Qf := fun A => va_Qi (fun (r : Int32) => fun (_ : Unit) => r = 0) (fun u t => zB D ((fun (_ : Unit) => [(qz, .inl (cZ, 1, .inr (.inl (vp_updL g (0 : Int32).toNatClampNeg bu.toInt64))))]) u) ((fun (_ : Unit) => [(cZ, .long)]) u) A t) A) (by decide) (Nat.le_of_ble_eq_true rfl) (fun p e s m below meth c A ls hx hb hr hml hown ht hlk hex hA hK hP hD hX hl => by
    have hS : va_S A s.heap s.heap [] := va_S.rf
    have hl : lv_has ls 4 [(0, .ref h0), (1, .int 3), (2, .ref qz)] := hl
    refine lv_aload_n hx hb d_L_about_0 rfl (lv_at hl 2 rfl) ?_
    refine lv_iconst (v := 0) hx hb d_L_about_1 (by decide) ?_
    refine lv_aload_n hx hb d_L_about_2 rfl (lv_at hl 0 rfl) ?_
    refine lv_iload_n hx hb d_L_about_3 rfl (lv_at hl 1 rfl) ?_
    refine zji (wr := [(qz, .inl (cZ, 1, .inr (.inl g)))]) (va_runV (As := [.int 3]) (rest := [.int 0, .ref qz]) ⟨hx, hb, hml, hown, ht⟩ (c_G_ab3 l D _ h0 qt qd qa qu qb qe qo n0 cn fp bu ra to rs ) (cwV 1 ht (zt_goodV zm_741 zm_742 zm_743 zm_65 zm_744) rfl rfl rfl (by decide +kernel) ⟨Nat.le_of_ble_eq_true rfl, Nat.le_of_ble_eq_true rfl⟩) (zpreV zBlind_t hK hP hD [0, 1, 2, 3] [] rfl (by decide) rfl (fun _ _ _ => trivial) (va_recv (q := ("ZipGuard", F_G, 4)) hK hP rfl (q0 := 0) (ci := 0) rfl)) rfl rfl hl.1 rfl (lv_room (Nat.le_of_ble_eq_true rfl)) d_L_about_4 ⟨Nat.le_of_ble_eq_true rfl, Nat.le_of_ble_eq_true rfl⟩) hK hP hD hS hA [0, 1, 2, 3] [4] rfl rfl (by decide) (by decide) (fun r1 u H locs hp2 hP hD hK hS => ?_)
    have hP : va_P D zcl [(qz, .inl (cZ, 1, .inr (.inl g))), (h0, .inr (0, [.ref qt, .ref qd, .ref qa, .ref qu])), (qt, .inr (1, [.ref qb, .int n0])), (qd, .inr (2, [.ref qe, .int cn, .int 0, .int fp, .ref qt])), (qa, .inr (3, [.int bu, .int ra, .int to, .ref qo, .int rs]))] H := hP
    have hD : va_D A [(qz, .inl (cZ, 1, .inr (.inl g))), (h0, .inr (0, [.ref qt, .ref qd, .ref qa, .ref qu])), (qt, .inr (1, [.ref qb, .int n0])), (qd, .inr (2, [.ref qe, .int cn, .int 0, .int fp, .ref qt])), (qa, .inr (3, [.int bu, .int ra, .int to, .ref qo, .int rs]))] := hD
    have hK : va_K D zcl [(cZ, .long)] s := hK
    have hp2 := hp2.symm
    subst hp2
    have hP := hP.sub (ws' := [(qz, .inl (cZ, 1, .inr (.inl g)))]) [0] rfl
    have hD := hD.sub (ws' := [(qz, .inl (cZ, 1, .inr (.inl g)))]) [0] (by decide) rfl
    have hK := hK.sub (tys' := [(cZ, .long)]) [0] rfl
    refine lv_i2l hx hb d_L_about_7 rfl ?_
    refine va_last hx hb hK hP hD hS 0 0 rfl rfl (by unfold vp_in; decide) d_L_about_8 (fun H locs hP hD hS => ?_)
    have hP : va_P D zcl [(qz, .inl (cZ, 1, .inr (.inl (vp_updL g (0 : Int32).toNatClampNeg bu.toInt64))))] H := hP
    have hD : va_D A [(qz, .inl (cZ, 1, .inr (.inl (vp_updL g (0 : Int32).toNatClampNeg bu.toInt64))))] := hD
    refine lv_goto (tgt := 15) hx hb d_L_about_9 (by decide) ?_
    refine lv_iconst (v := 0) hx hb d_L_about_15 (by decide) ?_
    exact zreti hx hb hr hlk hK hP hD hS () [0] [0] rfl (by decide) rfl (rfl) (Nat.le_of_ble_eq_true rfl) (Nat.le_of_ble_eq_true rfl) d_L_about_16)
set_option maxHeartbeats 4000000 in
set_option maxRecDepth 100000 in
theorem c_L_ab4 (l : Launch) (D : va_G) (sz : Nat) (h0 : Nat) (qt : Nat) (qd : Nat) (qa : Nat) (qu : Nat) (qb : Nat) (qe : Nat) (qo : Nat) (n0 : Int32) (cn : Int32) (fp : Int32) (bu : Int32) (ra : Int32) (to : Int32) (rs : Int32) (qz : Nat) (cZ : ClassId) (g : Nat → Int64)  : Met l y_L_about (Cond.codeWith y_L_about method_12_code 4 (Option.some Jvm.ClassFile.FieldType.int) [((0 : Nat), (9 : Nat), (12 : Nat), (19 : Nat))] :: zt) { frames := 1, cells := 0, slots := 0, locals := 21 } (zPc [.ref h0, .int 4, .ref qz] D [(h0, .inr (0, [.ref qt, .ref qd, .ref qa, .ref qu])), (qt, .inr (1, [.ref qb, .int n0])), (qd, .inr (2, [.ref qe, .int cn, .int 0, .int fp, .ref qt])), (qa, .inr (3, [.int bu, .int ra, .int to, .ref qo, .int rs])), (qz, .inl (cZ, 1, .inr (.inl g)))] [(cZ, .long)] sz (fun _ => True)) (va_Qi (fun (r : Int32) => fun (_ : Unit) => r = 0) (fun u t => zB D ((fun (_ : Unit) => [(qz, .inl (cZ, 1, .inr (.inl (vp_updL g (0 : Int32).toNatClampNeg ra.toInt64))))]) u) ((fun (_ : Unit) => [(cZ, .long)]) u) (va_A [(h0, .inr (0, [.ref qt, .ref qd, .ref qa, .ref qu])), (qt, .inr (1, [.ref qb, .int n0])), (qd, .inr (2, [.ref qe, .int cn, .int 0, .int fp, .ref qt])), (qa, .inr (3, [.int bu, .int ra, .int to, .ref qo, .int rs])), (qz, .inl (cZ, 1, .inr (.inl g)))] sz) t) (va_A [(h0, .inr (0, [.ref qt, .ref qd, .ref qa, .ref qu])), (qt, .inr (1, [.ref qb, .int n0])), (qd, .inr (2, [.ref qe, .int cn, .int 0, .int fp, .ref qt])), (qa, .inr (3, [.int bu, .int ra, .int to, .ref qo, .int rs])), (qz, .inl (cZ, 1, .inr (.inl g)))] sz)) 0 0 (va_A [(h0, .inr (0, [.ref qt, .ref qd, .ref qa, .ref qu])), (qt, .inr (1, [.ref qb, .int n0])), (qd, .inr (2, [.ref qe, .int cn, .int 0, .int fp, .ref qt])), (qa, .inr (3, [.int bu, .int ra, .int to, .ref qo, .int rs])), (qz, .inl (cZ, 1, .inr (.inl g)))] sz) :=
  zMetW (Qf := fun A => va_Qi (fun (r : Int32) => fun (_ : Unit) => r = 0) (fun u t => zB D ((fun (_ : Unit) => [(qz, .inl (cZ, 1, .inr (.inl (vp_updL g (0 : Int32).toNatClampNeg ra.toInt64))))]) u) ((fun (_ : Unit) => [(cZ, .long)]) u) A t) A) (by decide) (Nat.le_of_ble_eq_true rfl) (fun p e s m below meth c A ls hx hb hr hml hown ht hlk hex hA hK hP hD hX hl => by
    have hS : va_S A s.heap s.heap [] := va_S.rf
    have hl : lv_has ls 4 [(0, .ref h0), (1, .int 4), (2, .ref qz)] := hl
    refine lv_aload_n hx hb d_L_about_0 rfl (lv_at hl 2 rfl) ?_
    refine lv_iconst (v := 0) hx hb d_L_about_1 (by decide) ?_
    refine lv_aload_n hx hb d_L_about_2 rfl (lv_at hl 0 rfl) ?_
    refine lv_iload_n hx hb d_L_about_3 rfl (lv_at hl 1 rfl) ?_
    refine zji (wr := [(qz, .inl (cZ, 1, .inr (.inl g)))]) (va_runV (As := [.int 4]) (rest := [.int 0, .ref qz]) ⟨hx, hb, hml, hown, ht⟩ (c_G_ab4 l D _ h0 qt qd qa qu qb qe qo n0 cn fp bu ra to rs ) (cwV 1 ht (zt_goodV zm_741 zm_742 zm_743 zm_65 zm_744) rfl rfl rfl (by decide +kernel) ⟨Nat.le_of_ble_eq_true rfl, Nat.le_of_ble_eq_true rfl⟩) (zpreV zBlind_t hK hP hD [0, 1, 2, 3] [] rfl (by decide) rfl (fun _ _ _ => trivial) (va_recv (q := ("ZipGuard", F_G, 4)) hK hP rfl (q0 := 0) (ci := 0) rfl)) rfl rfl hl.1 rfl (lv_room (Nat.le_of_ble_eq_true rfl)) d_L_about_4 ⟨Nat.le_of_ble_eq_true rfl, Nat.le_of_ble_eq_true rfl⟩) hK hP hD hS hA [0, 1, 2, 3] [4] rfl rfl (by decide) (by decide) (fun r1 u H locs hp2 hP hD hK hS => ?_)
    have hP : va_P D zcl [(qz, .inl (cZ, 1, .inr (.inl g))), (h0, .inr (0, [.ref qt, .ref qd, .ref qa, .ref qu])), (qt, .inr (1, [.ref qb, .int n0])), (qd, .inr (2, [.ref qe, .int cn, .int 0, .int fp, .ref qt])), (qa, .inr (3, [.int bu, .int ra, .int to, .ref qo, .int rs]))] H := hP
    have hD : va_D A [(qz, .inl (cZ, 1, .inr (.inl g))), (h0, .inr (0, [.ref qt, .ref qd, .ref qa, .ref qu])), (qt, .inr (1, [.ref qb, .int n0])), (qd, .inr (2, [.ref qe, .int cn, .int 0, .int fp, .ref qt])), (qa, .inr (3, [.int bu, .int ra, .int to, .ref qo, .int rs]))] := hD
    have hK : va_K D zcl [(cZ, .long)] s := hK
    have hp2 := hp2.symm
    subst hp2
    have hP := hP.sub (ws' := [(qz, .inl (cZ, 1, .inr (.inl g)))]) [0] rfl
    have hD := hD.sub (ws' := [(qz, .inl (cZ, 1, .inr (.inl g)))]) [0] (by decide) rfl
    have hK := hK.sub (tys' := [(cZ, .long)]) [0] rfl
    refine lv_i2l hx hb d_L_about_7 rfl ?_
    refine va_last hx hb hK hP hD hS 0 0 rfl rfl (by unfold vp_in; decide) d_L_about_8 (fun H locs hP hD hS => ?_)
    have hP : va_P D zcl [(qz, .inl (cZ, 1, .inr (.inl (vp_updL g (0 : Int32).toNatClampNeg ra.toInt64))))] H := hP
    have hD : va_D A [(qz, .inl (cZ, 1, .inr (.inl (vp_updL g (0 : Int32).toNatClampNeg ra.toInt64))))] := hD
    refine lv_goto (tgt := 15) hx hb d_L_about_9 (by decide) ?_
    refine lv_iconst (v := 0) hx hb d_L_about_15 (by decide) ?_
    exact zreti hx hb hr hlk hK hP hD hS () [0] [0] rfl (by decide) rfl (rfl) (Nat.le_of_ble_eq_true rfl) (Nat.le_of_ble_eq_true rfl) d_L_about_16)
set_option maxHeartbeats 4000000 in
set_option maxRecDepth 100000 in
theorem c_L_abX (l : Launch) (D : va_G) (sz : Nat) (h0 : Nat) (qt : Nat) (qd : Nat) (qa : Nat) (qu : Nat) (n : Int32) (qz : Nat) (cZ : ClassId) (g : Nat → Int64) (hl9 : l.stackTraces = false) (hbad : n.toInt < 0 ∨ 4 < n.toInt) : Met l y_L_about (Cond.codeWith y_L_about method_12_code 4 (Option.some Jvm.ClassFile.FieldType.int) [((0 : Nat), (9 : Nat), (12 : Nat), (19 : Nat))] :: zt) { frames := 7, cells := 1, slots := 6, locals := 111 } (zPc [.ref h0, .int n, .ref qz] D [(h0, .inr (0, [.ref qt, .ref qd, .ref qa, .ref qu])), (qz, .inl (cZ, 1, .inr (.inl g)))] [(cZ, .long)] sz (zG)) (va_Qi (fun (r : Int32) => fun (_ : Unit) => r = 1) (fun u t => zB D ((fun (_ : Unit) => [(qz, .inl (cZ, 1, .inr (.inl g)))]) u) ((fun (_ : Unit) => [(cZ, .long)]) u) (va_A [(h0, .inr (0, [.ref qt, .ref qd, .ref qa, .ref qu])), (qz, .inl (cZ, 1, .inr (.inl g)))] sz) t) (va_A [(h0, .inr (0, [.ref qt, .ref qd, .ref qa, .ref qu])), (qz, .inl (cZ, 1, .inr (.inl g)))] sz)) 1 6 (va_A [(h0, .inr (0, [.ref qt, .ref qd, .ref qa, .ref qu])), (qz, .inl (cZ, 1, .inr (.inl g)))] sz) :=
  zMetW (Qf := fun A => va_Qi (fun (r : Int32) => fun (_ : Unit) => r = 1) (fun u t => zB D ((fun (_ : Unit) => [(qz, .inl (cZ, 1, .inr (.inl g)))]) u) ((fun (_ : Unit) => [(cZ, .long)]) u) A t) A) (by decide) (Nat.le_of_ble_eq_true rfl) (fun p e s m below meth c A ls hx hb hr hml hown ht hlk hex hA hK hP hD hX hl => by
    have hS : va_S A s.heap s.heap [] := va_S.rf
    have hl : lv_has ls 4 [(0, .ref h0), (1, .int n), (2, .ref qz)] := hl
    refine lv_aload_n hx hb d_L_about_0 rfl (lv_at hl 2 rfl) ?_
    refine lv_iconst (v := 0) hx hb d_L_about_1 (by decide) ?_
    refine lv_aload_n hx hb d_L_about_2 rfl (lv_at hl 0 rfl) ?_
    refine lv_iload_n hx hb d_L_about_3 rfl (lv_at hl 1 rfl) ?_
    obtain ⟨x9, suf9, hsp9, e91, e92, e93, e94⟩ := zexc hex
    refine zcallVT (As := [.int n]) (rest := [.int 0, .ref qz]) ⟨hx, hb, hml, hown, ht⟩ (c_G_abX l D _ h0 qt qd qa qu n hl9 hbad) (cwV 1 ht (zt_goodV zm_741 zm_742 zm_743 zm_65 zm_744) rfl rfl rfl (by decide +kernel) ⟨Nat.le_of_ble_eq_true rfl, Nat.le_of_ble_eq_true rfl⟩) (zpreV zBlind_G hK hP hD [0] [] rfl (by decide) rfl (fun U hU hW => zBlind_G s U hW.alike hU hX) (va_recv (q := ("ZipGuard", F_G, 4)) hK hP rfl (q0 := 0) (ci := 0) rfl)) rfl hl.1 (lv_room (Nat.le_of_ble_eq_true rfl)) d_L_about_4 ⟨Nat.le_of_ble_eq_true rfl, Nat.le_of_ble_eq_true rfl⟩ (fun q9 ce9 H9 z1 z2 z3 z4 z5 => ?_)
    refine zcatch hown x9 suf9 hsp9 (by simp [covers, e91, e92]) (by rw [e94]; decide) (by rw [e94]; exact ht _ zm_556) ((hX _).1 _ (by simp [zbadC])) z3 z4 z5 ?_
    rw [e93]
    have hP := hP.kept (H1 := H9) (fun k q hk => z2 _ ((hP k q hk).lt))
    have hS : va_S A s.heap H9 [] := ⟨Nat.le_trans hS.1 z1, fun q h1 h2 => (z2 q (Nat.lt_of_lt_of_le h1 hS.1)).trans (hS.2.1 q h1 h2), hS.2.2⟩
    refine lv_astore_n (lv' := [(3, .ref q9), (0, .ref h0), (1, .int n), (2, .ref qz)]) hx hb d_L_about_12 rfl hl (by decide) rfl (fun ls hl => ?_)
    refine lv_iconst (v := 1) hx hb d_L_about_13 (by decide) ?_
    exact zreti hx hb hr hlk hK hP hD hS () [1] [0] rfl (by decide) rfl (rfl) (Nat.le_of_ble_eq_true rfl) (Nat.le_of_ble_eq_true rfl) d_L_about_14)
