set_option maxRecDepth 100000 in
theorem zm_30 : Jvm.Cond.selects "ZipGuardModel" ({ cls := "ZipGuardModel", name := "fails", desc := "(ZI)Z" } : Jvm.MethodName) ({ cls := "ZipGuardModel", name := "fails", desc := "(ZI)Z" } : Jvm.MethodName) ∈ zt := zt_mp (List.mem_of_getElem? (i := 30) rfl)
set_option maxRecDepth 100000 in
theorem zm_31 : Jvm.Cond.selects "ZipGuardModel" ({ cls := "ZipGuardModel", name := "shut", desc := "()V" } : Jvm.MethodName) ({ cls := "ZipGuardModel", name := "shut", desc := "()V" } : Jvm.MethodName) ∈ zt := zt_mp (List.mem_of_getElem? (i := 31) rfl)
set_option maxRecDepth 100000 in
theorem zm_32 : Jvm.Cond.selects "ZipGuardModel" ({ cls := "ZipGuardModel", name := "judge", desc := "()I" } : Jvm.MethodName) ({ cls := "ZipGuardModel", name := "judge", desc := "()I" } : Jvm.MethodName) ∈ zt := zt_mp (List.mem_of_getElem? (i := 32) rfl)
set_option maxRecDepth 100000 in
theorem zm_33 : Jvm.Cond.selects "ZipGuardModel" ({ cls := "ZipGuardModel", name := "findEnd", desc := "()I" } : Jvm.MethodName) ({ cls := "ZipGuardModel", name := "findEnd", desc := "()I" } : Jvm.MethodName) ∈ zt := zt_mp (List.mem_of_getElem? (i := 33) rfl)
set_option maxRecDepth 100000 in
theorem zm_37 : Jvm.Cond.selects "ZipGuardModel" ({ cls := "ZipGuardModel", name := "stop", desc := "(IJ)I" } : Jvm.MethodName) ({ cls := "ZipGuardModel", name := "stop", desc := "(IJ)I" } : Jvm.MethodName) ∈ zt := zt_mp (List.mem_of_getElem? (i := 37) rfl)
set_option maxRecDepth 100000 in
theorem zm_79 : Jvm.Cond.initialized "ZipGuardModel" ∈ zt := zt_m1 (List.mem_of_getElem? (i := 15) rfl)
set_option maxRecDepth 100000 in
theorem zm_750 : Jvm.Cond.methodLink "ZipGuardModel" (1 : Nat) ({ cls := "java/lang/Object", name := "<init>", desc := "()V" } : Jvm.MethodName) ∈ zt := zt_m5 (List.mem_of_getElem? (i := 20) rfl)
set_option maxRecDepth 100000 in
theorem zm_751 : Jvm.Cond.constant "ZipGuardModel" (61 : Nat) (40000 : Int32) ∈ zt := zt_m5 (List.mem_of_getElem? (i := 21) rfl)
set_option maxRecDepth 100000 in
theorem zm_752 : Jvm.Cond.fieldLink "ZipGuardModel" (7 : Nat) "ZipGuardModel" "tape" "[B" ∈ zt := zt_m5 (List.mem_of_getElem? (i := 22) rfl)
set_option maxRecDepth 100000 in
theorem zm_753 : Jvm.Cond.fieldLink "ZipGuardModel" (90 : Nat) "ZipGuardModel" "length" "I" ∈ zt := zt_m5 (List.mem_of_getElem? (i := 23) rfl)
set_option maxRecDepth 100000 in
theorem zm_754 : Jvm.Cond.fieldLink "ZipGuardModel" (80 : Nat) "ZipGuardModel" "isOpen" "Z" ∈ zt := zt_m5 (List.mem_of_getElem? (i := 24) rfl)
set_option maxRecDepth 100000 in
theorem zm_755 : Jvm.Cond.fieldLink "ZipGuardModel" (13 : Nat) "ZipGuardModel" "faultPlace" "I" ∈ zt := zt_m5 (List.mem_of_getElem? (i := 25) rfl)
set_option maxRecDepth 100000 in
theorem zm_756 : Jvm.Cond.fieldLink "ZipGuardModel" (17 : Nat) "ZipGuardModel" "budget" "I" ∈ zt := zt_m5 (List.mem_of_getElem? (i := 26) rfl)
set_option maxRecDepth 100000 in
theorem zm_757 : Jvm.Cond.fieldLink "ZipGuardModel" (20 : Nat) "ZipGuardModel" "ratio" "I" ∈ zt := zt_m5 (List.mem_of_getElem? (i := 27) rfl)
set_option maxRecDepth 100000 in
theorem zm_758 : Jvm.Cond.fieldLink "ZipGuardModel" (84 : Nat) "ZipGuardModel" "entries" "I" ∈ zt := zt_m5 (List.mem_of_getElem? (i := 28) rfl)
set_option maxRecDepth 100000 in
theorem zm_759 : Jvm.Cond.fieldLink "ZipGuardModel" (23 : Nat) "ZipGuardModel" "methods" "[I" ∈ zt := zt_m5 (List.mem_of_getElem? (i := 29) rfl)
set_option maxRecDepth 100000 in
theorem zm_760 : Jvm.Cond.fieldLink "ZipGuardModel" (27 : Nat) "ZipGuardModel" "packed" "[J" ∈ zt := zt_m5 (List.mem_of_getElem? (i := 30) rfl)
set_option maxRecDepth 100000 in
theorem zm_761 : Jvm.Cond.fieldLink "ZipGuardModel" (31 : Nat) "ZipGuardModel" "sizes" "[J" ∈ zt := zt_m5 (List.mem_of_getElem? (i := 31) rfl)
set_option maxRecDepth 100000 in
theorem zm_762 : Jvm.Cond.fieldLink "ZipGuardModel" (34 : Nat) "ZipGuardModel" "sums" "[I" ∈ zt := zt_m5 (List.mem_of_getElem? (i := 32) rfl)
set_option maxRecDepth 100000 in
theorem zm_763 : Jvm.Cond.fieldLink "ZipGuardModel" (37 : Nat) "ZipGuardModel" "datas" "[I" ∈ zt := zt_m5 (List.mem_of_getElem? (i := 33) rfl)
set_option maxRecDepth 100000 in
theorem zm_764 : Jvm.Cond.fieldLink "ZipGuardModel" (40 : Nat) "ZipGuardModel" "locals" "[I" ∈ zt := zt_m5 (List.mem_of_getElem? (i := 34) rfl)
set_option maxRecDepth 100000 in
theorem zm_765 : Jvm.Cond.fieldLink "ZipGuardModel" (43 : Nat) "ZipGuardModel" "localEnds" "[I" ∈ zt := zt_m5 (List.mem_of_getElem? (i := 35) rfl)
set_option maxRecDepth 100000 in
theorem zm_766 : Jvm.Cond.fieldLink "ZipGuardModel" (46 : Nat) "ZipGuardModel" "names" "[B" ∈ zt := zt_m5 (List.mem_of_getElem? (i := 36) rfl)
set_option maxRecDepth 100000 in
theorem zm_767 : Jvm.Cond.fieldLink "ZipGuardModel" (49 : Nat) "ZipGuardModel" "nameSizes" "[I" ∈ zt := zt_m5 (List.mem_of_getElem? (i := 37) rfl)
set_option maxRecDepth 100000 in
theorem zm_768 : Jvm.Cond.fieldLink "ZipGuardModel" (52 : Nat) "ZipGuardModel" "states" "[I" ∈ zt := zt_m5 (List.mem_of_getElem? (i := 38) rfl)
set_option maxRecDepth 100000 in
theorem zm_769 : Jvm.Cond.fieldLink "ZipGuardModel" (55 : Nat) "ZipGuardModel" "starts" "[I" ∈ zt := zt_m5 (List.mem_of_getElem? (i := 39) rfl)
set_option maxRecDepth 100000 in
theorem zm_770 : Jvm.Cond.fieldLink "ZipGuardModel" (58 : Nat) "ZipGuardModel" "counts" "[I" ∈ zt := zt_m5 (List.mem_of_getElem? (i := 40) rfl)
set_option maxRecDepth 100000 in
theorem zm_771 : Jvm.Cond.fieldLink "ZipGuardModel" (62 : Nat) "ZipGuardModel" "written" "[B" ∈ zt := zt_m5 (List.mem_of_getElem? (i := 41) rfl)
set_option maxRecDepth 100000 in
theorem zm_772 : Jvm.Cond.fieldLink "ZipGuardModel" (87 : Nat) "ZipGuardModel" "total" "I" ∈ zt := zt_m5 (List.mem_of_getElem? (i := 42) rfl)
set_option maxRecDepth 100000 in
theorem zm_776 : Jvm.Cond.fieldLink "ZipGuardModel" (65 : Nat) "ZipGuardModel" "lengths" "[I" ∈ zt := zt_m5 (List.mem_of_getElem? (i := 46) rfl)
set_option maxRecDepth 100000 in
theorem zm_777 : Jvm.Cond.fieldLink "ZipGuardModel" (68 : Nat) "ZipGuardModel" "small" "[I" ∈ zt := zt_m5 (List.mem_of_getElem? (i := 47) rfl)
set_option maxRecDepth 100000 in
theorem zm_778 : Jvm.Cond.fieldLink "ZipGuardModel" (71 : Nat) "ZipGuardModel" "codes" "[I" ∈ zt := zt_m5 (List.mem_of_getElem? (i := 48) rfl)
set_option maxRecDepth 100000 in
theorem zm_779 : Jvm.Cond.fieldLink "ZipGuardModel" (74 : Nat) "ZipGuardModel" "smallCodes" "[I" ∈ zt := zt_m5 (List.mem_of_getElem? (i := 49) rfl)
set_option maxRecDepth 100000 in
theorem zm_782 : Jvm.Cond.fieldLink "ZipGuardModel" (77 : Nat) "ZipGuardModel" "thrown" "I" ∈ zt := zt_m5 (List.mem_of_getElem? (i := 52) rfl)
set_option maxRecDepth 100000 in
theorem zm_846 : Jvm.Cond.arrayClass Jvm.ClassFile.FieldType.long ∈ zt := zt_m5 (List.mem_of_getElem? (i := 116) rfl)
set_option maxRecDepth 100000 in
theorem zm_855 : Jvm.Cond.methodLink "ZipGuardModel" (93 : Nat) ({ cls := "ZipGuardModel", name := "fails", desc := "(ZI)Z" } : Jvm.MethodName) ∈ zt := zt_m5 (List.mem_of_getElem? (i := 125) rfl)
set_option maxRecDepth 100000 in
theorem zm_856 : Jvm.Cond.instanceMethod ({ cls := "ZipGuardModel", name := "fails", desc := "(ZI)Z" } : Jvm.MethodName) ∈ zt := zt_m5 (List.mem_of_getElem? (i := 126) rfl)
set_option maxRecDepth 100000 in
theorem zm_857 : Jvm.Cond.code ({ cls := "ZipGuardModel", name := "fails", desc := "(ZI)Z" } : Jvm.MethodName) prog_10_method_3_code (3 : Nat) (Option.some Jvm.ClassFile.FieldType.boolean) ∈ zt := zt_m5 (List.mem_of_getElem? (i := 127) rfl)
set_option maxRecDepth 100000 in
theorem zm_858 : Jvm.Cond.methodLink "ZipGuardModel" (97 : Nat) ({ cls := "ZipGuardModel", name := "shut", desc := "()V" } : Jvm.MethodName) ∈ zt := zt_m5 (List.mem_of_getElem? (i := 128) rfl)
set_option maxRecDepth 100000 in
theorem zm_859 : Jvm.Cond.instanceMethod ({ cls := "ZipGuardModel", name := "shut", desc := "()V" } : Jvm.MethodName) ∈ zt := zt_m5 (List.mem_of_getElem? (i := 129) rfl)
set_option maxRecDepth 100000 in
theorem zm_860 : Jvm.Cond.code ({ cls := "ZipGuardModel", name := "shut", desc := "()V" } : Jvm.MethodName) prog_10_method_4_code (1 : Nat) (Option.none : Option Jvm.ClassFile.FieldType) ∈ zt := zt_m5 (List.mem_of_getElem? (i := 130) rfl)
set_option maxRecDepth 100000 in
theorem zm_873 : Jvm.Cond.methodLink "ZipGuardModel" (193 : Nat) ({ cls := "ZipGuardModel", name := "judge", desc := "()I" } : Jvm.MethodName) ∈ zt := zt_m5 (List.mem_of_getElem? (i := 143) rfl)
set_option maxRecDepth 100000 in
theorem zm_874 : Jvm.Cond.instanceMethod ({ cls := "ZipGuardModel", name := "judge", desc := "()I" } : Jvm.MethodName) ∈ zt := zt_m5 (List.mem_of_getElem? (i := 144) rfl)
set_option maxRecDepth 100000 in
theorem zm_875 : Jvm.Cond.code ({ cls := "ZipGuardModel", name := "judge", desc := "()I" } : Jvm.MethodName) prog_10_method_24_code (14 : Nat) (Option.some Jvm.ClassFile.FieldType.int) ∈ zt := zt_m5 (List.mem_of_getElem? (i := 145) rfl)
set_option maxRecDepth 100000 in
theorem zm_876 : Jvm.Cond.methodLink "ZipGuardModel" (166 : Nat) ({ cls := "ZipGuardModel", name := "findEnd", desc := "()I" } : Jvm.MethodName) ∈ zt := zt_m5 (List.mem_of_getElem? (i := 146) rfl)
set_option maxRecDepth 100000 in
theorem zm_877 : Jvm.Cond.instanceMethod ({ cls := "ZipGuardModel", name := "findEnd", desc := "()I" } : Jvm.MethodName) ∈ zt := zt_m5 (List.mem_of_getElem? (i := 147) rfl)
set_option maxRecDepth 100000 in
theorem zm_878 : Jvm.Cond.code ({ cls := "ZipGuardModel", name := "findEnd", desc := "()I" } : Jvm.MethodName) prog_10_method_13_code (2 : Nat) (Option.some Jvm.ClassFile.FieldType.int) ∈ zt := zt_m5 (List.mem_of_getElem? (i := 148) rfl)
set_option maxRecDepth 100000 in
theorem zm_890 : Jvm.Cond.methodLink "ZipGuardModel" (170 : Nat) ({ cls := "ZipGuardModel", name := "stop", desc := "(IJ)I" } : Jvm.MethodName) ∈ zt := zt_m5 (List.mem_of_getElem? (i := 160) rfl)
set_option maxRecDepth 100000 in
theorem zm_891 : Jvm.Cond.instanceMethod ({ cls := "ZipGuardModel", name := "stop", desc := "(IJ)I" } : Jvm.MethodName) ∈ zt := zt_m5 (List.mem_of_getElem? (i := 161) rfl)
set_option maxRecDepth 100000 in
theorem zm_892 : Jvm.Cond.code ({ cls := "ZipGuardModel", name := "stop", desc := "(IJ)I" } : Jvm.MethodName) prog_10_method_12_code (4 : Nat) (Option.some Jvm.ClassFile.FieldType.int) ∈ zt := zt_m5 (List.mem_of_getElem? (i := 162) rfl)
theorem d_M_about_0 : decode prog_10_method_52_code 0 = .ok (.aload_n 0, 1) := by decide +kernel
theorem d_M_about_1 : decode prog_10_method_52_code 1 = .ok (.iload_n 1, 1) := by decide +kernel
theorem d_M_about_2 : decode prog_10_method_52_code 2 = .ok (.ifCond .lt 8, 3) := by decide +kernel
theorem d_M_about_5 : decode prog_10_method_52_code 5 = .ok (.iload_n 1, 1) := by decide +kernel
theorem d_M_about_6 : decode prog_10_method_52_code 6 = .ok (.iconst 4, 1) := by decide +kernel
theorem d_M_about_7 : decode prog_10_method_52_code 7 = .ok (.if_icmp .le 7, 3) := by decide +kernel
theorem d_M_about_10 : decode prog_10_method_52_code 10 = .ok (.iconst 1, 1) := by decide +kernel
theorem d_M_about_11 : decode prog_10_method_52_code 11 = .ok (.goto 4, 3) := by decide +kernel
theorem d_M_about_14 : decode prog_10_method_52_code 14 = .ok (.iconst 0, 1) := by decide +kernel
theorem d_M_about_15 : decode prog_10_method_52_code 15 = .ok (.iconst 1, 1) := by decide +kernel
theorem d_M_about_16 : decode prog_10_method_52_code 16 = .ok (.invokevirtual 93, 3) := by decide +kernel
theorem d_M_about_19 : decode prog_10_method_52_code 19 = .ok (.ifCond .eq 5, 3) := by decide +kernel
theorem d_M_about_22 : decode prog_10_method_52_code 22 = .ok (.iconst 0, 1) := by decide +kernel
theorem d_M_about_23 : decode prog_10_method_52_code 23 = .ok (.ireturn, 1) := by decide +kernel
theorem d_M_about_24 : decode prog_10_method_52_code 24 = .ok (.iload_n 1, 1) := by decide +kernel
theorem d_M_about_25 : decode prog_10_method_52_code 25 = .ok (.ifCond .ne 10, 3) := by decide +kernel
theorem d_M_about_28 : decode prog_10_method_52_code 28 = .ok (.aload_n 0, 1) := by decide +kernel
theorem d_M_about_29 : decode prog_10_method_52_code 29 = .ok (.getfield 90, 3) := by decide +kernel
theorem d_M_about_32 : decode prog_10_method_52_code 32 = .ok (.goto 43, 3) := by decide +kernel
theorem d_M_about_35 : decode prog_10_method_52_code 35 = .ok (.iload_n 1, 1) := by decide +kernel
theorem d_M_about_36 : decode prog_10_method_52_code 36 = .ok (.iconst 1, 1) := by decide +kernel
theorem d_M_about_37 : decode prog_10_method_52_code 37 = .ok (.if_icmp .ne 10, 3) := by decide +kernel
theorem d_M_about_40 : decode prog_10_method_52_code 40 = .ok (.aload_n 0, 1) := by decide +kernel
theorem d_M_about_41 : decode prog_10_method_52_code 41 = .ok (.getfield 84, 3) := by decide +kernel
theorem d_M_about_44 : decode prog_10_method_52_code 44 = .ok (.goto 31, 3) := by decide +kernel
theorem d_M_about_47 : decode prog_10_method_52_code 47 = .ok (.iload_n 1, 1) := by decide +kernel
theorem d_M_about_48 : decode prog_10_method_52_code 48 = .ok (.iconst 2, 1) := by decide +kernel
theorem d_M_about_49 : decode prog_10_method_52_code 49 = .ok (.if_icmp .ne 10, 3) := by decide +kernel
theorem d_M_about_52 : decode prog_10_method_52_code 52 = .ok (.aload_n 0, 1) := by decide +kernel
theorem d_M_about_53 : decode prog_10_method_52_code 53 = .ok (.getfield 87, 3) := by decide +kernel
theorem d_M_about_56 : decode prog_10_method_52_code 56 = .ok (.goto 19, 3) := by decide +kernel
theorem d_M_about_59 : decode prog_10_method_52_code 59 = .ok (.iload_n 1, 1) := by decide +kernel
theorem d_M_about_60 : decode prog_10_method_52_code 60 = .ok (.iconst 3, 1) := by decide +kernel
theorem d_M_about_61 : decode prog_10_method_52_code 61 = .ok (.if_icmp .ne 10, 3) := by decide +kernel
theorem d_M_about_64 : decode prog_10_method_52_code 64 = .ok (.aload_n 0, 1) := by decide +kernel
theorem d_M_about_65 : decode prog_10_method_52_code 65 = .ok (.getfield 17, 3) := by decide +kernel
theorem d_M_about_68 : decode prog_10_method_52_code 68 = .ok (.goto 7, 3) := by decide +kernel
theorem d_M_about_71 : decode prog_10_method_52_code 71 = .ok (.aload_n 0, 1) := by decide +kernel
theorem d_M_about_72 : decode prog_10_method_52_code 72 = .ok (.getfield 20, 3) := by decide +kernel
theorem d_M_about_75 : decode prog_10_method_52_code 75 = .ok (.ireturn, 1) := by decide +kernel
theorem d_M_alter_0 : decode prog_10_method_7_code 0 = .ok (.aload_n 0, 1) := by decide +kernel
theorem d_M_alter_1 : decode prog_10_method_7_code 1 = .ok (.iload_n 1, 1) := by decide +kernel
theorem d_M_alter_2 : decode prog_10_method_7_code 2 = .ok (.ifCond .lt 11, 3) := by decide +kernel
theorem d_M_alter_5 : decode prog_10_method_7_code 5 = .ok (.iload_n 1, 1) := by decide +kernel
theorem d_M_alter_6 : decode prog_10_method_7_code 6 = .ok (.aload_n 0, 1) := by decide +kernel
theorem d_M_alter_7 : decode prog_10_method_7_code 7 = .ok (.getfield 90, 3) := by decide +kernel
theorem d_M_alter_10 : decode prog_10_method_7_code 10 = .ok (.if_icmp .lt 7, 3) := by decide +kernel
theorem d_M_alter_13 : decode prog_10_method_7_code 13 = .ok (.iconst 1, 1) := by decide +kernel
theorem d_M_alter_14 : decode prog_10_method_7_code 14 = .ok (.goto 4, 3) := by decide +kernel
theorem d_M_alter_18 : decode prog_10_method_7_code 18 = .ok (.iconst 1, 1) := by decide +kernel
theorem d_M_alter_19 : decode prog_10_method_7_code 19 = .ok (.invokevirtual 93, 3) := by decide +kernel
theorem d_M_alter_22 : decode prog_10_method_7_code 22 = .ok (.ifCond .eq 5, 3) := by decide +kernel
theorem d_M_alter_25 : decode prog_10_method_7_code 25 = .ok (.iconst 0, 1) := by decide +kernel
theorem d_M_alter_26 : decode prog_10_method_7_code 26 = .ok (.ireturn, 1) := by decide +kernel
theorem d_M_end_0 : decode prog_10_method_6_code 0 = .ok (.aload_n 0, 1) := by decide +kernel
theorem d_M_end_1 : decode prog_10_method_6_code 1 = .ok (.iload_n 1, 1) := by decide +kernel
theorem d_M_end_2 : decode prog_10_method_6_code 2 = .ok (.ifCond .lt 11, 3) := by decide +kernel
theorem d_M_end_5 : decode prog_10_method_6_code 5 = .ok (.iload_n 1, 1) := by decide +kernel
theorem d_M_end_6 : decode prog_10_method_6_code 6 = .ok (.aload_n 0, 1) := by decide +kernel
theorem d_M_end_7 : decode prog_10_method_6_code 7 = .ok (.getfield 90, 3) := by decide +kernel
theorem d_M_end_10 : decode prog_10_method_6_code 10 = .ok (.if_icmp .le 7, 3) := by decide +kernel
theorem d_M_end_13 : decode prog_10_method_6_code 13 = .ok (.iconst 1, 1) := by decide +kernel
theorem d_M_end_14 : decode prog_10_method_6_code 14 = .ok (.goto 4, 3) := by decide +kernel
theorem d_M_end_17 : decode prog_10_method_6_code 17 = .ok (.iconst 0, 1) := by decide +kernel
theorem d_M_end_18 : decode prog_10_method_6_code 18 = .ok (.iconst 1, 1) := by decide +kernel
theorem d_M_end_19 : decode prog_10_method_6_code 19 = .ok (.invokevirtual 93, 3) := by decide +kernel
theorem d_M_end_22 : decode prog_10_method_6_code 22 = .ok (.ifCond .eq 4, 3) := by decide +kernel
theorem d_M_end_25 : decode prog_10_method_6_code 25 = .ok (.return_, 1) := by decide +kernel
theorem d_M_end_26 : decode prog_10_method_6_code 26 = .ok (.aload_n 0, 1) := by decide +kernel
theorem d_M_end_27 : decode prog_10_method_6_code 27 = .ok (.iload_n 1, 1) := by decide +kernel
theorem d_M_end_28 : decode prog_10_method_6_code 28 = .ok (.putfield 90, 3) := by decide +kernel
theorem d_M_end_31 : decode prog_10_method_6_code 31 = .ok (.aload_n 0, 1) := by decide +kernel
theorem d_M_end_32 : decode prog_10_method_6_code 32 = .ok (.invokevirtual 97, 3) := by decide +kernel
theorem d_M_end_35 : decode prog_10_method_6_code 35 = .ok (.return_, 1) := by decide +kernel
theorem d_M_entry_0 : decode prog_10_method_49_code 0 = .ok (.aload_n 0, 1) := by decide +kernel
theorem d_M_entry_1 : decode prog_10_method_49_code 1 = .ok (.aload_n 0, 1) := by decide +kernel
theorem d_M_entry_2 : decode prog_10_method_49_code 2 = .ok (.getfield 80, 3) := by decide +kernel
theorem d_M_entry_5 : decode prog_10_method_49_code 5 = .ok (.ifCond .ne 7, 3) := by decide +kernel
theorem d_M_entry_8 : decode prog_10_method_49_code 8 = .ok (.iconst 1, 1) := by decide +kernel
theorem d_M_entry_9 : decode prog_10_method_49_code 9 = .ok (.goto 4, 3) := by decide +kernel
theorem d_M_entry_13 : decode prog_10_method_49_code 13 = .ok (.iconst 1, 1) := by decide +kernel
theorem d_M_entry_14 : decode prog_10_method_49_code 14 = .ok (.invokevirtual 93, 3) := by decide +kernel
theorem d_M_entry_17 : decode prog_10_method_49_code 17 = .ok (.ifCond .ne 47, 3) := by decide +kernel
theorem d_M_entry_64 : decode prog_10_method_49_code 64 = .ok (.iconst 0, 1) := by decide +kernel
theorem d_M_entry_65 : decode prog_10_method_49_code 65 = .ok (.ireturn, 1) := by decide +kernel
theorem d_M_fails_0 : decode prog_10_method_3_code 0 = .ok (.aload_n 0, 1) := by decide +kernel
theorem d_M_fails_1 : decode prog_10_method_3_code 1 = .ok (.iload_n 1, 1) := by decide +kernel
theorem d_M_fails_2 : decode prog_10_method_3_code 2 = .ok (.ifCond .eq 7, 3) := by decide +kernel
theorem d_M_fails_5 : decode prog_10_method_3_code 5 = .ok (.iload_n 2, 1) := by decide +kernel
theorem d_M_fails_6 : decode prog_10_method_3_code 6 = .ok (.goto 4, 3) := by decide +kernel
theorem d_M_fails_9 : decode prog_10_method_3_code 9 = .ok (.iconst 0, 1) := by decide +kernel
theorem d_M_fails_10 : decode prog_10_method_3_code 10 = .ok (.putfield 77, 3) := by decide +kernel
theorem d_M_fails_13 : decode prog_10_method_3_code 13 = .ok (.iload_n 1, 1) := by decide +kernel
theorem d_M_fails_14 : decode prog_10_method_3_code 14 = .ok (.ireturn, 1) := by decide +kernel
theorem d_M_feed_0 : decode prog_10_method_5_code 0 = .ok (.aload_n 0, 1) := by decide +kernel
theorem d_M_feed_1 : decode prog_10_method_5_code 1 = .ok (.aload_n 0, 1) := by decide +kernel
theorem d_M_feed_2 : decode prog_10_method_5_code 2 = .ok (.getfield 90, 3) := by decide +kernel
theorem d_M_feed_5 : decode prog_10_method_5_code 5 = .ok (.bipush 20, 2) := by decide +kernel
theorem d_M_feed_7 : decode prog_10_method_5_code 7 = .ok (.iadd, 1) := by decide +kernel
theorem d_M_feed_8 : decode prog_10_method_5_code 8 = .ok (.sipush 20000, 3) := by decide +kernel
theorem d_M_feed_11 : decode prog_10_method_5_code 11 = .ok (.if_icmp .le 7, 3) := by decide +kernel
theorem d_M_feed_18 : decode prog_10_method_5_code 18 = .ok (.iconst 0, 1) := by decide +kernel
theorem d_M_feed_19 : decode prog_10_method_5_code 19 = .ok (.iconst 1, 1) := by decide +kernel
theorem d_M_feed_20 : decode prog_10_method_5_code 20 = .ok (.invokevirtual 93, 3) := by decide +kernel
theorem d_M_feed_23 : decode prog_10_method_5_code 23 = .ok (.ifCond .eq 5, 3) := by decide +kernel
theorem d_M_feed_28 : decode prog_10_method_5_code 28 = .ok (.iconst 0, 1) := by decide +kernel
theorem d_M_feed_29 : decode prog_10_method_5_code 29 = .ok (.istore 6, 2) := by decide +kernel
theorem d_M_feed_31 : decode prog_10_method_5_code 31 = .ok (.iload 6, 2) := by decide +kernel
theorem d_M_feed_33 : decode prog_10_method_5_code 33 = .ok (.bipush 20, 2) := by decide +kernel
theorem d_M_feed_35 : decode prog_10_method_5_code 35 = .ok (.if_icmp .ge 83, 3) := by decide +kernel
theorem d_M_feed_38 : decode prog_10_method_5_code 38 = .ok (.iload 6, 2) := by decide +kernel
theorem d_M_feed_40 : decode prog_10_method_5_code 40 = .ok (.iconst 4, 1) := by decide +kernel
theorem d_M_feed_41 : decode prog_10_method_5_code 41 = .ok (.if_icmp .ge 7, 3) := by decide +kernel
theorem d_M_feed_44 : decode prog_10_method_5_code 44 = .ok (.iload_n 1, 1) := by decide +kernel
theorem d_M_feed_45 : decode prog_10_method_5_code 45 = .ok (.goto 39, 3) := by decide +kernel
theorem d_M_feed_48 : decode prog_10_method_5_code 48 = .ok (.iload 6, 2) := by decide +kernel
theorem d_M_feed_50 : decode prog_10_method_5_code 50 = .ok (.bipush 8, 2) := by decide +kernel
theorem d_M_feed_52 : decode prog_10_method_5_code 52 = .ok (.if_icmp .ge 7, 3) := by decide +kernel
theorem d_M_feed_55 : decode prog_10_method_5_code 55 = .ok (.iload_n 2, 1) := by decide +kernel
theorem d_M_feed_56 : decode prog_10_method_5_code 56 = .ok (.goto 28, 3) := by decide +kernel
theorem d_M_feed_59 : decode prog_10_method_5_code 59 = .ok (.iload 6, 2) := by decide +kernel
theorem d_M_feed_61 : decode prog_10_method_5_code 61 = .ok (.bipush 12, 2) := by decide +kernel
theorem d_M_feed_63 : decode prog_10_method_5_code 63 = .ok (.if_icmp .ge 7, 3) := by decide +kernel
theorem d_M_feed_66 : decode prog_10_method_5_code 66 = .ok (.iload_n 3, 1) := by decide +kernel
theorem d_M_feed_67 : decode prog_10_method_5_code 67 = .ok (.goto 17, 3) := by decide +kernel
theorem d_M_feed_70 : decode prog_10_method_5_code 70 = .ok (.iload 6, 2) := by decide +kernel
theorem d_M_feed_72 : decode prog_10_method_5_code 72 = .ok (.bipush 16, 2) := by decide +kernel
theorem d_M_feed_74 : decode prog_10_method_5_code 74 = .ok (.if_icmp .ge 8, 3) := by decide +kernel
theorem d_M_feed_77 : decode prog_10_method_5_code 77 = .ok (.iload 4, 2) := by decide +kernel
theorem d_M_feed_79 : decode prog_10_method_5_code 79 = .ok (.goto 5, 3) := by decide +kernel
theorem d_M_feed_82 : decode prog_10_method_5_code 82 = .ok (.iload 5, 2) := by decide +kernel
theorem d_M_feed_84 : decode prog_10_method_5_code 84 = .ok (.istore 7, 2) := by decide +kernel
theorem d_M_feed_86 : decode prog_10_method_5_code 86 = .ok (.aload_n 0, 1) := by decide +kernel
theorem d_M_feed_87 : decode prog_10_method_5_code 87 = .ok (.getfield 7, 3) := by decide +kernel
theorem d_M_feed_90 : decode prog_10_method_5_code 90 = .ok (.aload_n 0, 1) := by decide +kernel
theorem d_M_feed_91 : decode prog_10_method_5_code 91 = .ok (.getfield 90, 3) := by decide +kernel
theorem d_M_feed_94 : decode prog_10_method_5_code 94 = .ok (.iload 6, 2) := by decide +kernel
theorem d_M_feed_96 : decode prog_10_method_5_code 96 = .ok (.iadd, 1) := by decide +kernel
theorem d_M_feed_97 : decode prog_10_method_5_code 97 = .ok (.iload 7, 2) := by decide +kernel
theorem d_M_feed_99 : decode prog_10_method_5_code 99 = .ok (.bipush 24, 2) := by decide +kernel
theorem d_M_feed_101 : decode prog_10_method_5_code 101 = .ok (.bipush 8, 2) := by decide +kernel
theorem d_M_feed_103 : decode prog_10_method_5_code 103 = .ok (.iload 6, 2) := by decide +kernel
theorem d_M_feed_105 : decode prog_10_method_5_code 105 = .ok (.iconst 4, 1) := by decide +kernel
theorem d_M_feed_106 : decode prog_10_method_5_code 106 = .ok (.irem, 1) := by decide +kernel
theorem d_M_feed_107 : decode prog_10_method_5_code 107 = .ok (.imul, 1) := by decide +kernel
theorem d_M_feed_108 : decode prog_10_method_5_code 108 = .ok (.isub, 1) := by decide +kernel
theorem d_M_feed_109 : decode prog_10_method_5_code 109 = .ok (.ishr, 1) := by decide +kernel
theorem d_M_feed_110 : decode prog_10_method_5_code 110 = .ok (.i2b, 1) := by decide +kernel
theorem d_M_feed_111 : decode prog_10_method_5_code 111 = .ok (.bastore, 1) := by decide +kernel
theorem d_M_feed_112 : decode prog_10_method_5_code 112 = .ok (.iinc 6 1, 3) := by decide +kernel
theorem d_M_feed_115 : decode prog_10_method_5_code 115 = .ok (.goto (-84), 3) := by decide +kernel
theorem d_M_feed_118 : decode prog_10_method_5_code 118 = .ok (.aload_n 0, 1) := by decide +kernel
theorem d_M_feed_119 : decode prog_10_method_5_code 119 = .ok (.dup, 1) := by decide +kernel
theorem d_M_feed_120 : decode prog_10_method_5_code 120 = .ok (.getfield 90, 3) := by decide +kernel
theorem d_M_feed_123 : decode prog_10_method_5_code 123 = .ok (.bipush 20, 2) := by decide +kernel
theorem d_M_feed_125 : decode prog_10_method_5_code 125 = .ok (.iadd, 1) := by decide +kernel
theorem d_M_feed_126 : decode prog_10_method_5_code 126 = .ok (.putfield 90, 3) := by decide +kernel
theorem d_M_feed_129 : decode prog_10_method_5_code 129 = .ok (.aload_n 0, 1) := by decide +kernel
theorem d_M_feed_130 : decode prog_10_method_5_code 130 = .ok (.invokevirtual 97, 3) := by decide +kernel
theorem d_M_feed_133 : decode prog_10_method_5_code 133 = .ok (.aload_n 0, 1) := by decide +kernel
theorem d_M_feed_134 : decode prog_10_method_5_code 134 = .ok (.getfield 90, 3) := by decide +kernel
theorem d_M_feed_137 : decode prog_10_method_5_code 137 = .ok (.ireturn, 1) := by decide +kernel
theorem d_M_findEnd_0 : decode prog_10_method_13_code 0 = .ok (.aload_n 0, 1) := by decide +kernel
theorem d_M_findEnd_1 : decode prog_10_method_13_code 1 = .ok (.getfield 90, 3) := by decide +kernel
theorem d_M_findEnd_4 : decode prog_10_method_13_code 4 = .ok (.bipush 22, 2) := by decide +kernel
theorem d_M_findEnd_6 : decode prog_10_method_13_code 6 = .ok (.isub, 1) := by decide +kernel
theorem d_M_findEnd_7 : decode prog_10_method_13_code 7 = .ok (.istore_n 1, 1) := by decide +kernel
theorem d_M_findEnd_8 : decode prog_10_method_13_code 8 = .ok (.iload_n 1, 1) := by decide +kernel
theorem d_M_findEnd_9 : decode prog_10_method_13_code 9 = .ok (.ifCond .lt 44, 3) := by decide +kernel
theorem d_M_findEnd_53 : decode prog_10_method_13_code 53 = .ok (.iconst (-1), 1) := by decide +kernel
theorem d_M_findEnd_54 : decode prog_10_method_13_code 54 = .ok (.ireturn, 1) := by decide +kernel
theorem d_M_init_0 : decode prog_10_method_1_code 0 = .ok (.aload_n 0, 1) := by decide +kernel
theorem d_M_init_1 : decode prog_10_method_1_code 1 = .ok (.invokespecial 1, 3) := by decide +kernel
theorem d_M_init_4 : decode prog_10_method_1_code 4 = .ok (.aload_n 0, 1) := by decide +kernel
theorem d_M_init_5 : decode prog_10_method_1_code 5 = .ok (.sipush 20000, 3) := by decide +kernel
theorem d_M_init_8 : decode prog_10_method_1_code 8 = .ok (.newarray .byte, 2) := by decide +kernel
theorem d_M_init_10 : decode prog_10_method_1_code 10 = .ok (.putfield 7, 3) := by decide +kernel
theorem d_M_init_13 : decode prog_10_method_1_code 13 = .ok (.aload_n 0, 1) := by decide +kernel
theorem d_M_init_14 : decode prog_10_method_1_code 14 = .ok (.iconst (-1), 1) := by decide +kernel
theorem d_M_init_15 : decode prog_10_method_1_code 15 = .ok (.putfield 13, 3) := by decide +kernel
theorem d_M_init_18 : decode prog_10_method_1_code 18 = .ok (.aload_n 0, 1) := by decide +kernel
theorem d_M_init_19 : decode prog_10_method_1_code 19 = .ok (.sipush 20000, 3) := by decide +kernel
theorem d_M_init_22 : decode prog_10_method_1_code 22 = .ok (.putfield 17, 3) := by decide +kernel
theorem d_M_init_25 : decode prog_10_method_1_code 25 = .ok (.aload_n 0, 1) := by decide +kernel
theorem d_M_init_26 : decode prog_10_method_1_code 26 = .ok (.bipush 100, 2) := by decide +kernel
theorem d_M_init_28 : decode prog_10_method_1_code 28 = .ok (.putfield 20, 3) := by decide +kernel
theorem d_M_init_31 : decode prog_10_method_1_code 31 = .ok (.aload_n 0, 1) := by decide +kernel
theorem d_M_init_32 : decode prog_10_method_1_code 32 = .ok (.bipush 64, 2) := by decide +kernel
theorem d_M_init_34 : decode prog_10_method_1_code 34 = .ok (.newarray .int, 2) := by decide +kernel
theorem d_M_init_36 : decode prog_10_method_1_code 36 = .ok (.putfield 23, 3) := by decide +kernel
theorem d_M_init_39 : decode prog_10_method_1_code 39 = .ok (.aload_n 0, 1) := by decide +kernel
theorem d_M_init_40 : decode prog_10_method_1_code 40 = .ok (.bipush 64, 2) := by decide +kernel
theorem d_M_init_42 : decode prog_10_method_1_code 42 = .ok (.newarray .long, 2) := by decide +kernel
theorem d_M_init_44 : decode prog_10_method_1_code 44 = .ok (.putfield 27, 3) := by decide +kernel
theorem d_M_init_47 : decode prog_10_method_1_code 47 = .ok (.aload_n 0, 1) := by decide +kernel
theorem d_M_init_48 : decode prog_10_method_1_code 48 = .ok (.bipush 64, 2) := by decide +kernel
theorem d_M_init_50 : decode prog_10_method_1_code 50 = .ok (.newarray .long, 2) := by decide +kernel
theorem d_M_init_52 : decode prog_10_method_1_code 52 = .ok (.putfield 31, 3) := by decide +kernel
theorem d_M_init_55 : decode prog_10_method_1_code 55 = .ok (.aload_n 0, 1) := by decide +kernel
theorem d_M_init_56 : decode prog_10_method_1_code 56 = .ok (.bipush 64, 2) := by decide +kernel
theorem d_M_init_58 : decode prog_10_method_1_code 58 = .ok (.newarray .int, 2) := by decide +kernel
theorem d_M_init_60 : decode prog_10_method_1_code 60 = .ok (.putfield 34, 3) := by decide +kernel
theorem d_M_init_63 : decode prog_10_method_1_code 63 = .ok (.aload_n 0, 1) := by decide +kernel
theorem d_M_init_64 : decode prog_10_method_1_code 64 = .ok (.bipush 64, 2) := by decide +kernel
theorem d_M_init_66 : decode prog_10_method_1_code 66 = .ok (.newarray .int, 2) := by decide +kernel
theorem d_M_init_68 : decode prog_10_method_1_code 68 = .ok (.putfield 37, 3) := by decide +kernel
theorem d_M_init_71 : decode prog_10_method_1_code 71 = .ok (.aload_n 0, 1) := by decide +kernel
theorem d_M_init_72 : decode prog_10_method_1_code 72 = .ok (.bipush 64, 2) := by decide +kernel
theorem d_M_init_74 : decode prog_10_method_1_code 74 = .ok (.newarray .int, 2) := by decide +kernel
theorem d_M_init_76 : decode prog_10_method_1_code 76 = .ok (.putfield 40, 3) := by decide +kernel
theorem d_M_init_79 : decode prog_10_method_1_code 79 = .ok (.aload_n 0, 1) := by decide +kernel
theorem d_M_init_80 : decode prog_10_method_1_code 80 = .ok (.bipush 64, 2) := by decide +kernel
theorem d_M_init_82 : decode prog_10_method_1_code 82 = .ok (.newarray .int, 2) := by decide +kernel
theorem d_M_init_84 : decode prog_10_method_1_code 84 = .ok (.putfield 43, 3) := by decide +kernel
theorem d_M_init_87 : decode prog_10_method_1_code 87 = .ok (.aload_n 0, 1) := by decide +kernel
theorem d_M_init_88 : decode prog_10_method_1_code 88 = .ok (.sipush 3840, 3) := by decide +kernel
theorem d_M_init_91 : decode prog_10_method_1_code 91 = .ok (.newarray .byte, 2) := by decide +kernel
theorem d_M_init_93 : decode prog_10_method_1_code 93 = .ok (.putfield 46, 3) := by decide +kernel
theorem d_M_init_96 : decode prog_10_method_1_code 96 = .ok (.aload_n 0, 1) := by decide +kernel
theorem d_M_init_97 : decode prog_10_method_1_code 97 = .ok (.bipush 64, 2) := by decide +kernel
theorem d_M_init_99 : decode prog_10_method_1_code 99 = .ok (.newarray .int, 2) := by decide +kernel
theorem d_M_init_101 : decode prog_10_method_1_code 101 = .ok (.putfield 49, 3) := by decide +kernel
theorem d_M_init_104 : decode prog_10_method_1_code 104 = .ok (.aload_n 0, 1) := by decide +kernel
theorem d_M_init_105 : decode prog_10_method_1_code 105 = .ok (.bipush 64, 2) := by decide +kernel
theorem d_M_init_107 : decode prog_10_method_1_code 107 = .ok (.newarray .int, 2) := by decide +kernel
theorem d_M_init_109 : decode prog_10_method_1_code 109 = .ok (.putfield 52, 3) := by decide +kernel
theorem d_M_init_112 : decode prog_10_method_1_code 112 = .ok (.aload_n 0, 1) := by decide +kernel
theorem d_M_init_113 : decode prog_10_method_1_code 113 = .ok (.bipush 64, 2) := by decide +kernel
theorem d_M_init_115 : decode prog_10_method_1_code 115 = .ok (.newarray .int, 2) := by decide +kernel
theorem d_M_init_117 : decode prog_10_method_1_code 117 = .ok (.putfield 55, 3) := by decide +kernel
theorem d_M_init_120 : decode prog_10_method_1_code 120 = .ok (.aload_n 0, 1) := by decide +kernel
theorem d_M_init_121 : decode prog_10_method_1_code 121 = .ok (.bipush 64, 2) := by decide +kernel
theorem d_M_init_123 : decode prog_10_method_1_code 123 = .ok (.newarray .int, 2) := by decide +kernel
theorem d_M_init_125 : decode prog_10_method_1_code 125 = .ok (.putfield 58, 3) := by decide +kernel
theorem d_M_init_128 : decode prog_10_method_1_code 128 = .ok (.aload_n 0, 1) := by decide +kernel
theorem d_M_init_129 : decode prog_10_method_1_code 129 = .ok (.ldc 61, 2) := by decide +kernel
theorem d_M_init_131 : decode prog_10_method_1_code 131 = .ok (.newarray .byte, 2) := by decide +kernel
theorem d_M_init_133 : decode prog_10_method_1_code 133 = .ok (.putfield 62, 3) := by decide +kernel
theorem d_M_init_136 : decode prog_10_method_1_code 136 = .ok (.aload_n 0, 1) := by decide +kernel
theorem d_M_init_137 : decode prog_10_method_1_code 137 = .ok (.sipush 320, 3) := by decide +kernel
theorem d_M_init_140 : decode prog_10_method_1_code 140 = .ok (.newarray .int, 2) := by decide +kernel
theorem d_M_init_142 : decode prog_10_method_1_code 142 = .ok (.putfield 65, 3) := by decide +kernel
theorem d_M_init_145 : decode prog_10_method_1_code 145 = .ok (.aload_n 0, 1) := by decide +kernel
theorem d_M_init_146 : decode prog_10_method_1_code 146 = .ok (.bipush 19, 2) := by decide +kernel
theorem d_M_init_148 : decode prog_10_method_1_code 148 = .ok (.newarray .int, 2) := by decide +kernel
theorem d_M_init_150 : decode prog_10_method_1_code 150 = .ok (.putfield 68, 3) := by decide +kernel
theorem d_M_init_153 : decode prog_10_method_1_code 153 = .ok (.aload_n 0, 1) := by decide +kernel
theorem d_M_init_154 : decode prog_10_method_1_code 154 = .ok (.sipush 320, 3) := by decide +kernel
theorem d_M_init_157 : decode prog_10_method_1_code 157 = .ok (.newarray .int, 2) := by decide +kernel
theorem d_M_init_159 : decode prog_10_method_1_code 159 = .ok (.putfield 71, 3) := by decide +kernel
theorem d_M_init_162 : decode prog_10_method_1_code 162 = .ok (.aload_n 0, 1) := by decide +kernel
theorem d_M_init_163 : decode prog_10_method_1_code 163 = .ok (.bipush 19, 2) := by decide +kernel
theorem d_M_init_165 : decode prog_10_method_1_code 165 = .ok (.newarray .int, 2) := by decide +kernel
theorem d_M_init_167 : decode prog_10_method_1_code 167 = .ok (.putfield 74, 3) := by decide +kernel
theorem d_M_init_170 : decode prog_10_method_1_code 170 = .ok (.return_, 1) := by decide +kernel
theorem d_M_judge_0 : decode prog_10_method_24_code 0 = .ok (.aload_n 0, 1) := by decide +kernel
theorem d_M_judge_1 : decode prog_10_method_24_code 1 = .ok (.invokevirtual 166, 3) := by decide +kernel
theorem d_M_judge_4 : decode prog_10_method_24_code 4 = .ok (.istore_n 1, 1) := by decide +kernel
theorem d_M_judge_5 : decode prog_10_method_24_code 5 = .ok (.iload_n 1, 1) := by decide +kernel
theorem d_M_judge_6 : decode prog_10_method_24_code 6 = .ok (.iconst (-1), 1) := by decide +kernel
theorem d_M_judge_7 : decode prog_10_method_24_code 7 = .ok (.if_icmp .ne 14, 3) := by decide +kernel
theorem d_M_judge_10 : decode prog_10_method_24_code 10 = .ok (.aload_n 0, 1) := by decide +kernel
theorem d_M_judge_11 : decode prog_10_method_24_code 11 = .ok (.iconst 1, 1) := by decide +kernel
theorem d_M_judge_12 : decode prog_10_method_24_code 12 = .ok (.aload_n 0, 1) := by decide +kernel
theorem d_M_judge_13 : decode prog_10_method_24_code 13 = .ok (.getfield 90, 3) := by decide +kernel
theorem d_M_judge_16 : decode prog_10_method_24_code 16 = .ok (.i2l, 1) := by decide +kernel
theorem d_M_judge_17 : decode prog_10_method_24_code 17 = .ok (.invokevirtual 170, 3) := by decide +kernel
theorem d_M_judge_20 : decode prog_10_method_24_code 20 = .ok (.ireturn, 1) := by decide +kernel
theorem d_M_limits_0 : decode prog_10_method_27_code 0 = .ok (.aload_n 0, 1) := by decide +kernel
theorem d_M_limits_1 : decode prog_10_method_27_code 1 = .ok (.iload_n 1, 1) := by decide +kernel
theorem d_M_limits_2 : decode prog_10_method_27_code 2 = .ok (.ifCond .lt 20, 3) := by decide +kernel
theorem d_M_limits_5 : decode prog_10_method_27_code 5 = .ok (.iload_n 1, 1) := by decide +kernel
theorem d_M_limits_6 : decode prog_10_method_27_code 6 = .ok (.ldc 61, 2) := by decide +kernel
theorem d_M_limits_8 : decode prog_10_method_27_code 8 = .ok (.if_icmp .gt 14, 3) := by decide +kernel
theorem d_M_limits_11 : decode prog_10_method_27_code 11 = .ok (.iload_n 2, 1) := by decide +kernel
theorem d_M_limits_12 : decode prog_10_method_27_code 12 = .ok (.ifCond .lt 10, 3) := by decide +kernel
theorem d_M_limits_15 : decode prog_10_method_27_code 15 = .ok (.iload_n 2, 1) := by decide +kernel
theorem d_M_limits_16 : decode prog_10_method_27_code 16 = .ok (.sipush 2000, 3) := by decide +kernel
theorem d_M_limits_19 : decode prog_10_method_27_code 19 = .ok (.if_icmp .le 7, 3) := by decide +kernel
theorem d_M_limits_22 : decode prog_10_method_27_code 22 = .ok (.iconst 1, 1) := by decide +kernel
theorem d_M_limits_23 : decode prog_10_method_27_code 23 = .ok (.goto 4, 3) := by decide +kernel
theorem d_M_limits_26 : decode prog_10_method_27_code 26 = .ok (.iconst 0, 1) := by decide +kernel
theorem d_M_limits_27 : decode prog_10_method_27_code 27 = .ok (.iconst 1, 1) := by decide +kernel
theorem d_M_limits_28 : decode prog_10_method_27_code 28 = .ok (.invokevirtual 93, 3) := by decide +kernel
theorem d_M_limits_31 : decode prog_10_method_27_code 31 = .ok (.ifCond .eq 4, 3) := by decide +kernel
theorem d_M_limits_34 : decode prog_10_method_27_code 34 = .ok (.return_, 1) := by decide +kernel
theorem d_M_limits_35 : decode prog_10_method_27_code 35 = .ok (.aload_n 0, 1) := by decide +kernel
theorem d_M_limits_36 : decode prog_10_method_27_code 36 = .ok (.iload_n 1, 1) := by decide +kernel
theorem d_M_limits_37 : decode prog_10_method_27_code 37 = .ok (.putfield 17, 3) := by decide +kernel
theorem d_M_limits_40 : decode prog_10_method_27_code 40 = .ok (.aload_n 0, 1) := by decide +kernel
theorem d_M_limits_41 : decode prog_10_method_27_code 41 = .ok (.iload_n 2, 1) := by decide +kernel
theorem d_M_limits_42 : decode prog_10_method_27_code 42 = .ok (.putfield 20, 3) := by decide +kernel
theorem d_M_limits_45 : decode prog_10_method_27_code 45 = .ok (.return_, 1) := by decide +kernel
theorem d_M_name_0 : decode prog_10_method_50_code 0 = .ok (.aload_n 0, 1) := by decide +kernel
theorem d_M_name_1 : decode prog_10_method_50_code 1 = .ok (.aload_n 0, 1) := by decide +kernel
theorem d_M_name_2 : decode prog_10_method_50_code 2 = .ok (.getfield 80, 3) := by decide +kernel
theorem d_M_name_5 : decode prog_10_method_50_code 5 = .ok (.ifCond .ne 7, 3) := by decide +kernel
theorem d_M_name_8 : decode prog_10_method_50_code 8 = .ok (.iconst 1, 1) := by decide +kernel
theorem d_M_name_9 : decode prog_10_method_50_code 9 = .ok (.goto 4, 3) := by decide +kernel
theorem d_M_name_13 : decode prog_10_method_50_code 13 = .ok (.iconst 1, 1) := by decide +kernel
theorem d_M_name_14 : decode prog_10_method_50_code 14 = .ok (.invokevirtual 93, 3) := by decide +kernel
theorem d_M_name_17 : decode prog_10_method_50_code 17 = .ok (.ifCond .ne 24, 3) := by decide +kernel
theorem d_M_name_41 : decode prog_10_method_50_code 41 = .ok (.iconst 0, 1) := by decide +kernel
theorem d_M_name_42 : decode prog_10_method_50_code 42 = .ok (.ireturn, 1) := by decide +kernel
theorem d_M_open_0 : decode prog_10_method_25_code 0 = .ok (.aload_n 0, 1) := by decide +kernel
theorem d_M_open_1 : decode prog_10_method_25_code 1 = .ok (.iconst 0, 1) := by decide +kernel
theorem d_M_open_2 : decode prog_10_method_25_code 2 = .ok (.putfield 77, 3) := by decide +kernel
theorem d_M_open_5 : decode prog_10_method_25_code 5 = .ok (.aload_n 0, 1) := by decide +kernel
theorem d_M_open_6 : decode prog_10_method_25_code 6 = .ok (.invokevirtual 97, 3) := by decide +kernel
theorem d_M_open_9 : decode prog_10_method_25_code 9 = .ok (.aload_n 0, 1) := by decide +kernel
theorem d_M_open_10 : decode prog_10_method_25_code 10 = .ok (.iconst (-1), 1) := by decide +kernel
theorem d_M_open_11 : decode prog_10_method_25_code 11 = .ok (.putfield 13, 3) := by decide +kernel
theorem d_M_open_14 : decode prog_10_method_25_code 14 = .ok (.aload_n 0, 1) := by decide +kernel
theorem d_M_open_15 : decode prog_10_method_25_code 15 = .ok (.invokevirtual 193, 3) := by decide +kernel
theorem d_M_open_18 : decode prog_10_method_25_code 18 = .ok (.istore_n 1, 1) := by decide +kernel
theorem d_M_open_19 : decode prog_10_method_25_code 19 = .ok (.aload_n 0, 1) := by decide +kernel
theorem d_M_open_20 : decode prog_10_method_25_code 20 = .ok (.iload_n 1, 1) := by decide +kernel
theorem d_M_open_21 : decode prog_10_method_25_code 21 = .ok (.ifCond .lt 7, 3) := by decide +kernel
theorem d_M_open_28 : decode prog_10_method_25_code 28 = .ok (.iconst 0, 1) := by decide +kernel
theorem d_M_open_29 : decode prog_10_method_25_code 29 = .ok (.putfield 80, 3) := by decide +kernel
theorem d_M_open_32 : decode prog_10_method_25_code 32 = .ok (.aload_n 0, 1) := by decide +kernel
theorem d_M_open_33 : decode prog_10_method_25_code 33 = .ok (.aload_n 0, 1) := by decide +kernel
theorem d_M_open_34 : decode prog_10_method_25_code 34 = .ok (.getfield 80, 3) := by decide +kernel
theorem d_M_open_37 : decode prog_10_method_25_code 37 = .ok (.ifCond .eq 7, 3) := by decide +kernel
theorem d_M_open_44 : decode prog_10_method_25_code 44 = .ok (.iconst 0, 1) := by decide +kernel
theorem d_M_open_45 : decode prog_10_method_25_code 45 = .ok (.putfield 84, 3) := by decide +kernel
theorem d_M_open_48 : decode prog_10_method_25_code 48 = .ok (.iload_n 1, 1) := by decide +kernel
theorem d_M_open_49 : decode prog_10_method_25_code 49 = .ok (.ireturn, 1) := by decide +kernel
theorem d_M_place_0 : decode prog_10_method_26_code 0 = .ok (.aload_n 0, 1) := by decide +kernel
theorem d_M_place_1 : decode prog_10_method_26_code 1 = .ok (.iconst 0, 1) := by decide +kernel
theorem d_M_place_2 : decode prog_10_method_26_code 2 = .ok (.putfield 77, 3) := by decide +kernel
theorem d_M_place_5 : decode prog_10_method_26_code 5 = .ok (.aload_n 0, 1) := by decide +kernel
theorem d_M_place_6 : decode prog_10_method_26_code 6 = .ok (.getfield 13, 3) := by decide +kernel
theorem d_M_place_9 : decode prog_10_method_26_code 9 = .ok (.ireturn, 1) := by decide +kernel
theorem d_M_shut_0 : decode prog_10_method_4_code 0 = .ok (.aload_n 0, 1) := by decide +kernel
theorem d_M_shut_1 : decode prog_10_method_4_code 1 = .ok (.iconst 0, 1) := by decide +kernel
theorem d_M_shut_2 : decode prog_10_method_4_code 2 = .ok (.putfield 80, 3) := by decide +kernel
theorem d_M_shut_5 : decode prog_10_method_4_code 5 = .ok (.aload_n 0, 1) := by decide +kernel
theorem d_M_shut_6 : decode prog_10_method_4_code 6 = .ok (.iconst 0, 1) := by decide +kernel
theorem d_M_shut_7 : decode prog_10_method_4_code 7 = .ok (.putfield 84, 3) := by decide +kernel
theorem d_M_shut_10 : decode prog_10_method_4_code 10 = .ok (.aload_n 0, 1) := by decide +kernel
theorem d_M_shut_11 : decode prog_10_method_4_code 11 = .ok (.iconst 0, 1) := by decide +kernel
theorem d_M_shut_12 : decode prog_10_method_4_code 12 = .ok (.putfield 87, 3) := by decide +kernel
theorem d_M_shut_15 : decode prog_10_method_4_code 15 = .ok (.return_, 1) := by decide +kernel
theorem d_M_stop_0 : decode prog_10_method_12_code 0 = .ok (.aload_n 0, 1) := by decide +kernel
theorem d_M_stop_1 : decode prog_10_method_12_code 1 = .ok (.lload_n 2, 1) := by decide +kernel
theorem d_M_stop_2 : decode prog_10_method_12_code 2 = .ok (.l2i, 1) := by decide +kernel
theorem d_M_stop_3 : decode prog_10_method_12_code 3 = .ok (.putfield 13, 3) := by decide +kernel
theorem d_M_stop_6 : decode prog_10_method_12_code 6 = .ok (.iload_n 1, 1) := by decide +kernel
theorem d_M_stop_7 : decode prog_10_method_12_code 7 = .ok (.ineg, 1) := by decide +kernel
theorem d_M_stop_8 : decode prog_10_method_12_code 8 = .ok (.ireturn, 1) := by decide +kernel
theorem d_M_take_0 : decode prog_10_method_47_code 0 = .ok (.aload_n 0, 1) := by decide +kernel
theorem d_M_take_1 : decode prog_10_method_47_code 1 = .ok (.aload_n 0, 1) := by decide +kernel
theorem d_M_take_2 : decode prog_10_method_47_code 2 = .ok (.getfield 80, 3) := by decide +kernel
theorem d_M_take_5 : decode prog_10_method_47_code 5 = .ok (.ifCond .ne 7, 3) := by decide +kernel
theorem d_M_take_8 : decode prog_10_method_47_code 8 = .ok (.iconst 1, 1) := by decide +kernel
theorem d_M_take_9 : decode prog_10_method_47_code 9 = .ok (.goto 4, 3) := by decide +kernel
theorem d_M_take_13 : decode prog_10_method_47_code 13 = .ok (.iconst 1, 1) := by decide +kernel
theorem d_M_take_14 : decode prog_10_method_47_code 14 = .ok (.invokevirtual 93, 3) := by decide +kernel
theorem d_M_take_17 : decode prog_10_method_47_code 17 = .ok (.ifCond .ne 24, 3) := by decide +kernel
theorem d_M_take_41 : decode prog_10_method_47_code 41 = .ok (.iconst 0, 1) := by decide +kernel
theorem d_M_take_42 : decode prog_10_method_47_code 42 = .ok (.ireturn, 1) := by decide +kernel
theorem d_M_takeAll_0 : decode prog_10_method_48_code 0 = .ok (.aload_n 0, 1) := by decide +kernel
theorem d_M_takeAll_1 : decode prog_10_method_48_code 1 = .ok (.aload_n 0, 1) := by decide +kernel
theorem d_M_takeAll_2 : decode prog_10_method_48_code 2 = .ok (.getfield 80, 3) := by decide +kernel
theorem d_M_takeAll_5 : decode prog_10_method_48_code 5 = .ok (.ifCond .ne 7, 3) := by decide +kernel
theorem d_M_takeAll_8 : decode prog_10_method_48_code 8 = .ok (.iconst 1, 1) := by decide +kernel
theorem d_M_takeAll_9 : decode prog_10_method_48_code 9 = .ok (.goto 4, 3) := by decide +kernel
theorem d_M_takeAll_13 : decode prog_10_method_48_code 13 = .ok (.iconst 1, 1) := by decide +kernel
theorem d_M_takeAll_14 : decode prog_10_method_48_code 14 = .ok (.invokevirtual 93, 3) := by decide +kernel
theorem d_M_takeAll_17 : decode prog_10_method_48_code 17 = .ok (.ifCond .eq 5, 3) := by decide +kernel
theorem d_M_takeAll_20 : decode prog_10_method_48_code 20 = .ok (.iconst 0, 1) := by decide +kernel
theorem d_M_takeAll_21 : decode prog_10_method_48_code 21 = .ok (.ireturn, 1) := by decide +kernel
theorem d_M_thrown_0 : decode prog_10_method_2_code 0 = .ok (.aload_n 0, 1) := by decide +kernel
theorem d_M_thrown_1 : decode prog_10_method_2_code 1 = .ok (.getfield 77, 3) := by decide +kernel
theorem d_M_thrown_4 : decode prog_10_method_2_code 4 = .ok (.ireturn, 1) := by decide +kernel
theorem d_M_written_0 : decode prog_10_method_51_code 0 = .ok (.aload_n 0, 1) := by decide +kernel
theorem d_M_written_1 : decode prog_10_method_51_code 1 = .ok (.aload_n 0, 1) := by decide +kernel
theorem d_M_written_2 : decode prog_10_method_51_code 2 = .ok (.getfield 80, 3) := by decide +kernel
theorem d_M_written_5 : decode prog_10_method_51_code 5 = .ok (.ifCond .ne 7, 3) := by decide +kernel
theorem d_M_written_8 : decode prog_10_method_51_code 8 = .ok (.iconst 1, 1) := by decide +kernel
theorem d_M_written_9 : decode prog_10_method_51_code 9 = .ok (.goto 4, 3) := by decide +kernel
theorem d_M_written_13 : decode prog_10_method_51_code 13 = .ok (.iconst 1, 1) := by decide +kernel
theorem d_M_written_14 : decode prog_10_method_51_code 14 = .ok (.invokevirtual 93, 3) := by decide +kernel
theorem d_M_written_17 : decode prog_10_method_51_code 17 = .ok (.ifCond .ne 24, 3) := by decide +kernel
theorem d_M_written_41 : decode prog_10_method_51_code 41 = .ok (.iconst 0, 1) := by decide +kernel
theorem d_M_written_42 : decode prog_10_method_51_code 42 = .ok (.ireturn, 1) := by decide +kernel
set_option maxHeartbeats 4000000 in
set_option maxRecDepth 100000 in
theorem c_M_init (l : Launch) (D : va_G) (sz : Nat) (h0 : Nat)  : Met l y_M_init (Cond.code y_M_init prog_10_method_1_code 1 (Option.none : Option Jvm.ClassFile.FieldType) :: zt) { frames := 1, cells := 18, slots := 65222, locals := 12 } (zPc [.ref h0] D [(h0, .inr (8, [.null, .int 0, .int 0, .int 0, .int 0, .int 0, .int 0, .null, .null, .null, .null, .null, .null, .null, .null, .null, .null, .null, .null, .null, .int 0, .int 0, .int 0, .int 0, .null, .null, .null, .null, .int 0, .int 0, .int 0]))] [] sz (fun _ => True)) (va_Qv (fun (u : Nat × Nat × Nat × Nat × Nat × Nat × Nat × Nat × Nat × Nat × Nat × Nat × Nat × Nat × Nat × Nat × Nat × Nat × ClassId) => match u with | (m_tape, m_methods, m_packed, m_sizes, m_sums, m_datas, m_locals, m_localEnds, m_names, m_nameSizes, m_states, m_starts, m_counts, m_written, m_lengths, m_small, m_codes, m_smallCodes, cM) => True) (fun u t => zB D ((fun (u : Nat × Nat × Nat × Nat × Nat × Nat × Nat × Nat × Nat × Nat × Nat × Nat × Nat × Nat × Nat × Nat × Nat × Nat × ClassId) => match u with | (m_tape, m_methods, m_packed, m_sizes, m_sums, m_datas, m_locals, m_localEnds, m_names, m_nameSizes, m_states, m_starts, m_counts, m_written, m_lengths, m_small, m_codes, m_smallCodes, cM) => [(h0, .inr (8, [.ref m_tape, .int 0, .int 0, .int (-1), .int 20000, .int 100, .int 0, .ref m_methods, .ref m_packed, .ref m_sizes, .ref m_sums, .ref m_datas, .ref m_locals, .ref m_localEnds, .ref m_names, .ref m_nameSizes, .ref m_states, .ref m_starts, .ref m_counts, .ref m_written, .int 0, .int 0, .int 0, .int 0, .ref m_lengths, .ref m_small, .ref m_codes, .ref m_smallCodes, .int 0, .int 0, .int 0])), (m_tape, .inl (cM, 20000, .inl (fun _ => 0)))]) u) ((fun (u : Nat × Nat × Nat × Nat × Nat × Nat × Nat × Nat × Nat × Nat × Nat × Nat × Nat × Nat × Nat × Nat × Nat × Nat × ClassId) => match u with | (m_tape, m_methods, m_packed, m_sizes, m_sums, m_datas, m_locals, m_localEnds, m_names, m_nameSizes, m_states, m_starts, m_counts, m_written, m_lengths, m_small, m_codes, m_smallCodes, cM) => [(cM, .byte)]) u) (va_A [(h0, .inr (8, [.null, .int 0, .int 0, .int 0, .int 0, .int 0, .int 0, .null, .null, .null, .null, .null, .null, .null, .null, .null, .null, .null, .null, .null, .int 0, .int 0, .int 0, .int 0, .null, .null, .null, .null, .int 0, .int 0, .int 0]))] sz) t) (va_A [(h0, .inr (8, [.null, .int 0, .int 0, .int 0, .int 0, .int 0, .int 0, .null, .null, .null, .null, .null, .null, .null, .null, .null, .null, .null, .null, .null, .int 0, .int 0, .int 0, .int 0, .null, .null, .null, .null, .int 0, .int 0, .int 0]))] sz)) 18 65222 (va_A [(h0, .inr (8, [.null, .int 0, .int 0, .int 0, .int 0, .int 0, .int 0, .null, .null, .null, .null, .null, .null, .null, .null, .null, .null, .null, .null, .null, .int 0, .int 0, .int 0, .int 0, .null, .null, .null, .null, .int 0, .int 0, .int 0]))] sz) :=
  zMet (Qf := fun A => va_Qv (fun (u : Nat × Nat × Nat × Nat × Nat × Nat × Nat × Nat × Nat × Nat × Nat × Nat × Nat × Nat × Nat × Nat × Nat × Nat × ClassId) => match u with | (m_tape, m_methods, m_packed, m_sizes, m_sums, m_datas, m_locals, m_localEnds, m_names, m_nameSizes, m_states, m_starts, m_counts, m_written, m_lengths, m_small, m_codes, m_smallCodes, cM) => True) (fun u t => zB D ((fun (u : Nat × Nat × Nat × Nat × Nat × Nat × Nat × Nat × Nat × Nat × Nat × Nat × Nat × Nat × Nat × Nat × Nat × Nat × ClassId) => match u with | (m_tape, m_methods, m_packed, m_sizes, m_sums, m_datas, m_locals, m_localEnds, m_names, m_nameSizes, m_states, m_starts, m_counts, m_written, m_lengths, m_small, m_codes, m_smallCodes, cM) => [(h0, .inr (8, [.ref m_tape, .int 0, .int 0, .int (-1), .int 20000, .int 100, .int 0, .ref m_methods, .ref m_packed, .ref m_sizes, .ref m_sums, .ref m_datas, .ref m_locals, .ref m_localEnds, .ref m_names, .ref m_nameSizes, .ref m_states, .ref m_starts, .ref m_counts, .ref m_written, .int 0, .int 0, .int 0, .int 0, .ref m_lengths, .ref m_small, .ref m_codes, .ref m_smallCodes, .int 0, .int 0, .int 0])), (m_tape, .inl (cM, 20000, .inl (fun _ => 0)))]) u) ((fun (u : Nat × Nat × Nat × Nat × Nat × Nat × Nat × Nat × Nat × Nat × Nat × Nat × Nat × Nat × Nat × Nat × Nat × Nat × ClassId) => match u with | (m_tape, m_methods, m_packed, m_sizes, m_sums, m_datas, m_locals, m_localEnds, m_names, m_nameSizes, m_states, m_starts, m_counts, m_written, m_lengths, m_small, m_codes, m_smallCodes, cM) => [(cM, .byte)]) u) A t) A) (by decide) (Nat.le_of_ble_eq_true rfl) (fun p e s m below meth c A ls hx hb hr hml hown ht hlk hnm hA hK hP hD hX hl => by
    have hS : va_S A s.heap s.heap [] := va_S.rf
    have hl : lv_has ls 1 [(0, .ref h0)] := hl
    refine lv_aload_n hx hb d_M_init_0 rfl (lv_at hl 0 rfl) ?_
    refine W.objInit hx hb hown (ht _ zm_750) (ht _ zm_87) (ht _ zm_88) rfl (by rw [hml]; exact hl.1) rfl d_M_init_1 (Nat.le_of_ble_eq_true rfl) (Nat.le_of_ble_eq_true rfl) ?_
    refine W.eq (g2 := F0 m 4 ls []) rfl ?_
    refine lv_aload_n hx hb d_M_init_4 rfl (lv_at hl 0 rfl) ?_
    refine lv_sipush (v := 20000) hx hb d_M_init_5 (by decide) ?_
    refine va_newa (atype := .byte) (ty := .byte) (n := 20000) (N' := 20000) (a0 := (20000, .inl (fun _ => 0))) hx hb (ht _ zm_105) rfl hK hP hD hS hA (fun _ => rfl) (by decide) (by decide) (by decide) (Nat.le_of_ble_eq_true rfl) (Nat.le_of_ble_eq_true rfl) d_M_init_8 (fun q1 cA2 H hK hP hD hS => ?_)
    have hP : va_P D zcl [(h0, .inr (8, [.null, .int 0, .int 0, .int 0, .int 0, .int 0, .int 0, .null, .null, .null, .null, .null, .null, .null, .null, .null, .null, .null, .null, .null, .int 0, .int 0, .int 0, .int 0, .null, .null, .null, .null, .int 0, .int 0, .int 0])), (q1, .inl (cA2, 20000, .inl (fun _ => 0)))] H := hP
    have hD : va_D A [(h0, .inr (8, [.null, .int 0, .int 0, .int 0, .int 0, .int 0, .int 0, .null, .null, .null, .null, .null, .null, .null, .null, .null, .null, .null, .null, .null, .int 0, .int 0, .int 0, .int 0, .null, .null, .null, .null, .int 0, .int 0, .int 0])), (q1, .inl (cA2, 20000, .inl (fun _ => 0)))] := hD
    have hK : va_K D zcl [(cA2, .byte)] s := hK
    refine va_putF (ci := 8) (v := .ref q1) (ty := .array .byte) (C := "ZipGuardModel") (T := F_M) (N := 31) hx hb ht zi_M ty_M tk_M nm_M hown hK hP hD hS 0 rfl rfl 0 (by decide) (ht _ zm_752) (fun _ h9 => h9) rfl hnm rfl (by decide +kernel) rfl rfl (Nat.le_of_ble_eq_true rfl) d_M_init_10 (fun H locs hP hD hS => ?_)
    have hP : va_P D zcl [(h0, .inr (8, [.ref q1, .int 0, .int 0, .int 0, .int 0, .int 0, .int 0, .null, .null, .null, .null, .null, .null, .null, .null, .null, .null, .null, .null, .null, .int 0, .int 0, .int 0, .int 0, .null, .null, .null, .null, .int 0, .int 0, .int 0])), (q1, .inl (cA2, 20000, .inl (fun _ => 0)))] H := hP
    have hD : va_D A [(h0, .inr (8, [.ref q1, .int 0, .int 0, .int 0, .int 0, .int 0, .int 0, .null, .null, .null, .null, .null, .null, .null, .null, .null, .null, .null, .null, .null, .int 0, .int 0, .int 0, .int 0, .null, .null, .null, .null, .int 0, .int 0, .int 0])), (q1, .inl (cA2, 20000, .inl (fun _ => 0)))] := hD
    refine lv_aload_n hx hb d_M_init_13 rfl (lv_at hl 0 rfl) ?_
    refine lv_iconst (v := (-1)) hx hb d_M_init_14 (by decide) ?_
    refine va_put (ci := 8) (v := .int (-1)) (ty := .int) (C := "ZipGuardModel") (T := F_M) (N := 31) hx hb ht zi_M ty_M tk_M nm_M hown hK hP hD hS 0 rfl rfl 3 (by decide) (ht _ zm_755) (fun _ h9 => h9) rfl (by decide +kernel) rfl rfl (Nat.le_of_ble_eq_true rfl) d_M_init_15 (fun H locs hP hD hS => ?_)
    have hP : va_P D zcl [(h0, .inr (8, [.ref q1, .int 0, .int 0, .int (-1), .int 0, .int 0, .int 0, .null, .null, .null, .null, .null, .null, .null, .null, .null, .null, .null, .null, .null, .int 0, .int 0, .int 0, .int 0, .null, .null, .null, .null, .int 0, .int 0, .int 0])), (q1, .inl (cA2, 20000, .inl (fun _ => 0)))] H := hP
    have hD : va_D A [(h0, .inr (8, [.ref q1, .int 0, .int 0, .int (-1), .int 0, .int 0, .int 0, .null, .null, .null, .null, .null, .null, .null, .null, .null, .null, .null, .null, .null, .int 0, .int 0, .int 0, .int 0, .null, .null, .null, .null, .int 0, .int 0, .int 0])), (q1, .inl (cA2, 20000, .inl (fun _ => 0)))] := hD
    refine lv_aload_n hx hb d_M_init_18 rfl (lv_at hl 0 rfl) ?_
    refine lv_sipush (v := 20000) hx hb d_M_init_19 (by decide) ?_
    refine va_put (ci := 8) (v := .int 20000) (ty := .int) (C := "ZipGuardModel") (T := F_M) (N := 31) hx hb ht zi_M ty_M tk_M nm_M hown hK hP hD hS 0 rfl rfl 4 (by decide) (ht _ zm_756) (fun _ h9 => h9) rfl (by decide +kernel) rfl rfl (Nat.le_of_ble_eq_true rfl) d_M_init_22 (fun H locs hP hD hS => ?_)
    have hP : va_P D zcl [(h0, .inr (8, [.ref q1, .int 0, .int 0, .int (-1), .int 20000, .int 0, .int 0, .null, .null, .null, .null, .null, .null, .null, .null, .null, .null, .null, .null, .null, .int 0, .int 0, .int 0, .int 0, .null, .null, .null, .null, .int 0, .int 0, .int 0])), (q1, .inl (cA2, 20000, .inl (fun _ => 0)))] H := hP
    have hD : va_D A [(h0, .inr (8, [.ref q1, .int 0, .int 0, .int (-1), .int 20000, .int 0, .int 0, .null, .null, .null, .null, .null, .null, .null, .null, .null, .null, .null, .null, .null, .int 0, .int 0, .int 0, .int 0, .null, .null, .null, .null, .int 0, .int 0, .int 0])), (q1, .inl (cA2, 20000, .inl (fun _ => 0)))] := hD
    refine lv_aload_n hx hb d_M_init_25 rfl (lv_at hl 0 rfl) ?_
    refine lv_bipush (v := 100) hx hb d_M_init_26 (by decide) ?_
    refine va_put (ci := 8) (v := .int 100) (ty := .int) (C := "ZipGuardModel") (T := F_M) (N := 31) hx hb ht zi_M ty_M tk_M nm_M hown hK hP hD hS 0 rfl rfl 5 (by decide) (ht _ zm_757) (fun _ h9 => h9) rfl (by decide +kernel) rfl rfl (Nat.le_of_ble_eq_true rfl) d_M_init_28 (fun H locs hP hD hS => ?_)
    have hP : va_P D zcl [(h0, .inr (8, [.ref q1, .int 0, .int 0, .int (-1), .int 20000, .int 100, .int 0, .null, .null, .null, .null, .null, .null, .null, .null, .null, .null, .null, .null, .null, .int 0, .int 0, .int 0, .int 0, .null, .null, .null, .null, .int 0, .int 0, .int 0])), (q1, .inl (cA2, 20000, .inl (fun _ => 0)))] H := hP
    have hD : va_D A [(h0, .inr (8, [.ref q1, .int 0, .int 0, .int (-1), .int 20000, .int 100, .int 0, .null, .null, .null, .null, .null, .null, .null, .null, .null, .null, .null, .null, .null, .int 0, .int 0, .int 0, .int 0, .null, .null, .null, .null, .int 0, .int 0, .int 0])), (q1, .inl (cA2, 20000, .inl (fun _ => 0)))] := hD
    refine lv_aload_n hx hb d_M_init_31 rfl (lv_at hl 0 rfl) ?_
    refine lv_bipush (v := 64) hx hb d_M_init_32 (by decide) ?_
    refine va_newa (atype := .int) (ty := .int) (n := 64) (N' := 64) (a0 := (64, .inl (fun _ => 0))) hx hb (ht _ zm_269) rfl hK hP hD hS hA (fun _ => rfl) (by decide) (by decide) (by decide) (Nat.le_of_ble_eq_true rfl) (Nat.le_of_ble_eq_true rfl) d_M_init_34 (fun q3 cA4 H hK hP hD hS => ?_)
    have hP : va_P D zcl [(h0, .inr (8, [.ref q1, .int 0, .int 0, .int (-1), .int 20000, .int 100, .int 0, .null, .null, .null, .null, .null, .null, .null, .null, .null, .null, .null, .null, .null, .int 0, .int 0, .int 0, .int 0, .null, .null, .null, .null, .int 0, .int 0, .int 0])), (q1, .inl (cA2, 20000, .inl (fun _ => 0))), (q3, .inl (cA4, 64, .inl (fun _ => 0)))] H := hP
    have hD : va_D A [(h0, .inr (8, [.ref q1, .int 0, .int 0, .int (-1), .int 20000, .int 100, .int 0, .null, .null, .null, .null, .null, .null, .null, .null, .null, .null, .null, .null, .null, .int 0, .int 0, .int 0, .int 0, .null, .null, .null, .null, .int 0, .int 0, .int 0])), (q1, .inl (cA2, 20000, .inl (fun _ => 0))), (q3, .inl (cA4, 64, .inl (fun _ => 0)))] := hD
    have hK : va_K D zcl [(cA2, .byte), (cA4, .int)] s := hK
    refine va_putF (ci := 8) (v := .ref q3) (ty := .array .int) (C := "ZipGuardModel") (T := F_M) (N := 31) hx hb ht zi_M ty_M tk_M nm_M hown hK hP hD hS 0 rfl rfl 7 (by decide) (ht _ zm_759) (fun _ h9 => h9) rfl hnm rfl (by decide +kernel) rfl rfl (Nat.le_of_ble_eq_true rfl) d_M_init_36 (fun H locs hP hD hS => ?_)
    have hP : va_P D zcl [(h0, .inr (8, [.ref q1, .int 0, .int 0, .int (-1), .int 20000, .int 100, .int 0, .ref q3, .null, .null, .null, .null, .null, .null, .null, .null, .null, .null, .null, .null, .int 0, .int 0, .int 0, .int 0, .null, .null, .null, .null, .int 0, .int 0, .int 0])), (q1, .inl (cA2, 20000, .inl (fun _ => 0))), (q3, .inl (cA4, 64, .inl (fun _ => 0)))] H := hP
    have hD : va_D A [(h0, .inr (8, [.ref q1, .int 0, .int 0, .int (-1), .int 20000, .int 100, .int 0, .ref q3, .null, .null, .null, .null, .null, .null, .null, .null, .null, .null, .null, .null, .int 0, .int 0, .int 0, .int 0, .null, .null, .null, .null, .int 0, .int 0, .int 0])), (q1, .inl (cA2, 20000, .inl (fun _ => 0))), (q3, .inl (cA4, 64, .inl (fun _ => 0)))] := hD
    have hP := hP.sub (ws' := [(h0, .inr (8, [.ref q1, .int 0, .int 0, .int (-1), .int 20000, .int 100, .int 0, .ref q3, .null, .null, .null, .null, .null, .null, .null, .null, .null, .null, .null, .null, .int 0, .int 0, .int 0, .int 0, .null, .null, .null, .null, .int 0, .int 0, .int 0])), (q1, .inl (cA2, 20000, .inl (fun _ => 0)))]) [0, 1] rfl
    have hD := hD.sub (ws' := [(h0, .inr (8, [.ref q1, .int 0, .int 0, .int (-1), .int 20000, .int 100, .int 0, .ref q3, .null, .null, .null, .null, .null, .null, .null, .null, .null, .null, .null, .null, .int 0, .int 0, .int 0, .int 0, .null, .null, .null, .null, .int 0, .int 0, .int 0])), (q1, .inl (cA2, 20000, .inl (fun _ => 0)))]) [0, 1] (by decide) rfl
    have hK := hK.sub (tys' := [(cA2, .byte)]) [0] rfl
    refine lv_aload_n hx hb d_M_init_39 rfl (lv_at hl 0 rfl) ?_
    refine lv_bipush (v := 64) hx hb d_M_init_40 (by decide) ?_
    refine va_newa (atype := .long) (ty := .long) (n := 64) (N' := 64) (a0 := (64, .inr (.inl (fun _ => 0)))) hx hb (ht _ zm_846) rfl hK hP hD hS hA (fun _ => rfl) (by decide) (by decide) (by decide) (Nat.le_of_ble_eq_true rfl) (Nat.le_of_ble_eq_true rfl) d_M_init_42 (fun q5 cA6 H hK hP hD hS => ?_)
    have hP : va_P D zcl [(h0, .inr (8, [.ref q1, .int 0, .int 0, .int (-1), .int 20000, .int 100, .int 0, .ref q3, .null, .null, .null, .null, .null, .null, .null, .null, .null, .null, .null, .null, .int 0, .int 0, .int 0, .int 0, .null, .null, .null, .null, .int 0, .int 0, .int 0])), (q1, .inl (cA2, 20000, .inl (fun _ => 0))), (q5, .inl (cA6, 64, .inr (.inl (fun _ => 0))))] H := hP
    have hD : va_D A [(h0, .inr (8, [.ref q1, .int 0, .int 0, .int (-1), .int 20000, .int 100, .int 0, .ref q3, .null, .null, .null, .null, .null, .null, .null, .null, .null, .null, .null, .null, .int 0, .int 0, .int 0, .int 0, .null, .null, .null, .null, .int 0, .int 0, .int 0])), (q1, .inl (cA2, 20000, .inl (fun _ => 0))), (q5, .inl (cA6, 64, .inr (.inl (fun _ => 0))))] := hD
    have hK : va_K D zcl [(cA2, .byte), (cA6, .long)] s := hK
    refine va_putF (ci := 8) (v := .ref q5) (ty := .array .long) (C := "ZipGuardModel") (T := F_M) (N := 31) hx hb ht zi_M ty_M tk_M nm_M hown hK hP hD hS 0 rfl rfl 8 (by decide) (ht _ zm_760) (fun _ h9 => h9) rfl hnm rfl (by decide +kernel) rfl rfl (Nat.le_of_ble_eq_true rfl) d_M_init_44 (fun H locs hP hD hS => ?_)
    have hP : va_P D zcl [(h0, .inr (8, [.ref q1, .int 0, .int 0, .int (-1), .int 20000, .int 100, .int 0, .ref q3, .ref q5, .null, .null, .null, .null, .null, .null, .null, .null, .null, .null, .null, .int 0, .int 0, .int 0, .int 0, .null, .null, .null, .null, .int 0, .int 0, .int 0])), (q1, .inl (cA2, 20000, .inl (fun _ => 0))), (q5, .inl (cA6, 64, .inr (.inl (fun _ => 0))))] H := hP
    have hD : va_D A [(h0, .inr (8, [.ref q1, .int 0, .int 0, .int (-1), .int 20000, .int 100, .int 0, .ref q3, .ref q5, .null, .null, .null, .null, .null, .null, .null, .null, .null, .null, .null, .int 0, .int 0, .int 0, .int 0, .null, .null, .null, .null, .int 0, .int 0, .int 0])), (q1, .inl (cA2, 20000, .inl (fun _ => 0))), (q5, .inl (cA6, 64, .inr (.inl (fun _ => 0))))] := hD
    have hP := hP.sub (ws' := [(h0, .inr (8, [.ref q1, .int 0, .int 0, .int (-1), .int 20000, .int 100, .int 0, .ref q3, .ref q5, .null, .null, .null, .null, .null, .null, .null, .null, .null, .null, .null, .int 0, .int 0, .int 0, .int 0, .null, .null, .null, .null, .int 0, .int 0, .int 0])), (q1, .inl (cA2, 20000, .inl (fun _ => 0)))]) [0, 1] rfl
    have hD := hD.sub (ws' := [(h0, .inr (8, [.ref q1, .int 0, .int 0, .int (-1), .int 20000, .int 100, .int 0, .ref q3, .ref q5, .null, .null, .null, .null, .null, .null, .null, .null, .null, .null, .null, .int 0, .int 0, .int 0, .int 0, .null, .null, .null, .null, .int 0, .int 0, .int 0])), (q1, .inl (cA2, 20000, .inl (fun _ => 0)))]) [0, 1] (by decide) rfl
    have hK := hK.sub (tys' := [(cA2, .byte)]) [0] rfl
    refine lv_aload_n hx hb d_M_init_47 rfl (lv_at hl 0 rfl) ?_
    refine lv_bipush (v := 64) hx hb d_M_init_48 (by decide) ?_
    refine va_newa (atype := .long) (ty := .long) (n := 64) (N' := 64) (a0 := (64, .inr (.inl (fun _ => 0)))) hx hb (ht _ zm_846) rfl hK hP hD hS hA (fun _ => rfl) (by decide) (by decide) (by decide) (Nat.le_of_ble_eq_true rfl) (Nat.le_of_ble_eq_true rfl) d_M_init_50 (fun q7 cA8 H hK hP hD hS => ?_)
    have hP : va_P D zcl [(h0, .inr (8, [.ref q1, .int 0, .int 0, .int (-1), .int 20000, .int 100, .int 0, .ref q3, .ref q5, .null, .null, .null, .null, .null, .null, .null, .null, .null, .null, .null, .int 0, .int 0, .int 0, .int 0, .null, .null, .null, .null, .int 0, .int 0, .int 0])), (q1, .inl (cA2, 20000, .inl (fun _ => 0))), (q7, .inl (cA8, 64, .inr (.inl (fun _ => 0))))] H := hP
    have hD : va_D A [(h0, .inr (8, [.ref q1, .int 0, .int 0, .int (-1), .int 20000, .int 100, .int 0, .ref q3, .ref q5, .null, .null, .null, .null, .null, .null, .null, .null, .null, .null, .null, .int 0, .int 0, .int 0, .int 0, .null, .null, .null, .null, .int 0, .int 0, .int 0])), (q1, .inl (cA2, 20000, .inl (fun _ => 0))), (q7, .inl (cA8, 64, .inr (.inl (fun _ => 0))))] := hD
    have hK : va_K D zcl [(cA2, .byte), (cA8, .long)] s := hK
    refine va_putF (ci := 8) (v := .ref q7) (ty := .array .long) (C := "ZipGuardModel") (T := F_M) (N := 31) hx hb ht zi_M ty_M tk_M nm_M hown hK hP hD hS 0 rfl rfl 9 (by decide) (ht _ zm_761) (fun _ h9 => h9) rfl hnm rfl (by decide +kernel) rfl rfl (Nat.le_of_ble_eq_true rfl) d_M_init_52 (fun H locs hP hD hS => ?_)
    have hP : va_P D zcl [(h0, .inr (8, [.ref q1, .int 0, .int 0, .int (-1), .int 20000, .int 100, .int 0, .ref q3, .ref q5, .ref q7, .null, .null, .null, .null, .null, .null, .null, .null, .null, .null, .int 0, .int 0, .int 0, .int 0, .null, .null, .null, .null, .int 0, .int 0, .int 0])), (q1, .inl (cA2, 20000, .inl (fun _ => 0))), (q7, .inl (cA8, 64, .inr (.inl (fun _ => 0))))] H := hP
    have hD : va_D A [(h0, .inr (8, [.ref q1, .int 0, .int 0, .int (-1), .int 20000, .int 100, .int 0, .ref q3, .ref q5, .ref q7, .null, .null, .null, .null, .null, .null, .null, .null, .null, .null, .int 0, .int 0, .int 0, .int 0, .null, .null, .null, .null, .int 0, .int 0, .int 0])), (q1, .inl (cA2, 20000, .inl (fun _ => 0))), (q7, .inl (cA8, 64, .inr (.inl (fun _ => 0))))] := hD
    have hP := hP.sub (ws' := [(h0, .inr (8, [.ref q1, .int 0, .int 0, .int (-1), .int 20000, .int 100, .int 0, .ref q3, .ref q5, .ref q7, .null, .null, .null, .null, .null, .null, .null, .null, .null, .null, .int 0, .int 0, .int 0, .int 0, .null, .null, .null, .null, .int 0, .int 0, .int 0])), (q1, .inl (cA2, 20000, .inl (fun _ => 0)))]) [0, 1] rfl
    have hD := hD.sub (ws' := [(h0, .inr (8, [.ref q1, .int 0, .int 0, .int (-1), .int 20000, .int 100, .int 0, .ref q3, .ref q5, .ref q7, .null, .null, .null, .null, .null, .null, .null, .null, .null, .null, .int 0, .int 0, .int 0, .int 0, .null, .null, .null, .null, .int 0, .int 0, .int 0])), (q1, .inl (cA2, 20000, .inl (fun _ => 0)))]) [0, 1] (by decide) rfl
    have hK := hK.sub (tys' := [(cA2, .byte)]) [0] rfl
    refine lv_aload_n hx hb d_M_init_55 rfl (lv_at hl 0 rfl) ?_
    refine lv_bipush (v := 64) hx hb d_M_init_56 (by decide) ?_
    refine va_newa (atype := .int) (ty := .int) (n := 64) (N' := 64) (a0 := (64, .inl (fun _ => 0))) hx hb (ht _ zm_269) rfl hK hP hD hS hA (fun _ => rfl) (by decide) (by decide) (by decide) (Nat.le_of_ble_eq_true rfl) (Nat.le_of_ble_eq_true rfl) d_M_init_58 (fun q9 cA10 H hK hP hD hS => ?_)
    have hP : va_P D zcl [(h0, .inr (8, [.ref q1, .int 0, .int 0, .int (-1), .int 20000, .int 100, .int 0, .ref q3, .ref q5, .ref q7, .null, .null, .null, .null, .null, .null, .null, .null, .null, .null, .int 0, .int 0, .int 0, .int 0, .null, .null, .null, .null, .int 0, .int 0, .int 0])), (q1, .inl (cA2, 20000, .inl (fun _ => 0))), (q9, .inl (cA10, 64, .inl (fun _ => 0)))] H := hP
    have hD : va_D A [(h0, .inr (8, [.ref q1, .int 0, .int 0, .int (-1), .int 20000, .int 100, .int 0, .ref q3, .ref q5, .ref q7, .null, .null, .null, .null, .null, .null, .null, .null, .null, .null, .int 0, .int 0, .int 0, .int 0, .null, .null, .null, .null, .int 0, .int 0, .int 0])), (q1, .inl (cA2, 20000, .inl (fun _ => 0))), (q9, .inl (cA10, 64, .inl (fun _ => 0)))] := hD
    have hK : va_K D zcl [(cA2, .byte), (cA10, .int)] s := hK
    refine va_putF (ci := 8) (v := .ref q9) (ty := .array .int) (C := "ZipGuardModel") (T := F_M) (N := 31) hx hb ht zi_M ty_M tk_M nm_M hown hK hP hD hS 0 rfl rfl 10 (by decide) (ht _ zm_762) (fun _ h9 => h9) rfl hnm rfl (by decide +kernel) rfl rfl (Nat.le_of_ble_eq_true rfl) d_M_init_60 (fun H locs hP hD hS => ?_)
    have hP : va_P D zcl [(h0, .inr (8, [.ref q1, .int 0, .int 0, .int (-1), .int 20000, .int 100, .int 0, .ref q3, .ref q5, .ref q7, .ref q9, .null, .null, .null, .null, .null, .null, .null, .null, .null, .int 0, .int 0, .int 0, .int 0, .null, .null, .null, .null, .int 0, .int 0, .int 0])), (q1, .inl (cA2, 20000, .inl (fun _ => 0))), (q9, .inl (cA10, 64, .inl (fun _ => 0)))] H := hP
    have hD : va_D A [(h0, .inr (8, [.ref q1, .int 0, .int 0, .int (-1), .int 20000, .int 100, .int 0, .ref q3, .ref q5, .ref q7, .ref q9, .null, .null, .null, .null, .null, .null, .null, .null, .null, .int 0, .int 0, .int 0, .int 0, .null, .null, .null, .null, .int 0, .int 0, .int 0])), (q1, .inl (cA2, 20000, .inl (fun _ => 0))), (q9, .inl (cA10, 64, .inl (fun _ => 0)))] := hD
    have hP := hP.sub (ws' := [(h0, .inr (8, [.ref q1, .int 0, .int 0, .int (-1), .int 20000, .int 100, .int 0, .ref q3, .ref q5, .ref q7, .ref q9, .null, .null, .null, .null, .null, .null, .null, .null, .null, .int 0, .int 0, .int 0, .int 0, .null, .null, .null, .null, .int 0, .int 0, .int 0])), (q1, .inl (cA2, 20000, .inl (fun _ => 0)))]) [0, 1] rfl
    have hD := hD.sub (ws' := [(h0, .inr (8, [.ref q1, .int 0, .int 0, .int (-1), .int 20000, .int 100, .int 0, .ref q3, .ref q5, .ref q7, .ref q9, .null, .null, .null, .null, .null, .null, .null, .null, .null, .int 0, .int 0, .int 0, .int 0, .null, .null, .null, .null, .int 0, .int 0, .int 0])), (q1, .inl (cA2, 20000, .inl (fun _ => 0)))]) [0, 1] (by decide) rfl
    have hK := hK.sub (tys' := [(cA2, .byte)]) [0] rfl
    refine lv_aload_n hx hb d_M_init_63 rfl (lv_at hl 0 rfl) ?_
    refine lv_bipush (v := 64) hx hb d_M_init_64 (by decide) ?_
    refine va_newa (atype := .int) (ty := .int) (n := 64) (N' := 64) (a0 := (64, .inl (fun _ => 0))) hx hb (ht _ zm_269) rfl hK hP hD hS hA (fun _ => rfl) (by decide) (by decide) (by decide) (Nat.le_of_ble_eq_true rfl) (Nat.le_of_ble_eq_true rfl) d_M_init_66 (fun q11 cA12 H hK hP hD hS => ?_)
    have hP : va_P D zcl [(h0, .inr (8, [.ref q1, .int 0, .int 0, .int (-1), .int 20000, .int 100, .int 0, .ref q3, .ref q5, .ref q7, .ref q9, .null, .null, .null, .null, .null, .null, .null, .null, .null, .int 0, .int 0, .int 0, .int 0, .null, .null, .null, .null, .int 0, .int 0, .int 0])), (q1, .inl (cA2, 20000, .inl (fun _ => 0))), (q11, .inl (cA12, 64, .inl (fun _ => 0)))] H := hP
    have hD : va_D A [(h0, .inr (8, [.ref q1, .int 0, .int 0, .int (-1), .int 20000, .int 100, .int 0, .ref q3, .ref q5, .ref q7, .ref q9, .null, .null, .null, .null, .null, .null, .null, .null, .null, .int 0, .int 0, .int 0, .int 0, .null, .null, .null, .null, .int 0, .int 0, .int 0])), (q1, .inl (cA2, 20000, .inl (fun _ => 0))), (q11, .inl (cA12, 64, .inl (fun _ => 0)))] := hD
    have hK : va_K D zcl [(cA2, .byte), (cA12, .int)] s := hK
    refine va_putF (ci := 8) (v := .ref q11) (ty := .array .int) (C := "ZipGuardModel") (T := F_M) (N := 31) hx hb ht zi_M ty_M tk_M nm_M hown hK hP hD hS 0 rfl rfl 11 (by decide) (ht _ zm_763) (fun _ h9 => h9) rfl hnm rfl (by decide +kernel) rfl rfl (Nat.le_of_ble_eq_true rfl) d_M_init_68 (fun H locs hP hD hS => ?_)
    have hP : va_P D zcl [(h0, .inr (8, [.ref q1, .int 0, .int 0, .int (-1), .int 20000, .int 100, .int 0, .ref q3, .ref q5, .ref q7, .ref q9, .ref q11, .null, .null, .null, .null, .null, .null, .null, .null, .int 0, .int 0, .int 0, .int 0, .null, .null, .null, .null, .int 0, .int 0, .int 0])), (q1, .inl (cA2, 20000, .inl (fun _ => 0))), (q11, .inl (cA12, 64, .inl (fun _ => 0)))] H := hP
    have hD : va_D A [(h0, .inr (8, [.ref q1, .int 0, .int 0, .int (-1), .int 20000, .int 100, .int 0, .ref q3, .ref q5, .ref q7, .ref q9, .ref q11, .null, .null, .null, .null, .null, .null, .null, .null, .int 0, .int 0, .int 0, .int 0, .null, .null, .null, .null, .int 0, .int 0, .int 0])), (q1, .inl (cA2, 20000, .inl (fun _ => 0))), (q11, .inl (cA12, 64, .inl (fun _ => 0)))] := hD
    have hP := hP.sub (ws' := [(h0, .inr (8, [.ref q1, .int 0, .int 0, .int (-1), .int 20000, .int 100, .int 0, .ref q3, .ref q5, .ref q7, .ref q9, .ref q11, .null, .null, .null, .null, .null, .null, .null, .null, .int 0, .int 0, .int 0, .int 0, .null, .null, .null, .null, .int 0, .int 0, .int 0])), (q1, .inl (cA2, 20000, .inl (fun _ => 0)))]) [0, 1] rfl
    have hD := hD.sub (ws' := [(h0, .inr (8, [.ref q1, .int 0, .int 0, .int (-1), .int 20000, .int 100, .int 0, .ref q3, .ref q5, .ref q7, .ref q9, .ref q11, .null, .null, .null, .null, .null, .null, .null, .null, .int 0, .int 0, .int 0, .int 0, .null, .null, .null, .null, .int 0, .int 0, .int 0])), (q1, .inl (cA2, 20000, .inl (fun _ => 0)))]) [0, 1] (by decide) rfl
    have hK := hK.sub (tys' := [(cA2, .byte)]) [0] rfl
    refine lv_aload_n hx hb d_M_init_71 rfl (lv_at hl 0 rfl) ?_
    refine lv_bipush (v := 64) hx hb d_M_init_72 (by decide) ?_
    refine va_newa (atype := .int) (ty := .int) (n := 64) (N' := 64) (a0 := (64, .inl (fun _ => 0))) hx hb (ht _ zm_269) rfl hK hP hD hS hA (fun _ => rfl) (by decide) (by decide) (by decide) (Nat.le_of_ble_eq_true rfl) (Nat.le_of_ble_eq_true rfl) d_M_init_74 (fun q13 cA14 H hK hP hD hS => ?_)
    have hP : va_P D zcl [(h0, .inr (8, [.ref q1, .int 0, .int 0, .int (-1), .int 20000, .int 100, .int 0, .ref q3, .ref q5, .ref q7, .ref q9, .ref q11, .null, .null, .null, .null, .null, .null, .null, .null, .int 0, .int 0, .int 0, .int 0, .null, .null, .null, .null, .int 0, .int 0, .int 0])), (q1, .inl (cA2, 20000, .inl (fun _ => 0))), (q13, .inl (cA14, 64, .inl (fun _ => 0)))] H := hP
    have hD : va_D A [(h0, .inr (8, [.ref q1, .int 0, .int 0, .int (-1), .int 20000, .int 100, .int 0, .ref q3, .ref q5, .ref q7, .ref q9, .ref q11, .null, .null, .null, .null, .null, .null, .null, .null, .int 0, .int 0, .int 0, .int 0, .null, .null, .null, .null, .int 0, .int 0, .int 0])), (q1, .inl (cA2, 20000, .inl (fun _ => 0))), (q13, .inl (cA14, 64, .inl (fun _ => 0)))] := hD
    have hK : va_K D zcl [(cA2, .byte), (cA14, .int)] s := hK
    refine va_putF (ci := 8) (v := .ref q13) (ty := .array .int) (C := "ZipGuardModel") (T := F_M) (N := 31) hx hb ht zi_M ty_M tk_M nm_M hown hK hP hD hS 0 rfl rfl 12 (by decide) (ht _ zm_764) (fun _ h9 => h9) rfl hnm rfl (by decide +kernel) rfl rfl (Nat.le_of_ble_eq_true rfl) d_M_init_76 (fun H locs hP hD hS => ?_)
    have hP : va_P D zcl [(h0, .inr (8, [.ref q1, .int 0, .int 0, .int (-1), .int 20000, .int 100, .int 0, .ref q3, .ref q5, .ref q7, .ref q9, .ref q11, .ref q13, .null, .null, .null, .null, .null, .null, .null, .int 0, .int 0, .int 0, .int 0, .null, .null, .null, .null, .int 0, .int 0, .int 0])), (q1, .inl (cA2, 20000, .inl (fun _ => 0))), (q13, .inl (cA14, 64, .inl (fun _ => 0)))] H := hP
    have hD : va_D A [(h0, .inr (8, [.ref q1, .int 0, .int 0, .int (-1), .int 20000, .int 100, .int 0, .ref q3, .ref q5, .ref q7, .ref q9, .ref q11, .ref q13, .null, .null, .null, .null, .null, .null, .null, .int 0, .int 0, .int 0, .int 0, .null, .null, .null, .null, .int 0, .int 0, .int 0])), (q1, .inl (cA2, 20000, .inl (fun _ => 0))), (q13, .inl (cA14, 64, .inl (fun _ => 0)))] := hD
    have hP := hP.sub (ws' := [(h0, .inr (8, [.ref q1, .int 0, .int 0, .int (-1), .int 20000, .int 100, .int 0, .ref q3, .ref q5, .ref q7, .ref q9, .ref q11, .ref q13, .null, .null, .null, .null, .null, .null, .null, .int 0, .int 0, .int 0, .int 0, .null, .null, .null, .null, .int 0, .int 0, .int 0])), (q1, .inl (cA2, 20000, .inl (fun _ => 0)))]) [0, 1] rfl
    have hD := hD.sub (ws' := [(h0, .inr (8, [.ref q1, .int 0, .int 0, .int (-1), .int 20000, .int 100, .int 0, .ref q3, .ref q5, .ref q7, .ref q9, .ref q11, .ref q13, .null, .null, .null, .null, .null, .null, .null, .int 0, .int 0, .int 0, .int 0, .null, .null, .null, .null, .int 0, .int 0, .int 0])), (q1, .inl (cA2, 20000, .inl (fun _ => 0)))]) [0, 1] (by decide) rfl
    have hK := hK.sub (tys' := [(cA2, .byte)]) [0] rfl
    refine lv_aload_n hx hb d_M_init_79 rfl (lv_at hl 0 rfl) ?_
    refine lv_bipush (v := 64) hx hb d_M_init_80 (by decide) ?_
    refine va_newa (atype := .int) (ty := .int) (n := 64) (N' := 64) (a0 := (64, .inl (fun _ => 0))) hx hb (ht _ zm_269) rfl hK hP hD hS hA (fun _ => rfl) (by decide) (by decide) (by decide) (Nat.le_of_ble_eq_true rfl) (Nat.le_of_ble_eq_true rfl) d_M_init_82 (fun q15 cA16 H hK hP hD hS => ?_)
    have hP : va_P D zcl [(h0, .inr (8, [.ref q1, .int 0, .int 0, .int (-1), .int 20000, .int 100, .int 0, .ref q3, .ref q5, .ref q7, .ref q9, .ref q11, .ref q13, .null, .null, .null, .null, .null, .null, .null, .int 0, .int 0, .int 0, .int 0, .null, .null, .null, .null, .int 0, .int 0, .int 0])), (q1, .inl (cA2, 20000, .inl (fun _ => 0))), (q15, .inl (cA16, 64, .inl (fun _ => 0)))] H := hP
    have hD : va_D A [(h0, .inr (8, [.ref q1, .int 0, .int 0, .int (-1), .int 20000, .int 100, .int 0, .ref q3, .ref q5, .ref q7, .ref q9, .ref q11, .ref q13, .null, .null, .null, .null, .null, .null, .null, .int 0, .int 0, .int 0, .int 0, .null, .null, .null, .null, .int 0, .int 0, .int 0])), (q1, .inl (cA2, 20000, .inl (fun _ => 0))), (q15, .inl (cA16, 64, .inl (fun _ => 0)))] := hD
    have hK : va_K D zcl [(cA2, .byte), (cA16, .int)] s := hK
    refine va_putF (ci := 8) (v := .ref q15) (ty := .array .int) (C := "ZipGuardModel") (T := F_M) (N := 31) hx hb ht zi_M ty_M tk_M nm_M hown hK hP hD hS 0 rfl rfl 13 (by decide) (ht _ zm_765) (fun _ h9 => h9) rfl hnm rfl (by decide +kernel) rfl rfl (Nat.le_of_ble_eq_true rfl) d_M_init_84 (fun H locs hP hD hS => ?_)
    have hP : va_P D zcl [(h0, .inr (8, [.ref q1, .int 0, .int 0, .int (-1), .int 20000, .int 100, .int 0, .ref q3, .ref q5, .ref q7, .ref q9, .ref q11, .ref q13, .ref q15, .null, .null, .null, .null, .null, .null, .int 0, .int 0, .int 0, .int 0, .null, .null, .null, .null, .int 0, .int 0, .int 0])), (q1, .inl (cA2, 20000, .inl (fun _ => 0))), (q15, .inl (cA16, 64, .inl (fun _ => 0)))] H := hP
    have hD : va_D A [(h0, .inr (8, [.ref q1, .int 0, .int 0, .int (-1), .int 20000, .int 100, .int 0, .ref q3, .ref q5, .ref q7, .ref q9, .ref q11, .ref q13, .ref q15, .null, .null, .null, .null, .null, .null, .int 0, .int 0, .int 0, .int 0, .null, .null, .null, .null, .int 0, .int 0, .int 0])), (q1, .inl (cA2, 20000, .inl (fun _ => 0))), (q15, .inl (cA16, 64, .inl (fun _ => 0)))] := hD
    have hP := hP.sub (ws' := [(h0, .inr (8, [.ref q1, .int 0, .int 0, .int (-1), .int 20000, .int 100, .int 0, .ref q3, .ref q5, .ref q7, .ref q9, .ref q11, .ref q13, .ref q15, .null, .null, .null, .null, .null, .null, .int 0, .int 0, .int 0, .int 0, .null, .null, .null, .null, .int 0, .int 0, .int 0])), (q1, .inl (cA2, 20000, .inl (fun _ => 0)))]) [0, 1] rfl
    have hD := hD.sub (ws' := [(h0, .inr (8, [.ref q1, .int 0, .int 0, .int (-1), .int 20000, .int 100, .int 0, .ref q3, .ref q5, .ref q7, .ref q9, .ref q11, .ref q13, .ref q15, .null, .null, .null, .null, .null, .null, .int 0, .int 0, .int 0, .int 0, .null, .null, .null, .null, .int 0, .int 0, .int 0])), (q1, .inl (cA2, 20000, .inl (fun _ => 0)))]) [0, 1] (by decide) rfl
    have hK := hK.sub (tys' := [(cA2, .byte)]) [0] rfl
    refine lv_aload_n hx hb d_M_init_87 rfl (lv_at hl 0 rfl) ?_
    refine lv_sipush (v := 3840) hx hb d_M_init_88 (by decide) ?_
    refine va_newa (atype := .byte) (ty := .byte) (n := 3840) (N' := 3840) (a0 := (3840, .inl (fun _ => 0))) hx hb (ht _ zm_105) rfl hK hP hD hS hA (fun _ => rfl) (by decide) (by decide) (by decide) (Nat.le_of_ble_eq_true rfl) (Nat.le_of_ble_eq_true rfl) d_M_init_91 (fun q17 cA18 H hK hP hD hS => ?_)
    have hP : va_P D zcl [(h0, .inr (8, [.ref q1, .int 0, .int 0, .int (-1), .int 20000, .int 100, .int 0, .ref q3, .ref q5, .ref q7, .ref q9, .ref q11, .ref q13, .ref q15, .null, .null, .null, .null, .null, .null, .int 0, .int 0, .int 0, .int 0, .null, .null, .null, .null, .int 0, .int 0, .int 0])), (q1, .inl (cA2, 20000, .inl (fun _ => 0))), (q17, .inl (cA18, 3840, .inl (fun _ => 0)))] H := hP
    have hD : va_D A [(h0, .inr (8, [.ref q1, .int 0, .int 0, .int (-1), .int 20000, .int 100, .int 0, .ref q3, .ref q5, .ref q7, .ref q9, .ref q11, .ref q13, .ref q15, .null, .null, .null, .null, .null, .null, .int 0, .int 0, .int 0, .int 0, .null, .null, .null, .null, .int 0, .int 0, .int 0])), (q1, .inl (cA2, 20000, .inl (fun _ => 0))), (q17, .inl (cA18, 3840, .inl (fun _ => 0)))] := hD
    have hK : va_K D zcl [(cA2, .byte), (cA18, .byte)] s := hK
    refine va_putF (ci := 8) (v := .ref q17) (ty := .array .byte) (C := "ZipGuardModel") (T := F_M) (N := 31) hx hb ht zi_M ty_M tk_M nm_M hown hK hP hD hS 0 rfl rfl 14 (by decide) (ht _ zm_766) (fun _ h9 => h9) rfl hnm rfl (by decide +kernel) rfl rfl (Nat.le_of_ble_eq_true rfl) d_M_init_93 (fun H locs hP hD hS => ?_)
    have hP : va_P D zcl [(h0, .inr (8, [.ref q1, .int 0, .int 0, .int (-1), .int 20000, .int 100, .int 0, .ref q3, .ref q5, .ref q7, .ref q9, .ref q11, .ref q13, .ref q15, .ref q17, .null, .null, .null, .null, .null, .int 0, .int 0, .int 0, .int 0, .null, .null, .null, .null, .int 0, .int 0, .int 0])), (q1, .inl (cA2, 20000, .inl (fun _ => 0))), (q17, .inl (cA18, 3840, .inl (fun _ => 0)))] H := hP
    have hD : va_D A [(h0, .inr (8, [.ref q1, .int 0, .int 0, .int (-1), .int 20000, .int 100, .int 0, .ref q3, .ref q5, .ref q7, .ref q9, .ref q11, .ref q13, .ref q15, .ref q17, .null, .null, .null, .null, .null, .int 0, .int 0, .int 0, .int 0, .null, .null, .null, .null, .int 0, .int 0, .int 0])), (q1, .inl (cA2, 20000, .inl (fun _ => 0))), (q17, .inl (cA18, 3840, .inl (fun _ => 0)))] := hD
    have hP := hP.sub (ws' := [(h0, .inr (8, [.ref q1, .int 0, .int 0, .int (-1), .int 20000, .int 100, .int 0, .ref q3, .ref q5, .ref q7, .ref q9, .ref q11, .ref q13, .ref q15, .ref q17, .null, .null, .null, .null, .null, .int 0, .int 0, .int 0, .int 0, .null, .null, .null, .null, .int 0, .int 0, .int 0])), (q1, .inl (cA2, 20000, .inl (fun _ => 0)))]) [0, 1] rfl
    have hD := hD.sub (ws' := [(h0, .inr (8, [.ref q1, .int 0, .int 0, .int (-1), .int 20000, .int 100, .int 0, .ref q3, .ref q5, .ref q7, .ref q9, .ref q11, .ref q13, .ref q15, .ref q17, .null, .null, .null, .null, .null, .int 0, .int 0, .int 0, .int 0, .null, .null, .null, .null, .int 0, .int 0, .int 0])), (q1, .inl (cA2, 20000, .inl (fun _ => 0)))]) [0, 1] (by decide) rfl
    have hK := hK.sub (tys' := [(cA2, .byte)]) [0] rfl
    refine lv_aload_n hx hb d_M_init_96 rfl (lv_at hl 0 rfl) ?_
    refine lv_bipush (v := 64) hx hb d_M_init_97 (by decide) ?_
    refine va_newa (atype := .int) (ty := .int) (n := 64) (N' := 64) (a0 := (64, .inl (fun _ => 0))) hx hb (ht _ zm_269) rfl hK hP hD hS hA (fun _ => rfl) (by decide) (by decide) (by decide) (Nat.le_of_ble_eq_true rfl) (Nat.le_of_ble_eq_true rfl) d_M_init_99 (fun q19 cA20 H hK hP hD hS => ?_)
    have hP : va_P D zcl [(h0, .inr (8, [.ref q1, .int 0, .int 0, .int (-1), .int 20000, .int 100, .int 0, .ref q3, .ref q5, .ref q7, .ref q9, .ref q11, .ref q13, .ref q15, .ref q17, .null, .null, .null, .null, .null, .int 0, .int 0, .int 0, .int 0, .null, .null, .null, .null, .int 0, .int 0, .int 0])), (q1, .inl (cA2, 20000, .inl (fun _ => 0))), (q19, .inl (cA20, 64, .inl (fun _ => 0)))] H := hP
    have hD : va_D A [(h0, .inr (8, [.ref q1, .int 0, .int 0, .int (-1), .int 20000, .int 100, .int 0, .ref q3, .ref q5, .ref q7, .ref q9, .ref q11, .ref q13, .ref q15, .ref q17, .null, .null, .null, .null, .null, .int 0, .int 0, .int 0, .int 0, .null, .null, .null, .null, .int 0, .int 0, .int 0])), (q1, .inl (cA2, 20000, .inl (fun _ => 0))), (q19, .inl (cA20, 64, .inl (fun _ => 0)))] := hD
    have hK : va_K D zcl [(cA2, .byte), (cA20, .int)] s := hK
    refine va_putF (ci := 8) (v := .ref q19) (ty := .array .int) (C := "ZipGuardModel") (T := F_M) (N := 31) hx hb ht zi_M ty_M tk_M nm_M hown hK hP hD hS 0 rfl rfl 15 (by decide) (ht _ zm_767) (fun _ h9 => h9) rfl hnm rfl (by decide +kernel) rfl rfl (Nat.le_of_ble_eq_true rfl) d_M_init_101 (fun H locs hP hD hS => ?_)
    have hP : va_P D zcl [(h0, .inr (8, [.ref q1, .int 0, .int 0, .int (-1), .int 20000, .int 100, .int 0, .ref q3, .ref q5, .ref q7, .ref q9, .ref q11, .ref q13, .ref q15, .ref q17, .ref q19, .null, .null, .null, .null, .int 0, .int 0, .int 0, .int 0, .null, .null, .null, .null, .int 0, .int 0, .int 0])), (q1, .inl (cA2, 20000, .inl (fun _ => 0))), (q19, .inl (cA20, 64, .inl (fun _ => 0)))] H := hP
    have hD : va_D A [(h0, .inr (8, [.ref q1, .int 0, .int 0, .int (-1), .int 20000, .int 100, .int 0, .ref q3, .ref q5, .ref q7, .ref q9, .ref q11, .ref q13, .ref q15, .ref q17, .ref q19, .null, .null, .null, .null, .int 0, .int 0, .int 0, .int 0, .null, .null, .null, .null, .int 0, .int 0, .int 0])), (q1, .inl (cA2, 20000, .inl (fun _ => 0))), (q19, .inl (cA20, 64, .inl (fun _ => 0)))] := hD
    have hP := hP.sub (ws' := [(h0, .inr (8, [.ref q1, .int 0, .int 0, .int (-1), .int 20000, .int 100, .int 0, .ref q3, .ref q5, .ref q7, .ref q9, .ref q11, .ref q13, .ref q15, .ref q17, .ref q19, .null, .null, .null, .null, .int 0, .int 0, .int 0, .int 0, .null, .null, .null, .null, .int 0, .int 0, .int 0])), (q1, .inl (cA2, 20000, .inl (fun _ => 0)))]) [0, 1] rfl
    have hD := hD.sub (ws' := [(h0, .inr (8, [.ref q1, .int 0, .int 0, .int (-1), .int 20000, .int 100, .int 0, .ref q3, .ref q5, .ref q7, .ref q9, .ref q11, .ref q13, .ref q15, .ref q17, .ref q19, .null, .null, .null, .null, .int 0, .int 0, .int 0, .int 0, .null, .null, .null, .null, .int 0, .int 0, .int 0])), (q1, .inl (cA2, 20000, .inl (fun _ => 0)))]) [0, 1] (by decide) rfl
    have hK := hK.sub (tys' := [(cA2, .byte)]) [0] rfl
    refine lv_aload_n hx hb d_M_init_104 rfl (lv_at hl 0 rfl) ?_
    refine lv_bipush (v := 64) hx hb d_M_init_105 (by decide) ?_
    refine va_newa (atype := .int) (ty := .int) (n := 64) (N' := 64) (a0 := (64, .inl (fun _ => 0))) hx hb (ht _ zm_269) rfl hK hP hD hS hA (fun _ => rfl) (by decide) (by decide) (by decide) (Nat.le_of_ble_eq_true rfl) (Nat.le_of_ble_eq_true rfl) d_M_init_107 (fun q21 cA22 H hK hP hD hS => ?_)
    have hP : va_P D zcl [(h0, .inr (8, [.ref q1, .int 0, .int 0, .int (-1), .int 20000, .int 100, .int 0, .ref q3, .ref q5, .ref q7, .ref q9, .ref q11, .ref q13, .ref q15, .ref q17, .ref q19, .null, .null, .null, .null, .int 0, .int 0, .int 0, .int 0, .null, .null, .null, .null, .int 0, .int 0, .int 0])), (q1, .inl (cA2, 20000, .inl (fun _ => 0))), (q21, .inl (cA22, 64, .inl (fun _ => 0)))] H := hP
    have hD : va_D A [(h0, .inr (8, [.ref q1, .int 0, .int 0, .int (-1), .int 20000, .int 100, .int 0, .ref q3, .ref q5, .ref q7, .ref q9, .ref q11, .ref q13, .ref q15, .ref q17, .ref q19, .null, .null, .null, .null, .int 0, .int 0, .int 0, .int 0, .null, .null, .null, .null, .int 0, .int 0, .int 0])), (q1, .inl (cA2, 20000, .inl (fun _ => 0))), (q21, .inl (cA22, 64, .inl (fun _ => 0)))] := hD
    have hK : va_K D zcl [(cA2, .byte), (cA22, .int)] s := hK
    refine va_putF (ci := 8) (v := .ref q21) (ty := .array .int) (C := "ZipGuardModel") (T := F_M) (N := 31) hx hb ht zi_M ty_M tk_M nm_M hown hK hP hD hS 0 rfl rfl 16 (by decide) (ht _ zm_768) (fun _ h9 => h9) rfl hnm rfl (by decide +kernel) rfl rfl (Nat.le_of_ble_eq_true rfl) d_M_init_109 (fun H locs hP hD hS => ?_)
    have hP : va_P D zcl [(h0, .inr (8, [.ref q1, .int 0, .int 0, .int (-1), .int 20000, .int 100, .int 0, .ref q3, .ref q5, .ref q7, .ref q9, .ref q11, .ref q13, .ref q15, .ref q17, .ref q19, .ref q21, .null, .null, .null, .int 0, .int 0, .int 0, .int 0, .null, .null, .null, .null, .int 0, .int 0, .int 0])), (q1, .inl (cA2, 20000, .inl (fun _ => 0))), (q21, .inl (cA22, 64, .inl (fun _ => 0)))] H := hP
    have hD : va_D A [(h0, .inr (8, [.ref q1, .int 0, .int 0, .int (-1), .int 20000, .int 100, .int 0, .ref q3, .ref q5, .ref q7, .ref q9, .ref q11, .ref q13, .ref q15, .ref q17, .ref q19, .ref q21, .null, .null, .null, .int 0, .int 0, .int 0, .int 0, .null, .null, .null, .null, .int 0, .int 0, .int 0])), (q1, .inl (cA2, 20000, .inl (fun _ => 0))), (q21, .inl (cA22, 64, .inl (fun _ => 0)))] := hD
    have hP := hP.sub (ws' := [(h0, .inr (8, [.ref q1, .int 0, .int 0, .int (-1), .int 20000, .int 100, .int 0, .ref q3, .ref q5, .ref q7, .ref q9, .ref q11, .ref q13, .ref q15, .ref q17, .ref q19, .ref q21, .null, .null, .null, .int 0, .int 0, .int 0, .int 0, .null, .null, .null, .null, .int 0, .int 0, .int 0])), (q1, .inl (cA2, 20000, .inl (fun _ => 0)))]) [0, 1] rfl
    have hD := hD.sub (ws' := [(h0, .inr (8, [.ref q1, .int 0, .int 0, .int (-1), .int 20000, .int 100, .int 0, .ref q3, .ref q5, .ref q7, .ref q9, .ref q11, .ref q13, .ref q15, .ref q17, .ref q19, .ref q21, .null, .null, .null, .int 0, .int 0, .int 0, .int 0, .null, .null, .null, .null, .int 0, .int 0, .int 0])), (q1, .inl (cA2, 20000, .inl (fun _ => 0)))]) [0, 1] (by decide) rfl
    have hK := hK.sub (tys' := [(cA2, .byte)]) [0] rfl
    refine lv_aload_n hx hb d_M_init_112 rfl (lv_at hl 0 rfl) ?_
    refine lv_bipush (v := 64) hx hb d_M_init_113 (by decide) ?_
    refine va_newa (atype := .int) (ty := .int) (n := 64) (N' := 64) (a0 := (64, .inl (fun _ => 0))) hx hb (ht _ zm_269) rfl hK hP hD hS hA (fun _ => rfl) (by decide) (by decide) (by decide) (Nat.le_of_ble_eq_true rfl) (Nat.le_of_ble_eq_true rfl) d_M_init_115 (fun q23 cA24 H hK hP hD hS => ?_)
    have hP : va_P D zcl [(h0, .inr (8, [.ref q1, .int 0, .int 0, .int (-1), .int 20000, .int 100, .int 0, .ref q3, .ref q5, .ref q7, .ref q9, .ref q11, .ref q13, .ref q15, .ref q17, .ref q19, .ref q21, .null, .null, .null, .int 0, .int 0, .int 0, .int 0, .null, .null, .null, .null, .int 0, .int 0, .int 0])), (q1, .inl (cA2, 20000, .inl (fun _ => 0))), (q23, .inl (cA24, 64, .inl (fun _ => 0)))] H := hP
    have hD : va_D A [(h0, .inr (8, [.ref q1, .int 0, .int 0, .int (-1), .int 20000, .int 100, .int 0, .ref q3, .ref q5, .ref q7, .ref q9, .ref q11, .ref q13, .ref q15, .ref q17, .ref q19, .ref q21, .null, .null, .null, .int 0, .int 0, .int 0, .int 0, .null, .null, .null, .null, .int 0, .int 0, .int 0])), (q1, .inl (cA2, 20000, .inl (fun _ => 0))), (q23, .inl (cA24, 64, .inl (fun _ => 0)))] := hD
    have hK : va_K D zcl [(cA2, .byte), (cA24, .int)] s := hK
    refine va_putF (ci := 8) (v := .ref q23) (ty := .array .int) (C := "ZipGuardModel") (T := F_M) (N := 31) hx hb ht zi_M ty_M tk_M nm_M hown hK hP hD hS 0 rfl rfl 17 (by decide) (ht _ zm_769) (fun _ h9 => h9) rfl hnm rfl (by decide +kernel) rfl rfl (Nat.le_of_ble_eq_true rfl) d_M_init_117 (fun H locs hP hD hS => ?_)
    have hP : va_P D zcl [(h0, .inr (8, [.ref q1, .int 0, .int 0, .int (-1), .int 20000, .int 100, .int 0, .ref q3, .ref q5, .ref q7, .ref q9, .ref q11, .ref q13, .ref q15, .ref q17, .ref q19, .ref q21, .ref q23, .null, .null, .int 0, .int 0, .int 0, .int 0, .null, .null, .null, .null, .int 0, .int 0, .int 0])), (q1, .inl (cA2, 20000, .inl (fun _ => 0))), (q23, .inl (cA24, 64, .inl (fun _ => 0)))] H := hP
    have hD : va_D A [(h0, .inr (8, [.ref q1, .int 0, .int 0, .int (-1), .int 20000, .int 100, .int 0, .ref q3, .ref q5, .ref q7, .ref q9, .ref q11, .ref q13, .ref q15, .ref q17, .ref q19, .ref q21, .ref q23, .null, .null, .int 0, .int 0, .int 0, .int 0, .null, .null, .null, .null, .int 0, .int 0, .int 0])), (q1, .inl (cA2, 20000, .inl (fun _ => 0))), (q23, .inl (cA24, 64, .inl (fun _ => 0)))] := hD
    have hP := hP.sub (ws' := [(h0, .inr (8, [.ref q1, .int 0, .int 0, .int (-1), .int 20000, .int 100, .int 0, .ref q3, .ref q5, .ref q7, .ref q9, .ref q11, .ref q13, .ref q15, .ref q17, .ref q19, .ref q21, .ref q23, .null, .null, .int 0, .int 0, .int 0, .int 0, .null, .null, .null, .null, .int 0, .int 0, .int 0])), (q1, .inl (cA2, 20000, .inl (fun _ => 0)))]) [0, 1] rfl
    have hD := hD.sub (ws' := [(h0, .inr (8, [.ref q1, .int 0, .int 0, .int (-1), .int 20000, .int 100, .int 0, .ref q3, .ref q5, .ref q7, .ref q9, .ref q11, .ref q13, .ref q15, .ref q17, .ref q19, .ref q21, .ref q23, .null, .null, .int 0, .int 0, .int 0, .int 0, .null, .null, .null, .null, .int 0, .int 0, .int 0])), (q1, .inl (cA2, 20000, .inl (fun _ => 0)))]) [0, 1] (by decide) rfl
    have hK := hK.sub (tys' := [(cA2, .byte)]) [0] rfl
    refine lv_aload_n hx hb d_M_init_120 rfl (lv_at hl 0 rfl) ?_
    refine lv_bipush (v := 64) hx hb d_M_init_121 (by decide) ?_
    refine va_newa (atype := .int) (ty := .int) (n := 64) (N' := 64) (a0 := (64, .inl (fun _ => 0))) hx hb (ht _ zm_269) rfl hK hP hD hS hA (fun _ => rfl) (by decide) (by decide) (by decide) (Nat.le_of_ble_eq_true rfl) (Nat.le_of_ble_eq_true rfl) d_M_init_123 (fun q25 cA26 H hK hP hD hS => ?_)
    have hP : va_P D zcl [(h0, .inr (8, [.ref q1, .int 0, .int 0, .int (-1), .int 20000, .int 100, .int 0, .ref q3, .ref q5, .ref q7, .ref q9, .ref q11, .ref q13, .ref q15, .ref q17, .ref q19, .ref q21, .ref q23, .null, .null, .int 0, .int 0, .int 0, .int 0, .null, .null, .null, .null, .int 0, .int 0, .int 0])), (q1, .inl (cA2, 20000, .inl (fun _ => 0))), (q25, .inl (cA26, 64, .inl (fun _ => 0)))] H := hP
    have hD : va_D A [(h0, .inr (8, [.ref q1, .int 0, .int 0, .int (-1), .int 20000, .int 100, .int 0, .ref q3, .ref q5, .ref q7, .ref q9, .ref q11, .ref q13, .ref q15, .ref q17, .ref q19, .ref q21, .ref q23, .null, .null, .int 0, .int 0, .int 0, .int 0, .null, .null, .null, .null, .int 0, .int 0, .int 0])), (q1, .inl (cA2, 20000, .inl (fun _ => 0))), (q25, .inl (cA26, 64, .inl (fun _ => 0)))] := hD
    have hK : va_K D zcl [(cA2, .byte), (cA26, .int)] s := hK
    refine va_putF (ci := 8) (v := .ref q25) (ty := .array .int) (C := "ZipGuardModel") (T := F_M) (N := 31) hx hb ht zi_M ty_M tk_M nm_M hown hK hP hD hS 0 rfl rfl 18 (by decide) (ht _ zm_770) (fun _ h9 => h9) rfl hnm rfl (by decide +kernel) rfl rfl (Nat.le_of_ble_eq_true rfl) d_M_init_125 (fun H locs hP hD hS => ?_)
    have hP : va_P D zcl [(h0, .inr (8, [.ref q1, .int 0, .int 0, .int (-1), .int 20000, .int 100, .int 0, .ref q3, .ref q5, .ref q7, .ref q9, .ref q11, .ref q13, .ref q15, .ref q17, .ref q19, .ref q21, .ref q23, .ref q25, .null, .int 0, .int 0, .int 0, .int 0, .null, .null, .null, .null, .int 0, .int 0, .int 0])), (q1, .inl (cA2, 20000, .inl (fun _ => 0))), (q25, .inl (cA26, 64, .inl (fun _ => 0)))] H := hP
    have hD : va_D A [(h0, .inr (8, [.ref q1, .int 0, .int 0, .int (-1), .int 20000, .int 100, .int 0, .ref q3, .ref q5, .ref q7, .ref q9, .ref q11, .ref q13, .ref q15, .ref q17, .ref q19, .ref q21, .ref q23, .ref q25, .null, .int 0, .int 0, .int 0, .int 0, .null, .null, .null, .null, .int 0, .int 0, .int 0])), (q1, .inl (cA2, 20000, .inl (fun _ => 0))), (q25, .inl (cA26, 64, .inl (fun _ => 0)))] := hD
    have hP := hP.sub (ws' := [(h0, .inr (8, [.ref q1, .int 0, .int 0, .int (-1), .int 20000, .int 100, .int 0, .ref q3, .ref q5, .ref q7, .ref q9, .ref q11, .ref q13, .ref q15, .ref q17, .ref q19, .ref q21, .ref q23, .ref q25, .null, .int 0, .int 0, .int 0, .int 0, .null, .null, .null, .null, .int 0, .int 0, .int 0])), (q1, .inl (cA2, 20000, .inl (fun _ => 0)))]) [0, 1] rfl
    have hD := hD.sub (ws' := [(h0, .inr (8, [.ref q1, .int 0, .int 0, .int (-1), .int 20000, .int 100, .int 0, .ref q3, .ref q5, .ref q7, .ref q9, .ref q11, .ref q13, .ref q15, .ref q17, .ref q19, .ref q21, .ref q23, .ref q25, .null, .int 0, .int 0, .int 0, .int 0, .null, .null, .null, .null, .int 0, .int 0, .int 0])), (q1, .inl (cA2, 20000, .inl (fun _ => 0)))]) [0, 1] (by decide) rfl
    have hK := hK.sub (tys' := [(cA2, .byte)]) [0] rfl
    refine lv_aload_n hx hb d_M_init_128 rfl (lv_at hl 0 rfl) ?_
    refine lv_ldc (v := 40000) hx hb hown (ht _ zm_751) d_M_init_129 ?_
    refine va_newa (atype := .byte) (ty := .byte) (n := 40000) (N' := 40000) (a0 := (40000, .inl (fun _ => 0))) hx hb (ht _ zm_105) rfl hK hP hD hS hA (fun _ => rfl) (by decide) (by decide) (by decide) (Nat.le_of_ble_eq_true rfl) (Nat.le_of_ble_eq_true rfl) d_M_init_131 (fun q27 cA28 H hK hP hD hS => ?_)
    have hP : va_P D zcl [(h0, .inr (8, [.ref q1, .int 0, .int 0, .int (-1), .int 20000, .int 100, .int 0, .ref q3, .ref q5, .ref q7, .ref q9, .ref q11, .ref q13, .ref q15, .ref q17, .ref q19, .ref q21, .ref q23, .ref q25, .null, .int 0, .int 0, .int 0, .int 0, .null, .null, .null, .null, .int 0, .int 0, .int 0])), (q1, .inl (cA2, 20000, .inl (fun _ => 0))), (q27, .inl (cA28, 40000, .inl (fun _ => 0)))] H := hP
    have hD : va_D A [(h0, .inr (8, [.ref q1, .int 0, .int 0, .int (-1), .int 20000, .int 100, .int 0, .ref q3, .ref q5, .ref q7, .ref q9, .ref q11, .ref q13, .ref q15, .ref q17, .ref q19, .ref q21, .ref q23, .ref q25, .null, .int 0, .int 0, .int 0, .int 0, .null, .null, .null, .null, .int 0, .int 0, .int 0])), (q1, .inl (cA2, 20000, .inl (fun _ => 0))), (q27, .inl (cA28, 40000, .inl (fun _ => 0)))] := hD
    have hK : va_K D zcl [(cA2, .byte), (cA28, .byte)] s := hK
    refine va_putF (ci := 8) (v := .ref q27) (ty := .array .byte) (C := "ZipGuardModel") (T := F_M) (N := 31) hx hb ht zi_M ty_M tk_M nm_M hown hK hP hD hS 0 rfl rfl 19 (by decide) (ht _ zm_771) (fun _ h9 => h9) rfl hnm rfl (by decide +kernel) rfl rfl (Nat.le_of_ble_eq_true rfl) d_M_init_133 (fun H locs hP hD hS => ?_)
    have hP : va_P D zcl [(h0, .inr (8, [.ref q1, .int 0, .int 0, .int (-1), .int 20000, .int 100, .int 0, .ref q3, .ref q5, .ref q7, .ref q9, .ref q11, .ref q13, .ref q15, .ref q17, .ref q19, .ref q21, .ref q23, .ref q25, .ref q27, .int 0, .int 0, .int 0, .int 0, .null, .null, .null, .null, .int 0, .int 0, .int 0])), (q1, .inl (cA2, 20000, .inl (fun _ => 0))), (q27, .inl (cA28, 40000, .inl (fun _ => 0)))] H := hP
    have hD : va_D A [(h0, .inr (8, [.ref q1, .int 0, .int 0, .int (-1), .int 20000, .int 100, .int 0, .ref q3, .ref q5, .ref q7, .ref q9, .ref q11, .ref q13, .ref q15, .ref q17, .ref q19, .ref q21, .ref q23, .ref q25, .ref q27, .int 0, .int 0, .int 0, .int 0, .null, .null, .null, .null, .int 0, .int 0, .int 0])), (q1, .inl (cA2, 20000, .inl (fun _ => 0))), (q27, .inl (cA28, 40000, .inl (fun _ => 0)))] := hD
    have hP := hP.sub (ws' := [(h0, .inr (8, [.ref q1, .int 0, .int 0, .int (-1), .int 20000, .int 100, .int 0, .ref q3, .ref q5, .ref q7, .ref q9, .ref q11, .ref q13, .ref q15, .ref q17, .ref q19, .ref q21, .ref q23, .ref q25, .ref q27, .int 0, .int 0, .int 0, .int 0, .null, .null, .null, .null, .int 0, .int 0, .int 0])), (q1, .inl (cA2, 20000, .inl (fun _ => 0)))]) [0, 1] rfl
    have hD := hD.sub (ws' := [(h0, .inr (8, [.ref q1, .int 0, .int 0, .int (-1), .int 20000, .int 100, .int 0, .ref q3, .ref q5, .ref q7, .ref q9, .ref q11, .ref q13, .ref q15, .ref q17, .ref q19, .ref q21, .ref q23, .ref q25, .ref q27, .int 0, .int 0, .int 0, .int 0, .null, .null, .null, .null, .int 0, .int 0, .int 0])), (q1, .inl (cA2, 20000, .inl (fun _ => 0)))]) [0, 1] (by decide) rfl
    have hK := hK.sub (tys' := [(cA2, .byte)]) [0] rfl
    refine lv_aload_n hx hb d_M_init_136 rfl (lv_at hl 0 rfl) ?_
    refine lv_sipush (v := 320) hx hb d_M_init_137 (by decide) ?_
    refine va_newa (atype := .int) (ty := .int) (n := 320) (N' := 320) (a0 := (320, .inl (fun _ => 0))) hx hb (ht _ zm_269) rfl hK hP hD hS hA (fun _ => rfl) (by decide) (by decide) (by decide) (Nat.le_of_ble_eq_true rfl) (Nat.le_of_ble_eq_true rfl) d_M_init_140 (fun q29 cA30 H hK hP hD hS => ?_)
    have hP : va_P D zcl [(h0, .inr (8, [.ref q1, .int 0, .int 0, .int (-1), .int 20000, .int 100, .int 0, .ref q3, .ref q5, .ref q7, .ref q9, .ref q11, .ref q13, .ref q15, .ref q17, .ref q19, .ref q21, .ref q23, .ref q25, .ref q27, .int 0, .int 0, .int 0, .int 0, .null, .null, .null, .null, .int 0, .int 0, .int 0])), (q1, .inl (cA2, 20000, .inl (fun _ => 0))), (q29, .inl (cA30, 320, .inl (fun _ => 0)))] H := hP
    have hD : va_D A [(h0, .inr (8, [.ref q1, .int 0, .int 0, .int (-1), .int 20000, .int 100, .int 0, .ref q3, .ref q5, .ref q7, .ref q9, .ref q11, .ref q13, .ref q15, .ref q17, .ref q19, .ref q21, .ref q23, .ref q25, .ref q27, .int 0, .int 0, .int 0, .int 0, .null, .null, .null, .null, .int 0, .int 0, .int 0])), (q1, .inl (cA2, 20000, .inl (fun _ => 0))), (q29, .inl (cA30, 320, .inl (fun _ => 0)))] := hD
    have hK : va_K D zcl [(cA2, .byte), (cA30, .int)] s := hK
    refine va_putF (ci := 8) (v := .ref q29) (ty := .array .int) (C := "ZipGuardModel") (T := F_M) (N := 31) hx hb ht zi_M ty_M tk_M nm_M hown hK hP hD hS 0 rfl rfl 24 (by decide) (ht _ zm_776) (fun _ h9 => h9) rfl hnm rfl (by decide +kernel) rfl rfl (Nat.le_of_ble_eq_true rfl) d_M_init_142 (fun H locs hP hD hS => ?_)
    have hP : va_P D zcl [(h0, .inr (8, [.ref q1, .int 0, .int 0, .int (-1), .int 20000, .int 100, .int 0, .ref q3, .ref q5, .ref q7, .ref q9, .ref q11, .ref q13, .ref q15, .ref q17, .ref q19, .ref q21, .ref q23, .ref q25, .ref q27, .int 0, .int 0, .int 0, .int 0, .ref q29, .null, .null, .null, .int 0, .int 0, .int 0])), (q1, .inl (cA2, 20000, .inl (fun _ => 0))), (q29, .inl (cA30, 320, .inl (fun _ => 0)))] H := hP
    have hD : va_D A [(h0, .inr (8, [.ref q1, .int 0, .int 0, .int (-1), .int 20000, .int 100, .int 0, .ref q3, .ref q5, .ref q7, .ref q9, .ref q11, .ref q13, .ref q15, .ref q17, .ref q19, .ref q21, .ref q23, .ref q25, .ref q27, .int 0, .int 0, .int 0, .int 0, .ref q29, .null, .null, .null, .int 0, .int 0, .int 0])), (q1, .inl (cA2, 20000, .inl (fun _ => 0))), (q29, .inl (cA30, 320, .inl (fun _ => 0)))] := hD
    have hP := hP.sub (ws' := [(h0, .inr (8, [.ref q1, .int 0, .int 0, .int (-1), .int 20000, .int 100, .int 0, .ref q3, .ref q5, .ref q7, .ref q9, .ref q11, .ref q13, .ref q15, .ref q17, .ref q19, .ref q21, .ref q23, .ref q25, .ref q27, .int 0, .int 0, .int 0, .int 0, .ref q29, .null, .null, .null, .int 0, .int 0, .int 0])), (q1, .inl (cA2, 20000, .inl (fun _ => 0)))]) [0, 1] rfl
    have hD := hD.sub (ws' := [(h0, .inr (8, [.ref q1, .int 0, .int 0, .int (-1), .int 20000, .int 100, .int 0, .ref q3, .ref q5, .ref q7, .ref q9, .ref q11, .ref q13, .ref q15, .ref q17, .ref q19, .ref q21, .ref q23, .ref q25, .ref q27, .int 0, .int 0, .int 0, .int 0, .ref q29, .null, .null, .null, .int 0, .int 0, .int 0])), (q1, .inl (cA2, 20000, .inl (fun _ => 0)))]) [0, 1] (by decide) rfl
    have hK := hK.sub (tys' := [(cA2, .byte)]) [0] rfl
    refine lv_aload_n hx hb d_M_init_145 rfl (lv_at hl 0 rfl) ?_
    refine lv_bipush (v := 19) hx hb d_M_init_146 (by decide) ?_
    refine va_newa (atype := .int) (ty := .int) (n := 19) (N' := 19) (a0 := (19, .inl (fun _ => 0))) hx hb (ht _ zm_269) rfl hK hP hD hS hA (fun _ => rfl) (by decide) (by decide) (by decide) (Nat.le_of_ble_eq_true rfl) (Nat.le_of_ble_eq_true rfl) d_M_init_148 (fun q31 cA32 H hK hP hD hS => ?_)
    have hP : va_P D zcl [(h0, .inr (8, [.ref q1, .int 0, .int 0, .int (-1), .int 20000, .int 100, .int 0, .ref q3, .ref q5, .ref q7, .ref q9, .ref q11, .ref q13, .ref q15, .ref q17, .ref q19, .ref q21, .ref q23, .ref q25, .ref q27, .int 0, .int 0, .int 0, .int 0, .ref q29, .null, .null, .null, .int 0, .int 0, .int 0])), (q1, .inl (cA2, 20000, .inl (fun _ => 0))), (q31, .inl (cA32, 19, .inl (fun _ => 0)))] H := hP
    have hD : va_D A [(h0, .inr (8, [.ref q1, .int 0, .int 0, .int (-1), .int 20000, .int 100, .int 0, .ref q3, .ref q5, .ref q7, .ref q9, .ref q11, .ref q13, .ref q15, .ref q17, .ref q19, .ref q21, .ref q23, .ref q25, .ref q27, .int 0, .int 0, .int 0, .int 0, .ref q29, .null, .null, .null, .int 0, .int 0, .int 0])), (q1, .inl (cA2, 20000, .inl (fun _ => 0))), (q31, .inl (cA32, 19, .inl (fun _ => 0)))] := hD
    have hK : va_K D zcl [(cA2, .byte), (cA32, .int)] s := hK
    refine va_putF (ci := 8) (v := .ref q31) (ty := .array .int) (C := "ZipGuardModel") (T := F_M) (N := 31) hx hb ht zi_M ty_M tk_M nm_M hown hK hP hD hS 0 rfl rfl 25 (by decide) (ht _ zm_777) (fun _ h9 => h9) rfl hnm rfl (by decide +kernel) rfl rfl (Nat.le_of_ble_eq_true rfl) d_M_init_150 (fun H locs hP hD hS => ?_)
    have hP : va_P D zcl [(h0, .inr (8, [.ref q1, .int 0, .int 0, .int (-1), .int 20000, .int 100, .int 0, .ref q3, .ref q5, .ref q7, .ref q9, .ref q11, .ref q13, .ref q15, .ref q17, .ref q19, .ref q21, .ref q23, .ref q25, .ref q27, .int 0, .int 0, .int 0, .int 0, .ref q29, .ref q31, .null, .null, .int 0, .int 0, .int 0])), (q1, .inl (cA2, 20000, .inl (fun _ => 0))), (q31, .inl (cA32, 19, .inl (fun _ => 0)))] H := hP
    have hD : va_D A [(h0, .inr (8, [.ref q1, .int 0, .int 0, .int (-1), .int 20000, .int 100, .int 0, .ref q3, .ref q5, .ref q7, .ref q9, .ref q11, .ref q13, .ref q15, .ref q17, .ref q19, .ref q21, .ref q23, .ref q25, .ref q27, .int 0, .int 0, .int 0, .int 0, .ref q29, .ref q31, .null, .null, .int 0, .int 0, .int 0])), (q1, .inl (cA2, 20000, .inl (fun _ => 0))), (q31, .inl (cA32, 19, .inl (fun _ => 0)))] := hD
    have hP := hP.sub (ws' := [(h0, .inr (8, [.ref q1, .int 0, .int 0, .int (-1), .int 20000, .int 100, .int 0, .ref q3, .ref q5, .ref q7, .ref q9, .ref q11, .ref q13, .ref q15, .ref q17, .ref q19, .ref q21, .ref q23, .ref q25, .ref q27, .int 0, .int 0, .int 0, .int 0, .ref q29, .ref q31, .null, .null, .int 0, .int 0, .int 0])), (q1, .inl (cA2, 20000, .inl (fun _ => 0)))]) [0, 1] rfl
    have hD := hD.sub (ws' := [(h0, .inr (8, [.ref q1, .int 0, .int 0, .int (-1), .int 20000, .int 100, .int 0, .ref q3, .ref q5, .ref q7, .ref q9, .ref q11, .ref q13, .ref q15, .ref q17, .ref q19, .ref q21, .ref q23, .ref q25, .ref q27, .int 0, .int 0, .int 0, .int 0, .ref q29, .ref q31, .null, .null, .int 0, .int 0, .int 0])), (q1, .inl (cA2, 20000, .inl (fun _ => 0)))]) [0, 1] (by decide) rfl
    have hK := hK.sub (tys' := [(cA2, .byte)]) [0] rfl
    refine lv_aload_n hx hb d_M_init_153 rfl (lv_at hl 0 rfl) ?_
    refine lv_sipush (v := 320) hx hb d_M_init_154 (by decide) ?_
    refine va_newa (atype := .int) (ty := .int) (n := 320) (N' := 320) (a0 := (320, .inl (fun _ => 0))) hx hb (ht _ zm_269) rfl hK hP hD hS hA (fun _ => rfl) (by decide) (by decide) (by decide) (Nat.le_of_ble_eq_true rfl) (Nat.le_of_ble_eq_true rfl) d_M_init_157 (fun q33 cA34 H hK hP hD hS => ?_)
    have hP : va_P D zcl [(h0, .inr (8, [.ref q1, .int 0, .int 0, .int (-1), .int 20000, .int 100, .int 0, .ref q3, .ref q5, .ref q7, .ref q9, .ref q11, .ref q13, .ref q15, .ref q17, .ref q19, .ref q21, .ref q23, .ref q25, .ref q27, .int 0, .int 0, .int 0, .int 0, .ref q29, .ref q31, .null, .null, .int 0, .int 0, .int 0])), (q1, .inl (cA2, 20000, .inl (fun _ => 0))), (q33, .inl (cA34, 320, .inl (fun _ => 0)))] H := hP
    have hD : va_D A [(h0, .inr (8, [.ref q1, .int 0, .int 0, .int (-1), .int 20000, .int 100, .int 0, .ref q3, .ref q5, .ref q7, .ref q9, .ref q11, .ref q13, .ref q15, .ref q17, .ref q19, .ref q21, .ref q23, .ref q25, .ref q27, .int 0, .int 0, .int 0, .int 0, .ref q29, .ref q31, .null, .null, .int 0, .int 0, .int 0])), (q1, .inl (cA2, 20000, .inl (fun _ => 0))), (q33, .inl (cA34, 320, .inl (fun _ => 0)))] := hD
    have hK : va_K D zcl [(cA2, .byte), (cA34, .int)] s := hK
    refine va_putF (ci := 8) (v := .ref q33) (ty := .array .int) (C := "ZipGuardModel") (T := F_M) (N := 31) hx hb ht zi_M ty_M tk_M nm_M hown hK hP hD hS 0 rfl rfl 26 (by decide) (ht _ zm_778) (fun _ h9 => h9) rfl hnm rfl (by decide +kernel) rfl rfl (Nat.le_of_ble_eq_true rfl) d_M_init_159 (fun H locs hP hD hS => ?_)
    have hP : va_P D zcl [(h0, .inr (8, [.ref q1, .int 0, .int 0, .int (-1), .int 20000, .int 100, .int 0, .ref q3, .ref q5, .ref q7, .ref q9, .ref q11, .ref q13, .ref q15, .ref q17, .ref q19, .ref q21, .ref q23, .ref q25, .ref q27, .int 0, .int 0, .int 0, .int 0, .ref q29, .ref q31, .ref q33, .null, .int 0, .int 0, .int 0])), (q1, .inl (cA2, 20000, .inl (fun _ => 0))), (q33, .inl (cA34, 320, .inl (fun _ => 0)))] H := hP
    have hD : va_D A [(h0, .inr (8, [.ref q1, .int 0, .int 0, .int (-1), .int 20000, .int 100, .int 0, .ref q3, .ref q5, .ref q7, .ref q9, .ref q11, .ref q13, .ref q15, .ref q17, .ref q19, .ref q21, .ref q23, .ref q25, .ref q27, .int 0, .int 0, .int 0, .int 0, .ref q29, .ref q31, .ref q33, .null, .int 0, .int 0, .int 0])), (q1, .inl (cA2, 20000, .inl (fun _ => 0))), (q33, .inl (cA34, 320, .inl (fun _ => 0)))] := hD
    have hP := hP.sub (ws' := [(h0, .inr (8, [.ref q1, .int 0, .int 0, .int (-1), .int 20000, .int 100, .int 0, .ref q3, .ref q5, .ref q7, .ref q9, .ref q11, .ref q13, .ref q15, .ref q17, .ref q19, .ref q21, .ref q23, .ref q25, .ref q27, .int 0, .int 0, .int 0, .int 0, .ref q29, .ref q31, .ref q33, .null, .int 0, .int 0, .int 0])), (q1, .inl (cA2, 20000, .inl (fun _ => 0)))]) [0, 1] rfl
    have hD := hD.sub (ws' := [(h0, .inr (8, [.ref q1, .int 0, .int 0, .int (-1), .int 20000, .int 100, .int 0, .ref q3, .ref q5, .ref q7, .ref q9, .ref q11, .ref q13, .ref q15, .ref q17, .ref q19, .ref q21, .ref q23, .ref q25, .ref q27, .int 0, .int 0, .int 0, .int 0, .ref q29, .ref q31, .ref q33, .null, .int 0, .int 0, .int 0])), (q1, .inl (cA2, 20000, .inl (fun _ => 0)))]) [0, 1] (by decide) rfl
    have hK := hK.sub (tys' := [(cA2, .byte)]) [0] rfl
    refine lv_aload_n hx hb d_M_init_162 rfl (lv_at hl 0 rfl) ?_
    refine lv_bipush (v := 19) hx hb d_M_init_163 (by decide) ?_
    refine va_newa (atype := .int) (ty := .int) (n := 19) (N' := 19) (a0 := (19, .inl (fun _ => 0))) hx hb (ht _ zm_269) rfl hK hP hD hS hA (fun _ => rfl) (by decide) (by decide) (by decide) (Nat.le_of_ble_eq_true rfl) (Nat.le_of_ble_eq_true rfl) d_M_init_165 (fun q35 cA36 H hK hP hD hS => ?_)
    have hP : va_P D zcl [(h0, .inr (8, [.ref q1, .int 0, .int 0, .int (-1), .int 20000, .int 100, .int 0, .ref q3, .ref q5, .ref q7, .ref q9, .ref q11, .ref q13, .ref q15, .ref q17, .ref q19, .ref q21, .ref q23, .ref q25, .ref q27, .int 0, .int 0, .int 0, .int 0, .ref q29, .ref q31, .ref q33, .null, .int 0, .int 0, .int 0])), (q1, .inl (cA2, 20000, .inl (fun _ => 0))), (q35, .inl (cA36, 19, .inl (fun _ => 0)))] H := hP
    have hD : va_D A [(h0, .inr (8, [.ref q1, .int 0, .int 0, .int (-1), .int 20000, .int 100, .int 0, .ref q3, .ref q5, .ref q7, .ref q9, .ref q11, .ref q13, .ref q15, .ref q17, .ref q19, .ref q21, .ref q23, .ref q25, .ref q27, .int 0, .int 0, .int 0, .int 0, .ref q29, .ref q31, .ref q33, .null, .int 0, .int 0, .int 0])), (q1, .inl (cA2, 20000, .inl (fun _ => 0))), (q35, .inl (cA36, 19, .inl (fun _ => 0)))] := hD
    have hK : va_K D zcl [(cA2, .byte), (cA36, .int)] s := hK
    refine va_putF (ci := 8) (v := .ref q35) (ty := .array .int) (C := "ZipGuardModel") (T := F_M) (N := 31) hx hb ht zi_M ty_M tk_M nm_M hown hK hP hD hS 0 rfl rfl 27 (by decide) (ht _ zm_779) (fun _ h9 => h9) rfl hnm rfl (by decide +kernel) rfl rfl (Nat.le_of_ble_eq_true rfl) d_M_init_167 (fun H locs hP hD hS => ?_)
    have hP : va_P D zcl [(h0, .inr (8, [.ref q1, .int 0, .int 0, .int (-1), .int 20000, .int 100, .int 0, .ref q3, .ref q5, .ref q7, .ref q9, .ref q11, .ref q13, .ref q15, .ref q17, .ref q19, .ref q21, .ref q23, .ref q25, .ref q27, .int 0, .int 0, .int 0, .int 0, .ref q29, .ref q31, .ref q33, .ref q35, .int 0, .int 0, .int 0])), (q1, .inl (cA2, 20000, .inl (fun _ => 0))), (q35, .inl (cA36, 19, .inl (fun _ => 0)))] H := hP
    have hD : va_D A [(h0, .inr (8, [.ref q1, .int 0, .int 0, .int (-1), .int 20000, .int 100, .int 0, .ref q3, .ref q5, .ref q7, .ref q9, .ref q11, .ref q13, .ref q15, .ref q17, .ref q19, .ref q21, .ref q23, .ref q25, .ref q27, .int 0, .int 0, .int 0, .int 0, .ref q29, .ref q31, .ref q33, .ref q35, .int 0, .int 0, .int 0])), (q1, .inl (cA2, 20000, .inl (fun _ => 0))), (q35, .inl (cA36, 19, .inl (fun _ => 0)))] := hD
    have hP := hP.sub (ws' := [(h0, .inr (8, [.ref q1, .int 0, .int 0, .int (-1), .int 20000, .int 100, .int 0, .ref q3, .ref q5, .ref q7, .ref q9, .ref q11, .ref q13, .ref q15, .ref q17, .ref q19, .ref q21, .ref q23, .ref q25, .ref q27, .int 0, .int 0, .int 0, .int 0, .ref q29, .ref q31, .ref q33, .ref q35, .int 0, .int 0, .int 0])), (q1, .inl (cA2, 20000, .inl (fun _ => 0)))]) [0, 1] rfl
    have hD := hD.sub (ws' := [(h0, .inr (8, [.ref q1, .int 0, .int 0, .int (-1), .int 20000, .int 100, .int 0, .ref q3, .ref q5, .ref q7, .ref q9, .ref q11, .ref q13, .ref q15, .ref q17, .ref q19, .ref q21, .ref q23, .ref q25, .ref q27, .int 0, .int 0, .int 0, .int 0, .ref q29, .ref q31, .ref q33, .ref q35, .int 0, .int 0, .int 0])), (q1, .inl (cA2, 20000, .inl (fun _ => 0)))]) [0, 1] (by decide) rfl
    have hK := hK.sub (tys' := [(cA2, .byte)]) [0] rfl
    exact zretv hx hb hr hlk hK hP hD hS (q1, q3, q5, q7, q9, q11, q13, q15, q17, q19, q21, q23, q25, q27, q29, q31, q33, q35, cA2) [0, 1] [0] rfl (by decide) rfl (trivial) (Nat.le_of_ble_eq_true rfl) (Nat.le_of_ble_eq_true rfl) d_M_init_170)
set_option maxHeartbeats 4000000 in
set_option maxRecDepth 100000 in
theorem c_M_thrown (l : Launch) (D : va_G) (sz : Nat) (h0 : Nat) (m_tape : Nat) (m_methods : Nat) (m_packed : Nat) (m_sizes : Nat) (m_sums : Nat) (m_datas : Nat) (m_locals : Nat) (m_localEnds : Nat) (m_names : Nat) (m_nameSizes : Nat) (m_states : Nat) (m_starts : Nat) (m_counts : Nat) (m_written : Nat) (m_lengths : Nat) (m_small : Nat) (m_codes : Nat) (m_smallCodes : Nat) (n0 : Int32) (op : Int32) (fp : Int32) (bu : Int32) (ra : Int32) (en : Int32) (to : Int32) (w1 : Int32) (w2 : Int32) (w3 : Int32) (w4 : Int32) (w5 : Int32) (th : Int32)  : Met l y_M_thrown (Cond.code y_M_thrown prog_10_method_2_code 1 (Option.some Jvm.ClassFile.FieldType.int) :: zt) { frames := 0, cells := 0, slots := 0, locals := 0 } (zPc [.ref h0] D [(h0, .inr (8, [.ref m_tape, .int n0, .int op, .int fp, .int bu, .int ra, .int en, .ref m_methods, .ref m_packed, .ref m_sizes, .ref m_sums, .ref m_datas, .ref m_locals, .ref m_localEnds, .ref m_names, .ref m_nameSizes, .ref m_states, .ref m_starts, .ref m_counts, .ref m_written, .int to, .int w1, .int w2, .int w3, .ref m_lengths, .ref m_small, .ref m_codes, .ref m_smallCodes, .int w4, .int w5, .int th]))] [] sz (fun _ => True)) (va_Qi (fun (r : Int32) => fun (_ : Unit) => r = th) (fun u t => zB D ((fun (_ : Unit) => [(h0, .inr (8, [.ref m_tape, .int n0, .int op, .int fp, .int bu, .int ra, .int en, .ref m_methods, .ref m_packed, .ref m_sizes, .ref m_sums, .ref m_datas, .ref m_locals, .ref m_localEnds, .ref m_names, .ref m_nameSizes, .ref m_states, .ref m_starts, .ref m_counts, .ref m_written, .int to, .int w1, .int w2, .int w3, .ref m_lengths, .ref m_small, .ref m_codes, .ref m_smallCodes, .int w4, .int w5, .int th]))]) u) ((fun (_ : Unit) => []) u) (va_A [(h0, .inr (8, [.ref m_tape, .int n0, .int op, .int fp, .int bu, .int ra, .int en, .ref m_methods, .ref m_packed, .ref m_sizes, .ref m_sums, .ref m_datas, .ref m_locals, .ref m_localEnds, .ref m_names, .ref m_nameSizes, .ref m_states, .ref m_starts, .ref m_counts, .ref m_written, .int to, .int w1, .int w2, .int w3, .ref m_lengths, .ref m_small, .ref m_codes, .ref m_smallCodes, .int w4, .int w5, .int th]))] sz) t) (va_A [(h0, .inr (8, [.ref m_tape, .int n0, .int op, .int fp, .int bu, .int ra, .int en, .ref m_methods, .ref m_packed, .ref m_sizes, .ref m_sums, .ref m_datas, .ref m_locals, .ref m_localEnds, .ref m_names, .ref m_nameSizes, .ref m_states, .ref m_starts, .ref m_counts, .ref m_written, .int to, .int w1, .int w2, .int w3, .ref m_lengths, .ref m_small, .ref m_codes, .ref m_smallCodes, .int w4, .int w5, .int th]))] sz)) 0 0 (va_A [(h0, .inr (8, [.ref m_tape, .int n0, .int op, .int fp, .int bu, .int ra, .int en, .ref m_methods, .ref m_packed, .ref m_sizes, .ref m_sums, .ref m_datas, .ref m_locals, .ref m_localEnds, .ref m_names, .ref m_nameSizes, .ref m_states, .ref m_starts, .ref m_counts, .ref m_written, .int to, .int w1, .int w2, .int w3, .ref m_lengths, .ref m_small, .ref m_codes, .ref m_smallCodes, .int w4, .int w5, .int th]))] sz) :=
  zMet (Qf := fun A => va_Qi (fun (r : Int32) => fun (_ : Unit) => r = th) (fun u t => zB D ((fun (_ : Unit) => [(h0, .inr (8, [.ref m_tape, .int n0, .int op, .int fp, .int bu, .int ra, .int en, .ref m_methods, .ref m_packed, .ref m_sizes, .ref m_sums, .ref m_datas, .ref m_locals, .ref m_localEnds, .ref m_names, .ref m_nameSizes, .ref m_states, .ref m_starts, .ref m_counts, .ref m_written, .int to, .int w1, .int w2, .int w3, .ref m_lengths, .ref m_small, .ref m_codes, .ref m_smallCodes, .int w4, .int w5, .int th]))]) u) ((fun (_ : Unit) => []) u) A t) A) (by decide) (Nat.le_of_ble_eq_true rfl) (fun p e s m below meth c A ls hx hb hr hml hown ht hlk hnm hA hK hP hD hX hl => by
    have hS : va_S A s.heap s.heap [] := va_S.rf
    have hl : lv_has ls 1 [(0, .ref h0)] := hl
    refine lv_aload_n hx hb d_M_thrown_0 rfl (lv_at hl 0 rfl) ?_
    refine va_get (ci := 8) (C := "ZipGuardModel") (T := F_M) (N := 31) hx hb ht zi_M hown hK hP 0 rfl rfl 30 (by decide) (ht _ zm_782) (fun _ h9 => h9) rfl d_M_thrown_1 ?_
    exact zreti hx hb hr hlk hK hP hD hS () [0] [] rfl (by decide) rfl (rfl) (Nat.le_of_ble_eq_true rfl) (Nat.le_of_ble_eq_true rfl) d_M_thrown_4)
set_option maxHeartbeats 4000000 in
set_option maxRecDepth 100000 in
theorem c_M_f0 (l : Launch) (D : va_G) (sz : Nat) (h0 : Nat) (m_tape : Nat) (m_methods : Nat) (m_packed : Nat) (m_sizes : Nat) (m_sums : Nat) (m_datas : Nat) (m_locals : Nat) (m_localEnds : Nat) (m_names : Nat) (m_nameSizes : Nat) (m_states : Nat) (m_starts : Nat) (m_counts : Nat) (m_written : Nat) (m_lengths : Nat) (m_small : Nat) (m_codes : Nat) (m_smallCodes : Nat) (n0 : Int32) (op : Int32) (fp : Int32) (bu : Int32) (ra : Int32) (en : Int32) (to : Int32) (w1 : Int32) (w2 : Int32) (w3 : Int32) (w4 : Int32) (w5 : Int32) (th : Int32) (kd : Int32)  : Met l y_M_fails (Cond.code y_M_fails prog_10_method_3_code 3 (Option.some Jvm.ClassFile.FieldType.boolean) :: zt) { frames := 0, cells := 0, slots := 0, locals := 0 } (zPc [.ref h0, .int 0, .int kd] D [(h0, .inr (8, [.ref m_tape, .int n0, .int op, .int fp, .int bu, .int ra, .int en, .ref m_methods, .ref m_packed, .ref m_sizes, .ref m_sums, .ref m_datas, .ref m_locals, .ref m_localEnds, .ref m_names, .ref m_nameSizes, .ref m_states, .ref m_starts, .ref m_counts, .ref m_written, .int to, .int w1, .int w2, .int w3, .ref m_lengths, .ref m_small, .ref m_codes, .ref m_smallCodes, .int w4, .int w5, .int th]))] [] sz (fun _ => True)) (va_Qi (fun (r : Int32) => fun (_ : Unit) => r = 0) (fun u t => zB D ((fun (_ : Unit) => [(h0, .inr (8, [.ref m_tape, .int n0, .int op, .int fp, .int bu, .int ra, .int en, .ref m_methods, .ref m_packed, .ref m_sizes, .ref m_sums, .ref m_datas, .ref m_locals, .ref m_localEnds, .ref m_names, .ref m_nameSizes, .ref m_states, .ref m_starts, .ref m_counts, .ref m_written, .int to, .int w1, .int w2, .int w3, .ref m_lengths, .ref m_small, .ref m_codes, .ref m_smallCodes, .int w4, .int w5, .int 0]))]) u) ((fun (_ : Unit) => []) u) (va_A [(h0, .inr (8, [.ref m_tape, .int n0, .int op, .int fp, .int bu, .int ra, .int en, .ref m_methods, .ref m_packed, .ref m_sizes, .ref m_sums, .ref m_datas, .ref m_locals, .ref m_localEnds, .ref m_names, .ref m_nameSizes, .ref m_states, .ref m_starts, .ref m_counts, .ref m_written, .int to, .int w1, .int w2, .int w3, .ref m_lengths, .ref m_small, .ref m_codes, .ref m_smallCodes, .int w4, .int w5, .int th]))] sz) t) (va_A [(h0, .inr (8, [.ref m_tape, .int n0, .int op, .int fp, .int bu, .int ra, .int en, .ref m_methods, .ref m_packed, .ref m_sizes, .ref m_sums, .ref m_datas, .ref m_locals, .ref m_localEnds, .ref m_names, .ref m_nameSizes, .ref m_states, .ref m_starts, .ref m_counts, .ref m_written, .int to, .int w1, .int w2, .int w3, .ref m_lengths, .ref m_small, .ref m_codes, .ref m_smallCodes, .int w4, .int w5, .int th]))] sz)) 0 0 (va_A [(h0, .inr (8, [.ref m_tape, .int n0, .int op, .int fp, .int bu, .int ra, .int en, .ref m_methods, .ref m_packed, .ref m_sizes, .ref m_sums, .ref m_datas, .ref m_locals, .ref m_localEnds, .ref m_names, .ref m_nameSizes, .ref m_states, .ref m_starts, .ref m_counts, .ref m_written, .int to, .int w1, .int w2, .int w3, .ref m_lengths, .ref m_small, .ref m_codes, .ref m_smallCodes, .int w4, .int w5, .int th]))] sz) :=
  zMet (Qf := fun A => va_Qi (fun (r : Int32) => fun (_ : Unit) => r = 0) (fun u t => zB D ((fun (_ : Unit) => [(h0, .inr (8, [.ref m_tape, .int n0, .int op, .int fp, .int bu, .int ra, .int en, .ref m_methods, .ref m_packed, .ref m_sizes, .ref m_sums, .ref m_datas, .ref m_locals, .ref m_localEnds, .ref m_names, .ref m_nameSizes, .ref m_states, .ref m_starts, .ref m_counts, .ref m_written, .int to, .int w1, .int w2, .int w3, .ref m_lengths, .ref m_small, .ref m_codes, .ref m_smallCodes, .int w4, .int w5, .int 0]))]) u) ((fun (_ : Unit) => []) u) A t) A) (by decide) (Nat.le_of_ble_eq_true rfl) (fun p e s m below meth c A ls hx hb hr hml hown ht hlk hnm hA hK hP hD hX hl => by
    have hS : va_S A s.heap s.heap [] := va_S.rf
    have hl : lv_has ls 3 [(0, .ref h0), (1, .int 0), (2, .int kd)] := hl
    refine lv_aload_n hx hb d_M_fails_0 rfl (lv_at hl 0 rfl) ?_
    refine lv_iload_n hx hb d_M_fails_1 rfl (lv_at hl 1 rfl) ?_
    refine lv_if_eq (tgt := 9) hx hb d_M_fails_2 (by decide) (fun _ => ?_) (fun h => absurd (by decide) h)
    refine lv_iconst (v := 0) hx hb d_M_fails_9 (by decide) ?_
    refine va_put (ci := 8) (v := .int 0) (ty := .int) (C := "ZipGuardModel") (T := F_M) (N := 31) hx hb ht zi_M ty_M tk_M nm_M hown hK hP hD hS 0 rfl rfl 30 (by decide) (ht _ zm_782) (fun _ h9 => h9) rfl (by decide +kernel) rfl rfl (Nat.le_of_ble_eq_true rfl) d_M_fails_10 (fun H locs hP hD hS => ?_)
    have hP : va_P D zcl [(h0, .inr (8, [.ref m_tape, .int n0, .int op, .int fp, .int bu, .int ra, .int en, .ref m_methods, .ref m_packed, .ref m_sizes, .ref m_sums, .ref m_datas, .ref m_locals, .ref m_localEnds, .ref m_names, .ref m_nameSizes, .ref m_states, .ref m_starts, .ref m_counts, .ref m_written, .int to, .int w1, .int w2, .int w3, .ref m_lengths, .ref m_small, .ref m_codes, .ref m_smallCodes, .int w4, .int w5, .int 0]))] H := hP
    have hD : va_D A [(h0, .inr (8, [.ref m_tape, .int n0, .int op, .int fp, .int bu, .int ra, .int en, .ref m_methods, .ref m_packed, .ref m_sizes, .ref m_sums, .ref m_datas, .ref m_locals, .ref m_localEnds, .ref m_names, .ref m_nameSizes, .ref m_states, .ref m_starts, .ref m_counts, .ref m_written, .int to, .int w1, .int w2, .int w3, .ref m_lengths, .ref m_small, .ref m_codes, .ref m_smallCodes, .int w4, .int w5, .int 0]))] := hD
    refine lv_iload_n hx hb d_M_fails_13 rfl (lv_at hl 1 rfl) ?_
    exact zretz hx hb hr hlk hK hP hD hS () [0] [] rfl (by decide) rfl (rfl) rfl (Nat.le_of_ble_eq_true rfl) (Nat.le_of_ble_eq_true rfl) d_M_fails_14)
set_option maxHeartbeats 4000000 in
set_option maxRecDepth 100000 in
theorem c_M_f1 (l : Launch) (D : va_G) (sz : Nat) (h0 : Nat) (m_tape : Nat) (m_methods : Nat) (m_packed : Nat) (m_sizes : Nat) (m_sums : Nat) (m_datas : Nat) (m_locals : Nat) (m_localEnds : Nat) (m_names : Nat) (m_nameSizes : Nat) (m_states : Nat) (m_starts : Nat) (m_counts : Nat) (m_written : Nat) (m_lengths : Nat) (m_small : Nat) (m_codes : Nat) (m_smallCodes : Nat) (n0 : Int32) (op : Int32) (fp : Int32) (bu : Int32) (ra : Int32) (en : Int32) (to : Int32) (w1 : Int32) (w2 : Int32) (w3 : Int32) (w4 : Int32) (w5 : Int32) (th : Int32) (kd : Int32)  : Met l y_M_fails (Cond.code y_M_fails prog_10_method_3_code 3 (Option.some Jvm.ClassFile.FieldType.boolean) :: zt) { frames := 0, cells := 0, slots := 0, locals := 0 } (zPc [.ref h0, .int 1, .int kd] D [(h0, .inr (8, [.ref m_tape, .int n0, .int op, .int fp, .int bu, .int ra, .int en, .ref m_methods, .ref m_packed, .ref m_sizes, .ref m_sums, .ref m_datas, .ref m_locals, .ref m_localEnds, .ref m_names, .ref m_nameSizes, .ref m_states, .ref m_starts, .ref m_counts, .ref m_written, .int to, .int w1, .int w2, .int w3, .ref m_lengths, .ref m_small, .ref m_codes, .ref m_smallCodes, .int w4, .int w5, .int th]))] [] sz (fun _ => True)) (va_Qi (fun (r : Int32) => fun (_ : Unit) => r = 1) (fun u t => zB D ((fun (_ : Unit) => [(h0, .inr (8, [.ref m_tape, .int n0, .int op, .int fp, .int bu, .int ra, .int en, .ref m_methods, .ref m_packed, .ref m_sizes, .ref m_sums, .ref m_datas, .ref m_locals, .ref m_localEnds, .ref m_names, .ref m_nameSizes, .ref m_states, .ref m_starts, .ref m_counts, .ref m_written, .int to, .int w1, .int w2, .int w3, .ref m_lengths, .ref m_small, .ref m_codes, .ref m_smallCodes, .int w4, .int w5, .int kd]))]) u) ((fun (_ : Unit) => []) u) (va_A [(h0, .inr (8, [.ref m_tape, .int n0, .int op, .int fp, .int bu, .int ra, .int en, .ref m_methods, .ref m_packed, .ref m_sizes, .ref m_sums, .ref m_datas, .ref m_locals, .ref m_localEnds, .ref m_names, .ref m_nameSizes, .ref m_states, .ref m_starts, .ref m_counts, .ref m_written, .int to, .int w1, .int w2, .int w3, .ref m_lengths, .ref m_small, .ref m_codes, .ref m_smallCodes, .int w4, .int w5, .int th]))] sz) t) (va_A [(h0, .inr (8, [.ref m_tape, .int n0, .int op, .int fp, .int bu, .int ra, .int en, .ref m_methods, .ref m_packed, .ref m_sizes, .ref m_sums, .ref m_datas, .ref m_locals, .ref m_localEnds, .ref m_names, .ref m_nameSizes, .ref m_states, .ref m_starts, .ref m_counts, .ref m_written, .int to, .int w1, .int w2, .int w3, .ref m_lengths, .ref m_small, .ref m_codes, .ref m_smallCodes, .int w4, .int w5, .int th]))] sz)) 0 0 (va_A [(h0, .inr (8, [.ref m_tape, .int n0, .int op, .int fp, .int bu, .int ra, .int en, .ref m_methods, .ref m_packed, .ref m_sizes, .ref m_sums, .ref m_datas, .ref m_locals, .ref m_localEnds, .ref m_names, .ref m_nameSizes, .ref m_states, .ref m_starts, .ref m_counts, .ref m_written, .int to, .int w1, .int w2, .int w3, .ref m_lengths, .ref m_small, .ref m_codes, .ref m_smallCodes, .int w4, .int w5, .int th]))] sz) :=
  zMet (Qf := fun A => va_Qi (fun (r : Int32) => fun (_ : Unit) => r = 1) (fun u t => zB D ((fun (_ : Unit) => [(h0, .inr (8, [.ref m_tape, .int n0, .int op, .int fp, .int bu, .int ra, .int en, .ref m_methods, .ref m_packed, .ref m_sizes, .ref m_sums, .ref m_datas, .ref m_locals, .ref m_localEnds, .ref m_names, .ref m_nameSizes, .ref m_states, .ref m_starts, .ref m_counts, .ref m_written, .int to, .int w1, .int w2, .int w3, .ref m_lengths, .ref m_small, .ref m_codes, .ref m_smallCodes, .int w4, .int w5, .int kd]))]) u) ((fun (_ : Unit) => []) u) A t) A) (by decide) (Nat.le_of_ble_eq_true rfl) (fun p e s m below meth c A ls hx hb hr hml hown ht hlk hnm hA hK hP hD hX hl => by
    have hS : va_S A s.heap s.heap [] := va_S.rf
    have hl : lv_has ls 3 [(0, .ref h0), (1, .int 1), (2, .int kd)] := hl
    refine lv_aload_n hx hb d_M_fails_0 rfl (lv_at hl 0 rfl) ?_
    refine lv_iload_n hx hb d_M_fails_1 rfl (lv_at hl 1 rfl) ?_
    refine lv_if_eq (tgt := 9) hx hb d_M_fails_2 (by decide) (fun h => absurd h (by decide)) (fun _ => ?_)
    refine lv_iload_n hx hb d_M_fails_5 rfl (lv_at hl 2 rfl) ?_
    refine lv_goto (tgt := 10) hx hb d_M_fails_6 (by decide) ?_
    refine va_put (ci := 8) (v := .int kd) (ty := .int) (C := "ZipGuardModel") (T := F_M) (N := 31) hx hb ht zi_M ty_M tk_M nm_M hown hK hP hD hS 0 rfl rfl 30 (by decide) (ht _ zm_782) (fun _ h9 => h9) rfl (by decide +kernel) rfl rfl (Nat.le_of_ble_eq_true rfl) d_M_fails_10 (fun H locs hP hD hS => ?_)
    have hP : va_P D zcl [(h0, .inr (8, [.ref m_tape, .int n0, .int op, .int fp, .int bu, .int ra, .int en, .ref m_methods, .ref m_packed, .ref m_sizes, .ref m_sums, .ref m_datas, .ref m_locals, .ref m_localEnds, .ref m_names, .ref m_nameSizes, .ref m_states, .ref m_starts, .ref m_counts, .ref m_written, .int to, .int w1, .int w2, .int w3, .ref m_lengths, .ref m_small, .ref m_codes, .ref m_smallCodes, .int w4, .int w5, .int kd]))] H := hP
    have hD : va_D A [(h0, .inr (8, [.ref m_tape, .int n0, .int op, .int fp, .int bu, .int ra, .int en, .ref m_methods, .ref m_packed, .ref m_sizes, .ref m_sums, .ref m_datas, .ref m_locals, .ref m_localEnds, .ref m_names, .ref m_nameSizes, .ref m_states, .ref m_starts, .ref m_counts, .ref m_written, .int to, .int w1, .int w2, .int w3, .ref m_lengths, .ref m_small, .ref m_codes, .ref m_smallCodes, .int w4, .int w5, .int kd]))] := hD
    refine lv_iload_n hx hb d_M_fails_13 rfl (lv_at hl 1 rfl) ?_
    exact zretz hx hb hr hlk hK hP hD hS () [0] [] rfl (by decide) rfl (rfl) rfl (Nat.le_of_ble_eq_true rfl) (Nat.le_of_ble_eq_true rfl) d_M_fails_14)
set_option maxHeartbeats 4000000 in
set_option maxRecDepth 100000 in
theorem c_M_shut (l : Launch) (D : va_G) (sz : Nat) (h0 : Nat) (m_tape : Nat) (m_methods : Nat) (m_packed : Nat) (m_sizes : Nat) (m_sums : Nat) (m_datas : Nat) (m_locals : Nat) (m_localEnds : Nat) (m_names : Nat) (m_nameSizes : Nat) (m_states : Nat) (m_starts : Nat) (m_counts : Nat) (m_written : Nat) (m_lengths : Nat) (m_small : Nat) (m_codes : Nat) (m_smallCodes : Nat) (n0 : Int32) (op : Int32) (fp : Int32) (bu : Int32) (ra : Int32) (en : Int32) (to : Int32) (w1 : Int32) (w2 : Int32) (w3 : Int32) (w4 : Int32) (w5 : Int32) (th : Int32)  : Met l y_M_shut (Cond.code y_M_shut prog_10_method_4_code 1 (Option.none : Option Jvm.ClassFile.FieldType) :: zt) { frames := 0, cells := 0, slots := 0, locals := 0 } (zPc [.ref h0] D [(h0, .inr (8, [.ref m_tape, .int n0, .int op, .int fp, .int bu, .int ra, .int en, .ref m_methods, .ref m_packed, .ref m_sizes, .ref m_sums, .ref m_datas, .ref m_locals, .ref m_localEnds, .ref m_names, .ref m_nameSizes, .ref m_states, .ref m_starts, .ref m_counts, .ref m_written, .int to, .int w1, .int w2, .int w3, .ref m_lengths, .ref m_small, .ref m_codes, .ref m_smallCodes, .int w4, .int w5, .int th]))] [] sz (fun _ => True)) (va_Qv (fun (_ : Unit) => True) (fun u t => zB D ((fun (_ : Unit) => [(h0, .inr (8, [.ref m_tape, .int n0, .int 0, .int fp, .int bu, .int ra, .int 0, .ref m_methods, .ref m_packed, .ref m_sizes, .ref m_sums, .ref m_datas, .ref m_locals, .ref m_localEnds, .ref m_names, .ref m_nameSizes, .ref m_states, .ref m_starts, .ref m_counts, .ref m_written, .int 0, .int w1, .int w2, .int w3, .ref m_lengths, .ref m_small, .ref m_codes, .ref m_smallCodes, .int w4, .int w5, .int th]))]) u) ((fun (_ : Unit) => []) u) (va_A [(h0, .inr (8, [.ref m_tape, .int n0, .int op, .int fp, .int bu, .int ra, .int en, .ref m_methods, .ref m_packed, .ref m_sizes, .ref m_sums, .ref m_datas, .ref m_locals, .ref m_localEnds, .ref m_names, .ref m_nameSizes, .ref m_states, .ref m_starts, .ref m_counts, .ref m_written, .int to, .int w1, .int w2, .int w3, .ref m_lengths, .ref m_small, .ref m_codes, .ref m_smallCodes, .int w4, .int w5, .int th]))] sz) t) (va_A [(h0, .inr (8, [.ref m_tape, .int n0, .int op, .int fp, .int bu, .int ra, .int en, .ref m_methods, .ref m_packed, .ref m_sizes, .ref m_sums, .ref m_datas, .ref m_locals, .ref m_localEnds, .ref m_names, .ref m_nameSizes, .ref m_states, .ref m_starts, .ref m_counts, .ref m_written, .int to, .int w1, .int w2, .int w3, .ref m_lengths, .ref m_small, .ref m_codes, .ref m_smallCodes, .int w4, .int w5, .int th]))] sz)) 0 0 (va_A [(h0, .inr (8, [.ref m_tape, .int n0, .int op, .int fp, .int bu, .int ra, .int en, .ref m_methods, .ref m_packed, .ref m_sizes, .ref m_sums, .ref m_datas, .ref m_locals, .ref m_localEnds, .ref m_names, .ref m_nameSizes, .ref m_states, .ref m_starts, .ref m_counts, .ref m_written, .int to, .int w1, .int w2, .int w3, .ref m_lengths, .ref m_small, .ref m_codes, .ref m_smallCodes, .int w4, .int w5, .int th]))] sz) :=
  zMet (Qf := fun A => va_Qv (fun (_ : Unit) => True) (fun u t => zB D ((fun (_ : Unit) => [(h0, .inr (8, [.ref m_tape, .int n0, .int 0, .int fp, .int bu, .int ra, .int 0, .ref m_methods, .ref m_packed, .ref m_sizes, .ref m_sums, .ref m_datas, .ref m_locals, .ref m_localEnds, .ref m_names, .ref m_nameSizes, .ref m_states, .ref m_starts, .ref m_counts, .ref m_written, .int 0, .int w1, .int w2, .int w3, .ref m_lengths, .ref m_small, .ref m_codes, .ref m_smallCodes, .int w4, .int w5, .int th]))]) u) ((fun (_ : Unit) => []) u) A t) A) (by decide) (Nat.le_of_ble_eq_true rfl) (fun p e s m below meth c A ls hx hb hr hml hown ht hlk hnm hA hK hP hD hX hl => by
    have hS : va_S A s.heap s.heap [] := va_S.rf
    have hl : lv_has ls 1 [(0, .ref h0)] := hl
    refine lv_aload_n hx hb d_M_shut_0 rfl (lv_at hl 0 rfl) ?_
    refine lv_iconst (v := 0) hx hb d_M_shut_1 (by decide) ?_
    refine va_put (ci := 8) (v := .int 0) (ty := .boolean) (C := "ZipGuardModel") (T := F_M) (N := 31) hx hb ht zi_M ty_M tk_M nm_M hown hK hP hD hS 0 rfl rfl 2 (by decide) (ht _ zm_754) (fun _ h9 => h9) rfl (by decide +kernel) rfl rfl (Nat.le_of_ble_eq_true rfl) d_M_shut_2 (fun H locs hP hD hS => ?_)
    have hP : va_P D zcl [(h0, .inr (8, [.ref m_tape, .int n0, .int 0, .int fp, .int bu, .int ra, .int en, .ref m_methods, .ref m_packed, .ref m_sizes, .ref m_sums, .ref m_datas, .ref m_locals, .ref m_localEnds, .ref m_names, .ref m_nameSizes, .ref m_states, .ref m_starts, .ref m_counts, .ref m_written, .int to, .int w1, .int w2, .int w3, .ref m_lengths, .ref m_small, .ref m_codes, .ref m_smallCodes, .int w4, .int w5, .int th]))] H := hP
    have hD : va_D A [(h0, .inr (8, [.ref m_tape, .int n0, .int 0, .int fp, .int bu, .int ra, .int en, .ref m_methods, .ref m_packed, .ref m_sizes, .ref m_sums, .ref m_datas, .ref m_locals, .ref m_localEnds, .ref m_names, .ref m_nameSizes, .ref m_states, .ref m_starts, .ref m_counts, .ref m_written, .int to, .int w1, .int w2, .int w3, .ref m_lengths, .ref m_small, .ref m_codes, .ref m_smallCodes, .int w4, .int w5, .int th]))] := hD
    refine lv_aload_n hx hb d_M_shut_5 rfl (lv_at hl 0 rfl) ?_
    refine lv_iconst (v := 0) hx hb d_M_shut_6 (by decide) ?_
    refine va_put (ci := 8) (v := .int 0) (ty := .int) (C := "ZipGuardModel") (T := F_M) (N := 31) hx hb ht zi_M ty_M tk_M nm_M hown hK hP hD hS 0 rfl rfl 6 (by decide) (ht _ zm_758) (fun _ h9 => h9) rfl (by decide +kernel) rfl rfl (Nat.le_of_ble_eq_true rfl) d_M_shut_7 (fun H locs hP hD hS => ?_)
    have hP : va_P D zcl [(h0, .inr (8, [.ref m_tape, .int n0, .int 0, .int fp, .int bu, .int ra, .int 0, .ref m_methods, .ref m_packed, .ref m_sizes, .ref m_sums, .ref m_datas, .ref m_locals, .ref m_localEnds, .ref m_names, .ref m_nameSizes, .ref m_states, .ref m_starts, .ref m_counts, .ref m_written, .int to, .int w1, .int w2, .int w3, .ref m_lengths, .ref m_small, .ref m_codes, .ref m_smallCodes, .int w4, .int w5, .int th]))] H := hP
    have hD : va_D A [(h0, .inr (8, [.ref m_tape, .int n0, .int 0, .int fp, .int bu, .int ra, .int 0, .ref m_methods, .ref m_packed, .ref m_sizes, .ref m_sums, .ref m_datas, .ref m_locals, .ref m_localEnds, .ref m_names, .ref m_nameSizes, .ref m_states, .ref m_starts, .ref m_counts, .ref m_written, .int to, .int w1, .int w2, .int w3, .ref m_lengths, .ref m_small, .ref m_codes, .ref m_smallCodes, .int w4, .int w5, .int th]))] := hD
    refine lv_aload_n hx hb d_M_shut_10 rfl (lv_at hl 0 rfl) ?_
    refine lv_iconst (v := 0) hx hb d_M_shut_11 (by decide) ?_
    refine va_put (ci := 8) (v := .int 0) (ty := .int) (C := "ZipGuardModel") (T := F_M) (N := 31) hx hb ht zi_M ty_M tk_M nm_M hown hK hP hD hS 0 rfl rfl 20 (by decide) (ht _ zm_772) (fun _ h9 => h9) rfl (by decide +kernel) rfl rfl (Nat.le_of_ble_eq_true rfl) d_M_shut_12 (fun H locs hP hD hS => ?_)
    have hP : va_P D zcl [(h0, .inr (8, [.ref m_tape, .int n0, .int 0, .int fp, .int bu, .int ra, .int 0, .ref m_methods, .ref m_packed, .ref m_sizes, .ref m_sums, .ref m_datas, .ref m_locals, .ref m_localEnds, .ref m_names, .ref m_nameSizes, .ref m_states, .ref m_starts, .ref m_counts, .ref m_written, .int 0, .int w1, .int w2, .int w3, .ref m_lengths, .ref m_small, .ref m_codes, .ref m_smallCodes, .int w4, .int w5, .int th]))] H := hP
    have hD : va_D A [(h0, .inr (8, [.ref m_tape, .int n0, .int 0, .int fp, .int bu, .int ra, .int 0, .ref m_methods, .ref m_packed, .ref m_sizes, .ref m_sums, .ref m_datas, .ref m_locals, .ref m_localEnds, .ref m_names, .ref m_nameSizes, .ref m_states, .ref m_starts, .ref m_counts, .ref m_written, .int 0, .int w1, .int w2, .int w3, .ref m_lengths, .ref m_small, .ref m_codes, .ref m_smallCodes, .int w4, .int w5, .int th]))] := hD
    exact zretv hx hb hr hlk hK hP hD hS () [0] [] rfl (by decide) rfl (trivial) (Nat.le_of_ble_eq_true rfl) (Nat.le_of_ble_eq_true rfl) d_M_shut_15)
set_option maxHeartbeats 4000000 in
set_option maxRecDepth 100000 in
theorem c_M_feed0 (l : Launch) (D : va_G) (sz : Nat) (h0 : Nat) (m_tape : Nat) (m_methods : Nat) (m_packed : Nat) (m_sizes : Nat) (m_sums : Nat) (m_datas : Nat) (m_locals : Nat) (m_localEnds : Nat) (m_names : Nat) (m_nameSizes : Nat) (m_states : Nat) (m_starts : Nat) (m_counts : Nat) (m_written : Nat) (m_lengths : Nat) (m_small : Nat) (m_codes : Nat) (m_smallCodes : Nat) (op : Int32) (fp : Int32) (bu : Int32) (ra : Int32) (en : Int32) (to : Int32) (w1 : Int32) (w2 : Int32) (w3 : Int32) (w4 : Int32) (w5 : Int32) (th : Int32) (cM : ClassId) (f : Nat → Int32) (x1 : Int32) (x2 : Int32) (x3 : Int32) (x4 : Int32) (x5 : Int32)  : Met l y_M_feed (Cond.code y_M_feed prog_10_method_5_code 8 (Option.some Jvm.ClassFile.FieldType.int) :: zt) { frames := 1, cells := 0, slots := 0, locals := 22 } (zPc [.ref h0, .int x1, .int x2, .int x3, .int x4, .int x5] D [(h0, .inr (8, [.ref m_tape, .int 0, .int op, .int fp, .int bu, .int ra, .int en, .ref m_methods, .ref m_packed, .ref m_sizes, .ref m_sums, .ref m_datas, .ref m_locals, .ref m_localEnds, .ref m_names, .ref m_nameSizes, .ref m_states, .ref m_starts, .ref m_counts, .ref m_written, .int to, .int w1, .int w2, .int w3, .ref m_lengths, .ref m_small, .ref m_codes, .ref m_smallCodes, .int w4, .int w5, .int th])), (m_tape, .inl (cM, 20000, .inl f))] [(cM, .byte)] sz (fun _ => True)) (va_Qi (fun (r : Int32) => fun (_ : Unit) => r = 20) (fun u t => zB D ((fun (_ : Unit) => [(h0, .inr (8, [.ref m_tape, .int 20, .int 0, .int fp, .int bu, .int ra, .int 0, .ref m_methods, .ref m_packed, .ref m_sizes, .ref m_sums, .ref m_datas, .ref m_locals, .ref m_localEnds, .ref m_names, .ref m_nameSizes, .ref m_states, .ref m_starts, .ref m_counts, .ref m_written, .int 0, .int w1, .int w2, .int w3, .ref m_lengths, .ref m_small, .ref m_codes, .ref m_smallCodes, .int w4, .int w5, .int 0]))]) u) ((fun (_ : Unit) => []) u) (va_A [(h0, .inr (8, [.ref m_tape, .int 0, .int op, .int fp, .int bu, .int ra, .int en, .ref m_methods, .ref m_packed, .ref m_sizes, .ref m_sums, .ref m_datas, .ref m_locals, .ref m_localEnds, .ref m_names, .ref m_nameSizes, .ref m_states, .ref m_starts, .ref m_counts, .ref m_written, .int to, .int w1, .int w2, .int w3, .ref m_lengths, .ref m_small, .ref m_codes, .ref m_smallCodes, .int w4, .int w5, .int th])), (m_tape, .inl (cM, 20000, .inl f))] sz) t) (va_A [(h0, .inr (8, [.ref m_tape, .int 0, .int op, .int fp, .int bu, .int ra, .int en, .ref m_methods, .ref m_packed, .ref m_sizes, .ref m_sums, .ref m_datas, .ref m_locals, .ref m_localEnds, .ref m_names, .ref m_nameSizes, .ref m_states, .ref m_starts, .ref m_counts, .ref m_written, .int to, .int w1, .int w2, .int w3, .ref m_lengths, .ref m_small, .ref m_codes, .ref m_smallCodes, .int w4, .int w5, .int th])), (m_tape, .inl (cM, 20000, .inl f))] sz)) 0 0 (va_A [(h0, .inr (8, [.ref m_tape, .int 0, .int op, .int fp, .int bu, .int ra, .int en, .ref m_methods, .ref m_packed, .ref m_sizes, .ref m_sums, .ref m_datas, .ref m_locals, .ref m_localEnds, .ref m_names, .ref m_nameSizes, .ref m_states, .ref m_starts, .ref m_counts, .ref m_written, .int to, .int w1, .int w2, .int w3, .ref m_lengths, .ref m_small, .ref m_codes, .ref m_smallCodes, .int w4, .int w5, .int th])), (m_tape, .inl (cM, 20000, .inl f))] sz) :=
  zMet (Qf := fun A => va_Qi (fun (r : Int32) => fun (_ : Unit) => r = 20) (fun u t => zB D ((fun (_ : Unit) => [(h0, .inr (8, [.ref m_tape, .int 20, .int 0, .int fp, .int bu, .int ra, .int 0, .ref m_methods, .ref m_packed, .ref m_sizes, .ref m_sums, .ref m_datas, .ref m_locals, .ref m_localEnds, .ref m_names, .ref m_nameSizes, .ref m_states, .ref m_starts, .ref m_counts, .ref m_written, .int 0, .int w1, .int w2, .int w3, .ref m_lengths, .ref m_small, .ref m_codes, .ref m_smallCodes, .int w4, .int w5, .int 0]))]) u) ((fun (_ : Unit) => []) u) A t) A) (by decide) (Nat.le_of_ble_eq_true rfl) (fun p e s m below meth c A ls hx hb hr hml hown ht hlk hnm hA hK hP hD hX hl => by
    have hS : va_S A s.heap s.heap [] := va_S.rf
    have hl : lv_has ls 8 [(0, .ref h0), (1, .int x1), (2, .int x2), (3, .int x3), (4, .int x4), (5, .int x5)] := hl
    refine lv_aload_n hx hb d_M_feed_0 rfl (lv_at hl 0 rfl) ?_
    refine lv_aload_n hx hb d_M_feed_1 rfl (lv_at hl 0 rfl) ?_
    refine va_get (ci := 8) (C := "ZipGuardModel") (T := F_M) (N := 31) hx hb ht zi_M hown hK hP 0 rfl rfl 1 (by decide) (ht _ zm_753) (fun _ h9 => h9) rfl d_M_feed_2 ?_
    refine lv_bipush (v := 20) hx hb d_M_feed_5 (by decide) ?_
    refine lv_iadd hx hb d_M_feed_7 ?_
    refine lv_topi (fun z1 e_z1 => ?_)
    have e_z1 : z1 = 20 := e_z1.trans (by decide)
    subst e_z1
    refine lv_sipush (v := 20000) hx hb d_M_feed_8 (by decide) ?_
    refine lv_icmp_le (tgt := 18) hx hb d_M_feed_11 (by decide) (fun _ => ?_) (fun h => absurd (by decide) h)
    refine lv_iconst (v := 0) hx hb d_M_feed_18 (by decide) ?_
    refine lv_iconst (v := 1) hx hb d_M_feed_19 (by decide) ?_
    refine zji (wr := [(m_tape, .inl (cM, 20000, .inl f))]) (va_runV (As := [.int 0, .int 1]) (rest := []) ⟨hx, hb, hml, hown, ht⟩ (c_M_f0 l D _ h0 m_tape m_methods m_packed m_sizes m_sums m_datas m_locals m_localEnds m_names m_nameSizes m_states m_starts m_counts m_written m_lengths m_small m_codes m_smallCodes 0 op fp bu ra en to w1 w2 w3 w4 w5 th 1 ) (cwV 2 ht (zt_goodV zm_855 zm_856 zm_30 zm_79 zm_857) rfl rfl rfl (by decide +kernel) ⟨Nat.le_of_ble_eq_true rfl, Nat.le_of_ble_eq_true rfl⟩) (zpreV zBlind_t hK hP hD [0] [] rfl (by decide) rfl (fun _ _ _ => trivial) (va_recv (q := ("ZipGuardModel", F_M, 31)) hK hP rfl (q0 := 0) (ci := 8) rfl)) rfl rfl hl.1 rfl (lv_room (Nat.le_of_ble_eq_true rfl)) d_M_feed_20 ⟨Nat.le_of_ble_eq_true rfl, Nat.le_of_ble_eq_true rfl⟩) hK hP hD hS hA [0] [1] rfl rfl (by decide) (by decide) (fun r3 u H locs hp4 hP hD hK hS => ?_)
    have hP : va_P D zcl [(m_tape, .inl (cM, 20000, .inl f)), (h0, .inr (8, [.ref m_tape, .int 0, .int op, .int fp, .int bu, .int ra, .int en, .ref m_methods, .ref m_packed, .ref m_sizes, .ref m_sums, .ref m_datas, .ref m_locals, .ref m_localEnds, .ref m_names, .ref m_nameSizes, .ref m_states, .ref m_starts, .ref m_counts, .ref m_written, .int to, .int w1, .int w2, .int w3, .ref m_lengths, .ref m_small, .ref m_codes, .ref m_smallCodes, .int w4, .int w5, .int 0]))] H := hP
    have hD : va_D A [(m_tape, .inl (cM, 20000, .inl f)), (h0, .inr (8, [.ref m_tape, .int 0, .int op, .int fp, .int bu, .int ra, .int en, .ref m_methods, .ref m_packed, .ref m_sizes, .ref m_sums, .ref m_datas, .ref m_locals, .ref m_localEnds, .ref m_names, .ref m_nameSizes, .ref m_states, .ref m_starts, .ref m_counts, .ref m_written, .int to, .int w1, .int w2, .int w3, .ref m_lengths, .ref m_small, .ref m_codes, .ref m_smallCodes, .int w4, .int w5, .int 0]))] := hD
    have hK : va_K D zcl [(cM, .byte)] s := hK
    subst hp4
    have hP := hP.sub (ws' := [(h0, .inr (8, [.ref m_tape, .int 0, .int op, .int fp, .int bu, .int ra, .int en, .ref m_methods, .ref m_packed, .ref m_sizes, .ref m_sums, .ref m_datas, .ref m_locals, .ref m_localEnds, .ref m_names, .ref m_nameSizes, .ref m_states, .ref m_starts, .ref m_counts, .ref m_written, .int to, .int w1, .int w2, .int w3, .ref m_lengths, .ref m_small, .ref m_codes, .ref m_smallCodes, .int w4, .int w5, .int 0])), (m_tape, .inl (cM, 20000, .inl f))]) [1, 0] rfl
    have hD := hD.sub (ws' := [(h0, .inr (8, [.ref m_tape, .int 0, .int op, .int fp, .int bu, .int ra, .int en, .ref m_methods, .ref m_packed, .ref m_sizes, .ref m_sums, .ref m_datas, .ref m_locals, .ref m_localEnds, .ref m_names, .ref m_nameSizes, .ref m_states, .ref m_starts, .ref m_counts, .ref m_written, .int to, .int w1, .int w2, .int w3, .ref m_lengths, .ref m_small, .ref m_codes, .ref m_smallCodes, .int w4, .int w5, .int 0])), (m_tape, .inl (cM, 20000, .inl f))]) [1, 0] (by decide) rfl
    have hK := hK.sub (tys' := [(cM, .byte)]) [0] rfl
    refine lv_if_eq (tgt := 28) hx hb d_M_feed_23 (by decide) (fun _ => ?_) (fun h => absurd (by decide) h)
    refine lv_iconst (v := 0) hx hb d_M_feed_28 (by decide) ?_
    refine lv_istore (lv' := [(6, .int 0), (0, .ref h0), (1, .int x1), (2, .int x2), (3, .int x3), (4, .int x4), (5, .int x5)]) hx hb d_M_feed_29 hl (by decide) rfl (fun ls hl => ?_)
    refine lv_iload hx hb d_M_feed_31 (lv_at hl 0 rfl) ?_
    refine lv_bipush (v := 20) hx hb d_M_feed_33 (by decide) ?_
    refine lv_icmp_ge (tgt := 118) hx hb d_M_feed_35 (by decide) (fun h => absurd h (by decide)) (fun _ => ?_)
    refine lv_iload hx hb d_M_feed_38 (lv_at hl 0 rfl) ?_
    refine lv_iconst (v := 4) hx hb d_M_feed_40 (by decide) ?_
    refine lv_icmp_ge (tgt := 48) hx hb d_M_feed_41 (by decide) (fun h => absurd h (by decide)) (fun _ => ?_)
    refine lv_iload_n hx hb d_M_feed_44 rfl (lv_at hl 2 rfl) ?_
    refine lv_goto (tgt := 84) hx hb d_M_feed_45 (by decide) ?_
    refine lv_istore (lv' := [(7, .int x1), (6, .int 0), (0, .ref h0), (1, .int x1), (2, .int x2), (3, .int x3), (4, .int x4), (5, .int x5)]) hx hb d_M_feed_84 hl (by decide) rfl (fun ls hl => ?_)
    refine lv_aload_n hx hb d_M_feed_86 rfl (lv_at hl 2 rfl) ?_
    refine va_get (ci := 8) (C := "ZipGuardModel") (T := F_M) (N := 31) hx hb ht zi_M hown hK hP 0 rfl rfl 0 (by decide) (ht _ zm_752) (fun _ h9 => h9) rfl d_M_feed_87 ?_
    refine lv_aload_n hx hb d_M_feed_90 rfl (lv_at hl 2 rfl) ?_
    refine va_get (ci := 8) (C := "ZipGuardModel") (T := F_M) (N := 31) hx hb ht zi_M hown hK hP 0 rfl rfl 1 (by decide) (ht _ zm_753) (fun _ h9 => h9) rfl d_M_feed_91 ?_
    refine lv_iload hx hb d_M_feed_94 (lv_at hl 1 rfl) ?_
    refine lv_iadd hx hb d_M_feed_96 ?_
    refine lv_topi (fun z8 e_z8 => ?_)
    have e_z8 : z8 = 0 := e_z8.trans (by decide)
    subst e_z8
    refine lv_iload hx hb d_M_feed_97 (lv_at hl 0 rfl) ?_
    refine lv_bipush (v := 24) hx hb d_M_feed_99 (by decide) ?_
    refine lv_bipush (v := 8) hx hb d_M_feed_101 (by decide) ?_
    refine lv_iload hx hb d_M_feed_103 (lv_at hl 1 rfl) ?_
    refine lv_iconst (v := 4) hx hb d_M_feed_105 (by decide) ?_
    refine lv_irem hx hb d_M_feed_106 (by decide) ?_
    refine lv_topi (fun z9 e_z9 => ?_)
    have e_z9 : z9 = 0 := e_z9.trans (by decide)
    subst e_z9
    refine lv_imul hx hb d_M_feed_107 ?_
    refine lv_topi (fun z10 e_z10 => ?_)
    have e_z10 : z10 = 0 := e_z10.trans (by decide)
    subst e_z10
    refine lv_isub hx hb d_M_feed_108 ?_
    refine lv_topi (fun z11 e_z11 => ?_)
    have e_z11 : z11 = 24 := e_z11.trans (by decide)
    subst e_z11
    refine lv_ishr hx hb d_M_feed_109 ?_
    refine lv_i2b hx hb d_M_feed_110 rfl ?_
    refine va_bast hx hb hK hP hD hS 1 0 rfl rfl (by unfold vp_in; decide) d_M_feed_111 (fun H locs hP hD hS => ?_)
    have hP : va_P D zcl [(h0, .inr (8, [.ref m_tape, .int 0, .int op, .int fp, .int bu, .int ra, .int en, .ref m_methods, .ref m_packed, .ref m_sizes, .ref m_sums, .ref m_datas, .ref m_locals, .ref m_localEnds, .ref m_names, .ref m_nameSizes, .ref m_states, .ref m_starts, .ref m_counts, .ref m_written, .int to, .int w1, .int w2, .int w3, .ref m_lengths, .ref m_small, .ref m_codes, .ref m_smallCodes, .int w4, .int w5, .int 0])), (m_tape, .inl (cM, 20000, .inl (upd f (0 : Int32).toNatClampNeg (vp_nar .byte ((x1 >>> (24 &&& 31)).toInt8.toInt32)))))] H := hP
    have hD : va_D A [(h0, .inr (8, [.ref m_tape, .int 0, .int op, .int fp, .int bu, .int ra, .int en, .ref m_methods, .ref m_packed, .ref m_sizes, .ref m_sums, .ref m_datas, .ref m_locals, .ref m_localEnds, .ref m_names, .ref m_nameSizes, .ref m_states, .ref m_starts, .ref m_counts, .ref m_written, .int to, .int w1, .int w2, .int w3, .ref m_lengths, .ref m_small, .ref m_codes, .ref m_smallCodes, .int w4, .int w5, .int 0])), (m_tape, .inl (cM, 20000, .inl (upd f (0 : Int32).toNatClampNeg (vp_nar .byte ((x1 >>> (24 &&& 31)).toInt8.toInt32)))))] := hD
    refine lv_iinc (k := 1) (v := 1) (lv' := [(6, .int 1), (7, .int x1), (0, .ref h0), (1, .int x1), (2, .int x2), (3, .int x3), (4, .int x4), (5, .int x5)]) hx hb d_M_feed_112 hl rfl (by decide) (by decide) rfl (fun ls hl => ?_)
    generalize upd f (0 : Int32).toNatClampNeg (vp_nar .byte ((x1 >>> (24 &&& 31)).toInt8.toInt32)) = g0 at hP hD
    refine lv_goto (tgt := 31) hx hb d_M_feed_115 (by decide) ?_
    refine lv_iload hx hb d_M_feed_31 (lv_at hl 0 rfl) ?_
    refine lv_bipush (v := 20) hx hb d_M_feed_33 (by decide) ?_
    refine lv_icmp_ge (tgt := 118) hx hb d_M_feed_35 (by decide) (fun h => absurd h (by decide)) (fun _ => ?_)
    refine lv_iload hx hb d_M_feed_38 (lv_at hl 0 rfl) ?_
    refine lv_iconst (v := 4) hx hb d_M_feed_40 (by decide) ?_
    refine lv_icmp_ge (tgt := 48) hx hb d_M_feed_41 (by decide) (fun h => absurd h (by decide)) (fun _ => ?_)
    refine lv_iload_n hx hb d_M_feed_44 rfl (lv_at hl 3 rfl) ?_
    refine lv_goto (tgt := 84) hx hb d_M_feed_45 (by decide) ?_
    refine lv_istore (lv' := [(7, .int x1), (6, .int 1), (0, .ref h0), (1, .int x1), (2, .int x2), (3, .int x3), (4, .int x4), (5, .int x5)]) hx hb d_M_feed_84 hl (by decide) rfl (fun ls hl => ?_)
    refine lv_aload_n hx hb d_M_feed_86 rfl (lv_at hl 2 rfl) ?_
    refine va_get (ci := 8) (C := "ZipGuardModel") (T := F_M) (N := 31) hx hb ht zi_M hown hK hP 0 rfl rfl 0 (by decide) (ht _ zm_752) (fun _ h9 => h9) rfl d_M_feed_87 ?_
    refine lv_aload_n hx hb d_M_feed_90 rfl (lv_at hl 2 rfl) ?_
    refine va_get (ci := 8) (C := "ZipGuardModel") (T := F_M) (N := 31) hx hb ht zi_M hown hK hP 0 rfl rfl 1 (by decide) (ht _ zm_753) (fun _ h9 => h9) rfl d_M_feed_91 ?_
    refine lv_iload hx hb d_M_feed_94 (lv_at hl 1 rfl) ?_
    refine lv_iadd hx hb d_M_feed_96 ?_
    refine lv_topi (fun z14 e_z14 => ?_)
    have e_z14 : z14 = 1 := e_z14.trans (by decide)
    subst e_z14
    refine lv_iload hx hb d_M_feed_97 (lv_at hl 0 rfl) ?_
    refine lv_bipush (v := 24) hx hb d_M_feed_99 (by decide) ?_
    refine lv_bipush (v := 8) hx hb d_M_feed_101 (by decide) ?_
    refine lv_iload hx hb d_M_feed_103 (lv_at hl 1 rfl) ?_
    refine lv_iconst (v := 4) hx hb d_M_feed_105 (by decide) ?_
    refine lv_irem hx hb d_M_feed_106 (by decide) ?_
    refine lv_topi (fun z15 e_z15 => ?_)
    have e_z15 : z15 = 1 := e_z15.trans (by decide)
    subst e_z15
    refine lv_imul hx hb d_M_feed_107 ?_
    refine lv_topi (fun z16 e_z16 => ?_)
    have e_z16 : z16 = 8 := e_z16.trans (by decide)
    subst e_z16
    refine lv_isub hx hb d_M_feed_108 ?_
    refine lv_topi (fun z17 e_z17 => ?_)
    have e_z17 : z17 = 16 := e_z17.trans (by decide)
    subst e_z17
    refine lv_ishr hx hb d_M_feed_109 ?_
    refine lv_i2b hx hb d_M_feed_110 rfl ?_
    refine va_bast hx hb hK hP hD hS 1 0 rfl rfl (by unfold vp_in; decide) d_M_feed_111 (fun H locs hP hD hS => ?_)
    have hP : va_P D zcl [(h0, .inr (8, [.ref m_tape, .int 0, .int op, .int fp, .int bu, .int ra, .int en, .ref m_methods, .ref m_packed, .ref m_sizes, .ref m_sums, .ref m_datas, .ref m_locals, .ref m_localEnds, .ref m_names, .ref m_nameSizes, .ref m_states, .ref m_starts, .ref m_counts, .ref m_written, .int to, .int w1, .int w2, .int w3, .ref m_lengths, .ref m_small, .ref m_codes, .ref m_smallCodes, .int w4, .int w5, .int 0])), (m_tape, .inl (cM, 20000, .inl (upd g0 (1 : Int32).toNatClampNeg (vp_nar .byte ((x1 >>> (16 &&& 31)).toInt8.toInt32)))))] H := hP
    have hD : va_D A [(h0, .inr (8, [.ref m_tape, .int 0, .int op, .int fp, .int bu, .int ra, .int en, .ref m_methods, .ref m_packed, .ref m_sizes, .ref m_sums, .ref m_datas, .ref m_locals, .ref m_localEnds, .ref m_names, .ref m_nameSizes, .ref m_states, .ref m_starts, .ref m_counts, .ref m_written, .int to, .int w1, .int w2, .int w3, .ref m_lengths, .ref m_small, .ref m_codes, .ref m_smallCodes, .int w4, .int w5, .int 0])), (m_tape, .inl (cM, 20000, .inl (upd g0 (1 : Int32).toNatClampNeg (vp_nar .byte ((x1 >>> (16 &&& 31)).toInt8.toInt32)))))] := hD
    refine lv_iinc (k := 1) (v := 2) (lv' := [(6, .int 2), (7, .int x1), (0, .ref h0), (1, .int x1), (2, .int x2), (3, .int x3), (4, .int x4), (5, .int x5)]) hx hb d_M_feed_112 hl rfl (by decide) (by decide) rfl (fun ls hl => ?_)
    generalize upd g0 (1 : Int32).toNatClampNeg (vp_nar .byte ((x1 >>> (16 &&& 31)).toInt8.toInt32)) = g1 at hP hD
    refine lv_goto (tgt := 31) hx hb d_M_feed_115 (by decide) ?_
    refine lv_iload hx hb d_M_feed_31 (lv_at hl 0 rfl) ?_
    refine lv_bipush (v := 20) hx hb d_M_feed_33 (by decide) ?_
    refine lv_icmp_ge (tgt := 118) hx hb d_M_feed_35 (by decide) (fun h => absurd h (by decide)) (fun _ => ?_)
    refine lv_iload hx hb d_M_feed_38 (lv_at hl 0 rfl) ?_
    refine lv_iconst (v := 4) hx hb d_M_feed_40 (by decide) ?_
    refine lv_icmp_ge (tgt := 48) hx hb d_M_feed_41 (by decide) (fun h => absurd h (by decide)) (fun _ => ?_)
    refine lv_iload_n hx hb d_M_feed_44 rfl (lv_at hl 3 rfl) ?_
    refine lv_goto (tgt := 84) hx hb d_M_feed_45 (by decide) ?_
    refine lv_istore (lv' := [(7, .int x1), (6, .int 2), (0, .ref h0), (1, .int x1), (2, .int x2), (3, .int x3), (4, .int x4), (5, .int x5)]) hx hb d_M_feed_84 hl (by decide) rfl (fun ls hl => ?_)
    refine lv_aload_n hx hb d_M_feed_86 rfl (lv_at hl 2 rfl) ?_
    refine va_get (ci := 8) (C := "ZipGuardModel") (T := F_M) (N := 31) hx hb ht zi_M hown hK hP 0 rfl rfl 0 (by decide) (ht _ zm_752) (fun _ h9 => h9) rfl d_M_feed_87 ?_
    refine lv_aload_n hx hb d_M_feed_90 rfl (lv_at hl 2 rfl) ?_
    refine va_get (ci := 8) (C := "ZipGuardModel") (T := F_M) (N := 31) hx hb ht zi_M hown hK hP 0 rfl rfl 1 (by decide) (ht _ zm_753) (fun _ h9 => h9) rfl d_M_feed_91 ?_
    refine lv_iload hx hb d_M_feed_94 (lv_at hl 1 rfl) ?_
    refine lv_iadd hx hb d_M_feed_96 ?_
    refine lv_topi (fun z20 e_z20 => ?_)
    have e_z20 : z20 = 2 := e_z20.trans (by decide)
    subst e_z20
    refine lv_iload hx hb d_M_feed_97 (lv_at hl 0 rfl) ?_
    refine lv_bipush (v := 24) hx hb d_M_feed_99 (by decide) ?_
    refine lv_bipush (v := 8) hx hb d_M_feed_101 (by decide) ?_
    refine lv_iload hx hb d_M_feed_103 (lv_at hl 1 rfl) ?_
    refine lv_iconst (v := 4) hx hb d_M_feed_105 (by decide) ?_
    refine lv_irem hx hb d_M_feed_106 (by decide) ?_
    refine lv_topi (fun z21 e_z21 => ?_)
    have e_z21 : z21 = 2 := e_z21.trans (by decide)
    subst e_z21
    refine lv_imul hx hb d_M_feed_107 ?_
    refine lv_topi (fun z22 e_z22 => ?_)
    have e_z22 : z22 = 16 := e_z22.trans (by decide)
    subst e_z22
    refine lv_isub hx hb d_M_feed_108 ?_
    refine lv_topi (fun z23 e_z23 => ?_)
    have e_z23 : z23 = 8 := e_z23.trans (by decide)
    subst e_z23
    refine lv_ishr hx hb d_M_feed_109 ?_
    refine lv_i2b hx hb d_M_feed_110 rfl ?_
    refine va_bast hx hb hK hP hD hS 1 0 rfl rfl (by unfold vp_in; decide) d_M_feed_111 (fun H locs hP hD hS => ?_)
    have hP : va_P D zcl [(h0, .inr (8, [.ref m_tape, .int 0, .int op, .int fp, .int bu, .int ra, .int en, .ref m_methods, .ref m_packed, .ref m_sizes, .ref m_sums, .ref m_datas, .ref m_locals, .ref m_localEnds, .ref m_names, .ref m_nameSizes, .ref m_states, .ref m_starts, .ref m_counts, .ref m_written, .int to, .int w1, .int w2, .int w3, .ref m_lengths, .ref m_small, .ref m_codes, .ref m_smallCodes, .int w4, .int w5, .int 0])), (m_tape, .inl (cM, 20000, .inl (upd g1 (2 : Int32).toNatClampNeg (vp_nar .byte ((x1 >>> (8 &&& 31)).toInt8.toInt32)))))] H := hP
    have hD : va_D A [(h0, .inr (8, [.ref m_tape, .int 0, .int op, .int fp, .int bu, .int ra, .int en, .ref m_methods, .ref m_packed, .ref m_sizes, .ref m_sums, .ref m_datas, .ref m_locals, .ref m_localEnds, .ref m_names, .ref m_nameSizes, .ref m_states, .ref m_starts, .ref m_counts, .ref m_written, .int to, .int w1, .int w2, .int w3, .ref m_lengths, .ref m_small, .ref m_codes, .ref m_smallCodes, .int w4, .int w5, .int 0])), (m_tape, .inl (cM, 20000, .inl (upd g1 (2 : Int32).toNatClampNeg (vp_nar .byte ((x1 >>> (8 &&& 31)).toInt8.toInt32)))))] := hD
    refine lv_iinc (k := 1) (v := 3) (lv' := [(6, .int 3), (7, .int x1), (0, .ref h0), (1, .int x1), (2, .int x2), (3, .int x3), (4, .int x4), (5, .int x5)]) hx hb d_M_feed_112 hl rfl (by decide) (by decide) rfl (fun ls hl => ?_)
    generalize upd g1 (2 : Int32).toNatClampNeg (vp_nar .byte ((x1 >>> (8 &&& 31)).toInt8.toInt32)) = g2 at hP hD
    refine lv_goto (tgt := 31) hx hb d_M_feed_115 (by decide) ?_
    refine lv_iload hx hb d_M_feed_31 (lv_at hl 0 rfl) ?_
    refine lv_bipush (v := 20) hx hb d_M_feed_33 (by decide) ?_
    refine lv_icmp_ge (tgt := 118) hx hb d_M_feed_35 (by decide) (fun h => absurd h (by decide)) (fun _ => ?_)
    refine lv_iload hx hb d_M_feed_38 (lv_at hl 0 rfl) ?_
    refine lv_iconst (v := 4) hx hb d_M_feed_40 (by decide) ?_
    refine lv_icmp_ge (tgt := 48) hx hb d_M_feed_41 (by decide) (fun h => absurd h (by decide)) (fun _ => ?_)
    refine lv_iload_n hx hb d_M_feed_44 rfl (lv_at hl 3 rfl) ?_
    refine lv_goto (tgt := 84) hx hb d_M_feed_45 (by decide) ?_
    refine lv_istore (lv' := [(7, .int x1), (6, .int 3), (0, .ref h0), (1, .int x1), (2, .int x2), (3, .int x3), (4, .int x4), (5, .int x5)]) hx hb d_M_feed_84 hl (by decide) rfl (fun ls hl => ?_)
    refine lv_aload_n hx hb d_M_feed_86 rfl (lv_at hl 2 rfl) ?_
    refine va_get (ci := 8) (C := "ZipGuardModel") (T := F_M) (N := 31) hx hb ht zi_M hown hK hP 0 rfl rfl 0 (by decide) (ht _ zm_752) (fun _ h9 => h9) rfl d_M_feed_87 ?_
    refine lv_aload_n hx hb d_M_feed_90 rfl (lv_at hl 2 rfl) ?_
    refine va_get (ci := 8) (C := "ZipGuardModel") (T := F_M) (N := 31) hx hb ht zi_M hown hK hP 0 rfl rfl 1 (by decide) (ht _ zm_753) (fun _ h9 => h9) rfl d_M_feed_91 ?_
    refine lv_iload hx hb d_M_feed_94 (lv_at hl 1 rfl) ?_
    refine lv_iadd hx hb d_M_feed_96 ?_
    refine lv_topi (fun z26 e_z26 => ?_)
    have e_z26 : z26 = 3 := e_z26.trans (by decide)
    subst e_z26
    refine lv_iload hx hb d_M_feed_97 (lv_at hl 0 rfl) ?_
    refine lv_bipush (v := 24) hx hb d_M_feed_99 (by decide) ?_
    refine lv_bipush (v := 8) hx hb d_M_feed_101 (by decide) ?_
    refine lv_iload hx hb d_M_feed_103 (lv_at hl 1 rfl) ?_
    refine lv_iconst (v := 4) hx hb d_M_feed_105 (by decide) ?_
    refine lv_irem hx hb d_M_feed_106 (by decide) ?_
    refine lv_topi (fun z27 e_z27 => ?_)
    have e_z27 : z27 = 3 := e_z27.trans (by decide)
    subst e_z27
    refine lv_imul hx hb d_M_feed_107 ?_
    refine lv_topi (fun z28 e_z28 => ?_)
    have e_z28 : z28 = 24 := e_z28.trans (by decide)
    subst e_z28
    refine lv_isub hx hb d_M_feed_108 ?_
    refine lv_topi (fun z29 e_z29 => ?_)
    have e_z29 : z29 = 0 := e_z29.trans (by decide)
    subst e_z29
    refine lv_ishr hx hb d_M_feed_109 ?_
    refine lv_i2b hx hb d_M_feed_110 rfl ?_
    refine va_bast hx hb hK hP hD hS 1 0 rfl rfl (by unfold vp_in; decide) d_M_feed_111 (fun H locs hP hD hS => ?_)
    have hP : va_P D zcl [(h0, .inr (8, [.ref m_tape, .int 0, .int op, .int fp, .int bu, .int ra, .int en, .ref m_methods, .ref m_packed, .ref m_sizes, .ref m_sums, .ref m_datas, .ref m_locals, .ref m_localEnds, .ref m_names, .ref m_nameSizes, .ref m_states, .ref m_starts, .ref m_counts, .ref m_written, .int to, .int w1, .int w2, .int w3, .ref m_lengths, .ref m_small, .ref m_codes, .ref m_smallCodes, .int w4, .int w5, .int 0])), (m_tape, .inl (cM, 20000, .inl (upd g2 (3 : Int32).toNatClampNeg (vp_nar .byte ((x1 >>> (0 &&& 31)).toInt8.toInt32)))))] H := hP
    have hD : va_D A [(h0, .inr (8, [.ref m_tape, .int 0, .int op, .int fp, .int bu, .int ra, .int en, .ref m_methods, .ref m_packed, .ref m_sizes, .ref m_sums, .ref m_datas, .ref m_locals, .ref m_localEnds, .ref m_names, .ref m_nameSizes, .ref m_states, .ref m_starts, .ref m_counts, .ref m_written, .int to, .int w1, .int w2, .int w3, .ref m_lengths, .ref m_small, .ref m_codes, .ref m_smallCodes, .int w4, .int w5, .int 0])), (m_tape, .inl (cM, 20000, .inl (upd g2 (3 : Int32).toNatClampNeg (vp_nar .byte ((x1 >>> (0 &&& 31)).toInt8.toInt32)))))] := hD
    refine lv_iinc (k := 1) (v := 4) (lv' := [(6, .int 4), (7, .int x1), (0, .ref h0), (1, .int x1), (2, .int x2), (3, .int x3), (4, .int x4), (5, .int x5)]) hx hb d_M_feed_112 hl rfl (by decide) (by decide) rfl (fun ls hl => ?_)
    generalize upd g2 (3 : Int32).toNatClampNeg (vp_nar .byte ((x1 >>> (0 &&& 31)).toInt8.toInt32)) = g3 at hP hD
    refine lv_goto (tgt := 31) hx hb d_M_feed_115 (by decide) ?_
    refine lv_iload hx hb d_M_feed_31 (lv_at hl 0 rfl) ?_
    refine lv_bipush (v := 20) hx hb d_M_feed_33 (by decide) ?_
    refine lv_icmp_ge (tgt := 118) hx hb d_M_feed_35 (by decide) (fun h => absurd h (by decide)) (fun _ => ?_)
    refine lv_iload hx hb d_M_feed_38 (lv_at hl 0 rfl) ?_
    refine lv_iconst (v := 4) hx hb d_M_feed_40 (by decide) ?_
    refine lv_icmp_ge (tgt := 48) hx hb d_M_feed_41 (by decide) (fun _ => ?_) (fun h => absurd (by decide) h)
    refine lv_iload hx hb d_M_feed_48 (lv_at hl 0 rfl) ?_
    refine lv_bipush (v := 8) hx hb d_M_feed_50 (by decide) ?_
    refine lv_icmp_ge (tgt := 59) hx hb d_M_feed_52 (by decide) (fun h => absurd h (by decide)) (fun _ => ?_)
    refine lv_iload_n hx hb d_M_feed_55 rfl (lv_at hl 4 rfl) ?_
    refine lv_goto (tgt := 84) hx hb d_M_feed_56 (by decide) ?_
    refine lv_istore (lv' := [(7, .int x2), (6, .int 4), (0, .ref h0), (1, .int x1), (2, .int x2), (3, .int x3), (4, .int x4), (5, .int x5)]) hx hb d_M_feed_84 hl (by decide) rfl (fun ls hl => ?_)
    refine lv_aload_n hx hb d_M_feed_86 rfl (lv_at hl 2 rfl) ?_
    refine va_get (ci := 8) (C := "ZipGuardModel") (T := F_M) (N := 31) hx hb ht zi_M hown hK hP 0 rfl rfl 0 (by decide) (ht _ zm_752) (fun _ h9 => h9) rfl d_M_feed_87 ?_
    refine lv_aload_n hx hb d_M_feed_90 rfl (lv_at hl 2 rfl) ?_
    refine va_get (ci := 8) (C := "ZipGuardModel") (T := F_M) (N := 31) hx hb ht zi_M hown hK hP 0 rfl rfl 1 (by decide) (ht _ zm_753) (fun _ h9 => h9) rfl d_M_feed_91 ?_
    refine lv_iload hx hb d_M_feed_94 (lv_at hl 1 rfl) ?_
    refine lv_iadd hx hb d_M_feed_96 ?_
    refine lv_topi (fun z33 e_z33 => ?_)
    have e_z33 : z33 = 4 := e_z33.trans (by decide)
    subst e_z33
    refine lv_iload hx hb d_M_feed_97 (lv_at hl 0 rfl) ?_
    refine lv_bipush (v := 24) hx hb d_M_feed_99 (by decide) ?_
    refine lv_bipush (v := 8) hx hb d_M_feed_101 (by decide) ?_
    refine lv_iload hx hb d_M_feed_103 (lv_at hl 1 rfl) ?_
    refine lv_iconst (v := 4) hx hb d_M_feed_105 (by decide) ?_
    refine lv_irem hx hb d_M_feed_106 (by decide) ?_
    refine lv_topi (fun z34 e_z34 => ?_)
    have e_z34 : z34 = 0 := e_z34.trans (by decide)
    subst e_z34
    refine lv_imul hx hb d_M_feed_107 ?_
    refine lv_topi (fun z35 e_z35 => ?_)
    have e_z35 : z35 = 0 := e_z35.trans (by decide)
    subst e_z35
    refine lv_isub hx hb d_M_feed_108 ?_
    refine lv_topi (fun z36 e_z36 => ?_)
    have e_z36 : z36 = 24 := e_z36.trans (by decide)
    subst e_z36
    refine lv_ishr hx hb d_M_feed_109 ?_
    refine lv_i2b hx hb d_M_feed_110 rfl ?_
    refine va_bast hx hb hK hP hD hS 1 0 rfl rfl (by unfold vp_in; decide) d_M_feed_111 (fun H locs hP hD hS => ?_)
    have hP : va_P D zcl [(h0, .inr (8, [.ref m_tape, .int 0, .int op, .int fp, .int bu, .int ra, .int en, .ref m_methods, .ref m_packed, .ref m_sizes, .ref m_sums, .ref m_datas, .ref m_locals, .ref m_localEnds, .ref m_names, .ref m_nameSizes, .ref m_states, .ref m_starts, .ref m_counts, .ref m_written, .int to, .int w1, .int w2, .int w3, .ref m_lengths, .ref m_small, .ref m_codes, .ref m_smallCodes, .int w4, .int w5, .int 0])), (m_tape, .inl (cM, 20000, .inl (upd g3 (4 : Int32).toNatClampNeg (vp_nar .byte ((x2 >>> (24 &&& 31)).toInt8.toInt32)))))] H := hP
    have hD : va_D A [(h0, .inr (8, [.ref m_tape, .int 0, .int op, .int fp, .int bu, .int ra, .int en, .ref m_methods, .ref m_packed, .ref m_sizes, .ref m_sums, .ref m_datas, .ref m_locals, .ref m_localEnds, .ref m_names, .ref m_nameSizes, .ref m_states, .ref m_starts, .ref m_counts, .ref m_written, .int to, .int w1, .int w2, .int w3, .ref m_lengths, .ref m_small, .ref m_codes, .ref m_smallCodes, .int w4, .int w5, .int 0])), (m_tape, .inl (cM, 20000, .inl (upd g3 (4 : Int32).toNatClampNeg (vp_nar .byte ((x2 >>> (24 &&& 31)).toInt8.toInt32)))))] := hD
    refine lv_iinc (k := 1) (v := 5) (lv' := [(6, .int 5), (7, .int x2), (0, .ref h0), (1, .int x1), (2, .int x2), (3, .int x3), (4, .int x4), (5, .int x5)]) hx hb d_M_feed_112 hl rfl (by decide) (by decide) rfl (fun ls hl => ?_)
    generalize upd g3 (4 : Int32).toNatClampNeg (vp_nar .byte ((x2 >>> (24 &&& 31)).toInt8.toInt32)) = g4 at hP hD
    refine lv_goto (tgt := 31) hx hb d_M_feed_115 (by decide) ?_
    refine lv_iload hx hb d_M_feed_31 (lv_at hl 0 rfl) ?_
    refine lv_bipush (v := 20) hx hb d_M_feed_33 (by decide) ?_
    refine lv_icmp_ge (tgt := 118) hx hb d_M_feed_35 (by decide) (fun h => absurd h (by decide)) (fun _ => ?_)
    refine lv_iload hx hb d_M_feed_38 (lv_at hl 0 rfl) ?_
    refine lv_iconst (v := 4) hx hb d_M_feed_40 (by decide) ?_
    refine lv_icmp_ge (tgt := 48) hx hb d_M_feed_41 (by decide) (fun _ => ?_) (fun h => absurd (by decide) h)
    refine lv_iload hx hb d_M_feed_48 (lv_at hl 0 rfl) ?_
    refine lv_bipush (v := 8) hx hb d_M_feed_50 (by decide) ?_
    refine lv_icmp_ge (tgt := 59) hx hb d_M_feed_52 (by decide) (fun h => absurd h (by decide)) (fun _ => ?_)
    refine lv_iload_n hx hb d_M_feed_55 rfl (lv_at hl 4 rfl) ?_
    refine lv_goto (tgt := 84) hx hb d_M_feed_56 (by decide) ?_
    refine lv_istore (lv' := [(7, .int x2), (6, .int 5), (0, .ref h0), (1, .int x1), (2, .int x2), (3, .int x3), (4, .int x4), (5, .int x5)]) hx hb d_M_feed_84 hl (by decide) rfl (fun ls hl => ?_)
    refine lv_aload_n hx hb d_M_feed_86 rfl (lv_at hl 2 rfl) ?_
    refine va_get (ci := 8) (C := "ZipGuardModel") (T := F_M) (N := 31) hx hb ht zi_M hown hK hP 0 rfl rfl 0 (by decide) (ht _ zm_752) (fun _ h9 => h9) rfl d_M_feed_87 ?_
    refine lv_aload_n hx hb d_M_feed_90 rfl (lv_at hl 2 rfl) ?_
    refine va_get (ci := 8) (C := "ZipGuardModel") (T := F_M) (N := 31) hx hb ht zi_M hown hK hP 0 rfl rfl 1 (by decide) (ht _ zm_753) (fun _ h9 => h9) rfl d_M_feed_91 ?_
    refine lv_iload hx hb d_M_feed_94 (lv_at hl 1 rfl) ?_
    refine lv_iadd hx hb d_M_feed_96 ?_
    refine lv_topi (fun z40 e_z40 => ?_)
    have e_z40 : z40 = 5 := e_z40.trans (by decide)
    subst e_z40
    refine lv_iload hx hb d_M_feed_97 (lv_at hl 0 rfl) ?_
    refine lv_bipush (v := 24) hx hb d_M_feed_99 (by decide) ?_
    refine lv_bipush (v := 8) hx hb d_M_feed_101 (by decide) ?_
    refine lv_iload hx hb d_M_feed_103 (lv_at hl 1 rfl) ?_
    refine lv_iconst (v := 4) hx hb d_M_feed_105 (by decide) ?_
    refine lv_irem hx hb d_M_feed_106 (by decide) ?_
    refine lv_topi (fun z41 e_z41 => ?_)
    have e_z41 : z41 = 1 := e_z41.trans (by decide)
    subst e_z41
    refine lv_imul hx hb d_M_feed_107 ?_
    refine lv_topi (fun z42 e_z42 => ?_)
    have e_z42 : z42 = 8 := e_z42.trans (by decide)
    subst e_z42
    refine lv_isub hx hb d_M_feed_108 ?_
    refine lv_topi (fun z43 e_z43 => ?_)
    have e_z43 : z43 = 16 := e_z43.trans (by decide)
    subst e_z43
    refine lv_ishr hx hb d_M_feed_109 ?_
    refine lv_i2b hx hb d_M_feed_110 rfl ?_
    refine va_bast hx hb hK hP hD hS 1 0 rfl rfl (by unfold vp_in; decide) d_M_feed_111 (fun H locs hP hD hS => ?_)
    have hP : va_P D zcl [(h0, .inr (8, [.ref m_tape, .int 0, .int op, .int fp, .int bu, .int ra, .int en, .ref m_methods, .ref m_packed, .ref m_sizes, .ref m_sums, .ref m_datas, .ref m_locals, .ref m_localEnds, .ref m_names, .ref m_nameSizes, .ref m_states, .ref m_starts, .ref m_counts, .ref m_written, .int to, .int w1, .int w2, .int w3, .ref m_lengths, .ref m_small, .ref m_codes, .ref m_smallCodes, .int w4, .int w5, .int 0])), (m_tape, .inl (cM, 20000, .inl (upd g4 (5 : Int32).toNatClampNeg (vp_nar .byte ((x2 >>> (16 &&& 31)).toInt8.toInt32)))))] H := hP
    have hD : va_D A [(h0, .inr (8, [.ref m_tape, .int 0, .int op, .int fp, .int bu, .int ra, .int en, .ref m_methods, .ref m_packed, .ref m_sizes, .ref m_sums, .ref m_datas, .ref m_locals, .ref m_localEnds, .ref m_names, .ref m_nameSizes, .ref m_states, .ref m_starts, .ref m_counts, .ref m_written, .int to, .int w1, .int w2, .int w3, .ref m_lengths, .ref m_small, .ref m_codes, .ref m_smallCodes, .int w4, .int w5, .int 0])), (m_tape, .inl (cM, 20000, .inl (upd g4 (5 : Int32).toNatClampNeg (vp_nar .byte ((x2 >>> (16 &&& 31)).toInt8.toInt32)))))] := hD
    refine lv_iinc (k := 1) (v := 6) (lv' := [(6, .int 6), (7, .int x2), (0, .ref h0), (1, .int x1), (2, .int x2), (3, .int x3), (4, .int x4), (5, .int x5)]) hx hb d_M_feed_112 hl rfl (by decide) (by decide) rfl (fun ls hl => ?_)
    generalize upd g4 (5 : Int32).toNatClampNeg (vp_nar .byte ((x2 >>> (16 &&& 31)).toInt8.toInt32)) = g5 at hP hD
    refine lv_goto (tgt := 31) hx hb d_M_feed_115 (by decide) ?_
    refine lv_iload hx hb d_M_feed_31 (lv_at hl 0 rfl) ?_
    refine lv_bipush (v := 20) hx hb d_M_feed_33 (by decide) ?_
    refine lv_icmp_ge (tgt := 118) hx hb d_M_feed_35 (by decide) (fun h => absurd h (by decide)) (fun _ => ?_)
    refine lv_iload hx hb d_M_feed_38 (lv_at hl 0 rfl) ?_
    refine lv_iconst (v := 4) hx hb d_M_feed_40 (by decide) ?_
    refine lv_icmp_ge (tgt := 48) hx hb d_M_feed_41 (by decide) (fun _ => ?_) (fun h => absurd (by decide) h)
    refine lv_iload hx hb d_M_feed_48 (lv_at hl 0 rfl) ?_
    refine lv_bipush (v := 8) hx hb d_M_feed_50 (by decide) ?_
    refine lv_icmp_ge (tgt := 59) hx hb d_M_feed_52 (by decide) (fun h => absurd h (by decide)) (fun _ => ?_)
    refine lv_iload_n hx hb d_M_feed_55 rfl (lv_at hl 4 rfl) ?_
    refine lv_goto (tgt := 84) hx hb d_M_feed_56 (by decide) ?_
    refine lv_istore (lv' := [(7, .int x2), (6, .int 6), (0, .ref h0), (1, .int x1), (2, .int x2), (3, .int x3), (4, .int x4), (5, .int x5)]) hx hb d_M_feed_84 hl (by decide) rfl (fun ls hl => ?_)
    refine lv_aload_n hx hb d_M_feed_86 rfl (lv_at hl 2 rfl) ?_
    refine va_get (ci := 8) (C := "ZipGuardModel") (T := F_M) (N := 31) hx hb ht zi_M hown hK hP 0 rfl rfl 0 (by decide) (ht _ zm_752) (fun _ h9 => h9) rfl d_M_feed_87 ?_
    refine lv_aload_n hx hb d_M_feed_90 rfl (lv_at hl 2 rfl) ?_
    refine va_get (ci := 8) (C := "ZipGuardModel") (T := F_M) (N := 31) hx hb ht zi_M hown hK hP 0 rfl rfl 1 (by decide) (ht _ zm_753) (fun _ h9 => h9) rfl d_M_feed_91 ?_
    refine lv_iload hx hb d_M_feed_94 (lv_at hl 1 rfl) ?_
    refine lv_iadd hx hb d_M_feed_96 ?_
    refine lv_topi (fun z47 e_z47 => ?_)
    have e_z47 : z47 = 6 := e_z47.trans (by decide)
    subst e_z47
    refine lv_iload hx hb d_M_feed_97 (lv_at hl 0 rfl) ?_
    refine lv_bipush (v := 24) hx hb d_M_feed_99 (by decide) ?_
    refine lv_bipush (v := 8) hx hb d_M_feed_101 (by decide) ?_
    refine lv_iload hx hb d_M_feed_103 (lv_at hl 1 rfl) ?_
    refine lv_iconst (v := 4) hx hb d_M_feed_105 (by decide) ?_
    refine lv_irem hx hb d_M_feed_106 (by decide) ?_
    refine lv_topi (fun z48 e_z48 => ?_)
    have e_z48 : z48 = 2 := e_z48.trans (by decide)
    subst e_z48
    refine lv_imul hx hb d_M_feed_107 ?_
    refine lv_topi (fun z49 e_z49 => ?_)
    have e_z49 : z49 = 16 := e_z49.trans (by decide)
    subst e_z49
    refine lv_isub hx hb d_M_feed_108 ?_
    refine lv_topi (fun z50 e_z50 => ?_)
    have e_z50 : z50 = 8 := e_z50.trans (by decide)
    subst e_z50
    refine lv_ishr hx hb d_M_feed_109 ?_
    refine lv_i2b hx hb d_M_feed_110 rfl ?_
    refine va_bast hx hb hK hP hD hS 1 0 rfl rfl (by unfold vp_in; decide) d_M_feed_111 (fun H locs hP hD hS => ?_)
    have hP : va_P D zcl [(h0, .inr (8, [.ref m_tape, .int 0, .int op, .int fp, .int bu, .int ra, .int en, .ref m_methods, .ref m_packed, .ref m_sizes, .ref m_sums, .ref m_datas, .ref m_locals, .ref m_localEnds, .ref m_names, .ref m_nameSizes, .ref m_states, .ref m_starts, .ref m_counts, .ref m_written, .int to, .int w1, .int w2, .int w3, .ref m_lengths, .ref m_small, .ref m_codes, .ref m_smallCodes, .int w4, .int w5, .int 0])), (m_tape, .inl (cM, 20000, .inl (upd g5 (6 : Int32).toNatClampNeg (vp_nar .byte ((x2 >>> (8 &&& 31)).toInt8.toInt32)))))] H := hP
    have hD : va_D A [(h0, .inr (8, [.ref m_tape, .int 0, .int op, .int fp, .int bu, .int ra, .int en, .ref m_methods, .ref m_packed, .ref m_sizes, .ref m_sums, .ref m_datas, .ref m_locals, .ref m_localEnds, .ref m_names, .ref m_nameSizes, .ref m_states, .ref m_starts, .ref m_counts, .ref m_written, .int to, .int w1, .int w2, .int w3, .ref m_lengths, .ref m_small, .ref m_codes, .ref m_smallCodes, .int w4, .int w5, .int 0])), (m_tape, .inl (cM, 20000, .inl (upd g5 (6 : Int32).toNatClampNeg (vp_nar .byte ((x2 >>> (8 &&& 31)).toInt8.toInt32)))))] := hD
    refine lv_iinc (k := 1) (v := 7) (lv' := [(6, .int 7), (7, .int x2), (0, .ref h0), (1, .int x1), (2, .int x2), (3, .int x3), (4, .int x4), (5, .int x5)]) hx hb d_M_feed_112 hl rfl (by decide) (by decide) rfl (fun ls hl => ?_)
    generalize upd g5 (6 : Int32).toNatClampNeg (vp_nar .byte ((x2 >>> (8 &&& 31)).toInt8.toInt32)) = g6 at hP hD
    refine lv_goto (tgt := 31) hx hb d_M_feed_115 (by decide) ?_
    refine lv_iload hx hb d_M_feed_31 (lv_at hl 0 rfl) ?_
    refine lv_bipush (v := 20) hx hb d_M_feed_33 (by decide) ?_
    refine lv_icmp_ge (tgt := 118) hx hb d_M_feed_35 (by decide) (fun h => absurd h (by decide)) (fun _ => ?_)
    refine lv_iload hx hb d_M_feed_38 (lv_at hl 0 rfl) ?_
    refine lv_iconst (v := 4) hx hb d_M_feed_40 (by decide) ?_
    refine lv_icmp_ge (tgt := 48) hx hb d_M_feed_41 (by decide) (fun _ => ?_) (fun h => absurd (by decide) h)
    refine lv_iload hx hb d_M_feed_48 (lv_at hl 0 rfl) ?_
    refine lv_bipush (v := 8) hx hb d_M_feed_50 (by decide) ?_
    refine lv_icmp_ge (tgt := 59) hx hb d_M_feed_52 (by decide) (fun h => absurd h (by decide)) (fun _ => ?_)
    refine lv_iload_n hx hb d_M_feed_55 rfl (lv_at hl 4 rfl) ?_
    refine lv_goto (tgt := 84) hx hb d_M_feed_56 (by decide) ?_
    refine lv_istore (lv' := [(7, .int x2), (6, .int 7), (0, .ref h0), (1, .int x1), (2, .int x2), (3, .int x3), (4, .int x4), (5, .int x5)]) hx hb d_M_feed_84 hl (by decide) rfl (fun ls hl => ?_)
    refine lv_aload_n hx hb d_M_feed_86 rfl (lv_at hl 2 rfl) ?_
    refine va_get (ci := 8) (C := "ZipGuardModel") (T := F_M) (N := 31) hx hb ht zi_M hown hK hP 0 rfl rfl 0 (by decide) (ht _ zm_752) (fun _ h9 => h9) rfl d_M_feed_87 ?_
    refine lv_aload_n hx hb d_M_feed_90 rfl (lv_at hl 2 rfl) ?_
    refine va_get (ci := 8) (C := "ZipGuardModel") (T := F_M) (N := 31) hx hb ht zi_M hown hK hP 0 rfl rfl 1 (by decide) (ht _ zm_753) (fun _ h9 => h9) rfl d_M_feed_91 ?_
    refine lv_iload hx hb d_M_feed_94 (lv_at hl 1 rfl) ?_
    refine lv_iadd hx hb d_M_feed_96 ?_
    refine lv_topi (fun z54 e_z54 => ?_)
    have e_z54 : z54 = 7 := e_z54.trans (by decide)
    subst e_z54
    refine lv_iload hx hb d_M_feed_97 (lv_at hl 0 rfl) ?_
    refine lv_bipush (v := 24) hx hb d_M_feed_99 (by decide) ?_
    refine lv_bipush (v := 8) hx hb d_M_feed_101 (by decide) ?_
    refine lv_iload hx hb d_M_feed_103 (lv_at hl 1 rfl) ?_
    refine lv_iconst (v := 4) hx hb d_M_feed_105 (by decide) ?_
    refine lv_irem hx hb d_M_feed_106 (by decide) ?_
    refine lv_topi (fun z55 e_z55 => ?_)
    have e_z55 : z55 = 3 := e_z55.trans (by decide)
    subst e_z55
    refine lv_imul hx hb d_M_feed_107 ?_
    refine lv_topi (fun z56 e_z56 => ?_)
    have e_z56 : z56 = 24 := e_z56.trans (by decide)
    subst e_z56
    refine lv_isub hx hb d_M_feed_108 ?_
    refine lv_topi (fun z57 e_z57 => ?_)
    have e_z57 : z57 = 0 := e_z57.trans (by decide)
    subst e_z57
    refine lv_ishr hx hb d_M_feed_109 ?_
    refine lv_i2b hx hb d_M_feed_110 rfl ?_
    refine va_bast hx hb hK hP hD hS 1 0 rfl rfl (by unfold vp_in; decide) d_M_feed_111 (fun H locs hP hD hS => ?_)
    have hP : va_P D zcl [(h0, .inr (8, [.ref m_tape, .int 0, .int op, .int fp, .int bu, .int ra, .int en, .ref m_methods, .ref m_packed, .ref m_sizes, .ref m_sums, .ref m_datas, .ref m_locals, .ref m_localEnds, .ref m_names, .ref m_nameSizes, .ref m_states, .ref m_starts, .ref m_counts, .ref m_written, .int to, .int w1, .int w2, .int w3, .ref m_lengths, .ref m_small, .ref m_codes, .ref m_smallCodes, .int w4, .int w5, .int 0])), (m_tape, .inl (cM, 20000, .inl (upd g6 (7 : Int32).toNatClampNeg (vp_nar .byte ((x2 >>> (0 &&& 31)).toInt8.toInt32)))))] H := hP
    have hD : va_D A [(h0, .inr (8, [.ref m_tape, .int 0, .int op, .int fp, .int bu, .int ra, .int en, .ref m_methods, .ref m_packed, .ref m_sizes, .ref m_sums, .ref m_datas, .ref m_locals, .ref m_localEnds, .ref m_names, .ref m_nameSizes, .ref m_states, .ref m_starts, .ref m_counts, .ref m_written, .int to, .int w1, .int w2, .int w3, .ref m_lengths, .ref m_small, .ref m_codes, .ref m_smallCodes, .int w4, .int w5, .int 0])), (m_tape, .inl (cM, 20000, .inl (upd g6 (7 : Int32).toNatClampNeg (vp_nar .byte ((x2 >>> (0 &&& 31)).toInt8.toInt32)))))] := hD
    refine lv_iinc (k := 1) (v := 8) (lv' := [(6, .int 8), (7, .int x2), (0, .ref h0), (1, .int x1), (2, .int x2), (3, .int x3), (4, .int x4), (5, .int x5)]) hx hb d_M_feed_112 hl rfl (by decide) (by decide) rfl (fun ls hl => ?_)
    generalize upd g6 (7 : Int32).toNatClampNeg (vp_nar .byte ((x2 >>> (0 &&& 31)).toInt8.toInt32)) = g7 at hP hD
    refine lv_goto (tgt := 31) hx hb d_M_feed_115 (by decide) ?_
    refine lv_iload hx hb d_M_feed_31 (lv_at hl 0 rfl) ?_
    refine lv_bipush (v := 20) hx hb d_M_feed_33 (by decide) ?_
    refine lv_icmp_ge (tgt := 118) hx hb d_M_feed_35 (by decide) (fun h => absurd h (by decide)) (fun _ => ?_)
    refine lv_iload hx hb d_M_feed_38 (lv_at hl 0 rfl) ?_
    refine lv_iconst (v := 4) hx hb d_M_feed_40 (by decide) ?_
    refine lv_icmp_ge (tgt := 48) hx hb d_M_feed_41 (by decide) (fun _ => ?_) (fun h => absurd (by decide) h)
    refine lv_iload hx hb d_M_feed_48 (lv_at hl 0 rfl) ?_
    refine lv_bipush (v := 8) hx hb d_M_feed_50 (by decide) ?_
    refine lv_icmp_ge (tgt := 59) hx hb d_M_feed_52 (by decide) (fun _ => ?_) (fun h => absurd (by decide) h)
    refine lv_iload hx hb d_M_feed_59 (lv_at hl 0 rfl) ?_
    refine lv_bipush (v := 12) hx hb d_M_feed_61 (by decide) ?_
    refine lv_icmp_ge (tgt := 70) hx hb d_M_feed_63 (by decide) (fun h => absurd h (by decide)) (fun _ => ?_)
    refine lv_iload_n hx hb d_M_feed_66 rfl (lv_at hl 5 rfl) ?_
    refine lv_goto (tgt := 84) hx hb d_M_feed_67 (by decide) ?_
    refine lv_istore (lv' := [(7, .int x3), (6, .int 8), (0, .ref h0), (1, .int x1), (2, .int x2), (3, .int x3), (4, .int x4), (5, .int x5)]) hx hb d_M_feed_84 hl (by decide) rfl (fun ls hl => ?_)
    refine lv_aload_n hx hb d_M_feed_86 rfl (lv_at hl 2 rfl) ?_
    refine va_get (ci := 8) (C := "ZipGuardModel") (T := F_M) (N := 31) hx hb ht zi_M hown hK hP 0 rfl rfl 0 (by decide) (ht _ zm_752) (fun _ h9 => h9) rfl d_M_feed_87 ?_
    refine lv_aload_n hx hb d_M_feed_90 rfl (lv_at hl 2 rfl) ?_
    refine va_get (ci := 8) (C := "ZipGuardModel") (T := F_M) (N := 31) hx hb ht zi_M hown hK hP 0 rfl rfl 1 (by decide) (ht _ zm_753) (fun _ h9 => h9) rfl d_M_feed_91 ?_
    refine lv_iload hx hb d_M_feed_94 (lv_at hl 1 rfl) ?_
    refine lv_iadd hx hb d_M_feed_96 ?_
    refine lv_topi (fun z62 e_z62 => ?_)
    have e_z62 : z62 = 8 := e_z62.trans (by decide)
    subst e_z62
    refine lv_iload hx hb d_M_feed_97 (lv_at hl 0 rfl) ?_
    refine lv_bipush (v := 24) hx hb d_M_feed_99 (by decide) ?_
    refine lv_bipush (v := 8) hx hb d_M_feed_101 (by decide) ?_
    refine lv_iload hx hb d_M_feed_103 (lv_at hl 1 rfl) ?_
    refine lv_iconst (v := 4) hx hb d_M_feed_105 (by decide) ?_
    refine lv_irem hx hb d_M_feed_106 (by decide) ?_
    refine lv_topi (fun z63 e_z63 => ?_)
    have e_z63 : z63 = 0 := e_z63.trans (by decide)
    subst e_z63
    refine lv_imul hx hb d_M_feed_107 ?_
    refine lv_topi (fun z64 e_z64 => ?_)
    have e_z64 : z64 = 0 := e_z64.trans (by decide)
    subst e_z64
    refine lv_isub hx hb d_M_feed_108 ?_
    refine lv_topi (fun z65 e_z65 => ?_)
    have e_z65 : z65 = 24 := e_z65.trans (by decide)
    subst e_z65
    refine lv_ishr hx hb d_M_feed_109 ?_
    refine lv_i2b hx hb d_M_feed_110 rfl ?_
    refine va_bast hx hb hK hP hD hS 1 0 rfl rfl (by unfold vp_in; decide) d_M_feed_111 (fun H locs hP hD hS => ?_)
    have hP : va_P D zcl [(h0, .inr (8, [.ref m_tape, .int 0, .int op, .int fp, .int bu, .int ra, .int en, .ref m_methods, .ref m_packed, .ref m_sizes, .ref m_sums, .ref m_datas, .ref m_locals, .ref m_localEnds, .ref m_names, .ref m_nameSizes, .ref m_states, .ref m_starts, .ref m_counts, .ref m_written, .int to, .int w1, .int w2, .int w3, .ref m_lengths, .ref m_small, .ref m_codes, .ref m_smallCodes, .int w4, .int w5, .int 0])), (m_tape, .inl (cM, 20000, .inl (upd g7 (8 : Int32).toNatClampNeg (vp_nar .byte ((x3 >>> (24 &&& 31)).toInt8.toInt32)))))] H := hP
    have hD : va_D A [(h0, .inr (8, [.ref m_tape, .int 0, .int op, .int fp, .int bu, .int ra, .int en, .ref m_methods, .ref m_packed, .ref m_sizes, .ref m_sums, .ref m_datas, .ref m_locals, .ref m_localEnds, .ref m_names, .ref m_nameSizes, .ref m_states, .ref m_starts, .ref m_counts, .ref m_written, .int to, .int w1, .int w2, .int w3, .ref m_lengths, .ref m_small, .ref m_codes, .ref m_smallCodes, .int w4, .int w5, .int 0])), (m_tape, .inl (cM, 20000, .inl (upd g7 (8 : Int32).toNatClampNeg (vp_nar .byte ((x3 >>> (24 &&& 31)).toInt8.toInt32)))))] := hD
    refine lv_iinc (k := 1) (v := 9) (lv' := [(6, .int 9), (7, .int x3), (0, .ref h0), (1, .int x1), (2, .int x2), (3, .int x3), (4, .int x4), (5, .int x5)]) hx hb d_M_feed_112 hl rfl (by decide) (by decide) rfl (fun ls hl => ?_)
    generalize upd g7 (8 : Int32).toNatClampNeg (vp_nar .byte ((x3 >>> (24 &&& 31)).toInt8.toInt32)) = g8 at hP hD
    refine lv_goto (tgt := 31) hx hb d_M_feed_115 (by decide) ?_
    refine lv_iload hx hb d_M_feed_31 (lv_at hl 0 rfl) ?_
    refine lv_bipush (v := 20) hx hb d_M_feed_33 (by decide) ?_
    refine lv_icmp_ge (tgt := 118) hx hb d_M_feed_35 (by decide) (fun h => absurd h (by decide)) (fun _ => ?_)
    refine lv_iload hx hb d_M_feed_38 (lv_at hl 0 rfl) ?_
    refine lv_iconst (v := 4) hx hb d_M_feed_40 (by decide) ?_
    refine lv_icmp_ge (tgt := 48) hx hb d_M_feed_41 (by decide) (fun _ => ?_) (fun h => absurd (by decide) h)
    refine lv_iload hx hb d_M_feed_48 (lv_at hl 0 rfl) ?_
    refine lv_bipush (v := 8) hx hb d_M_feed_50 (by decide) ?_
    refine lv_icmp_ge (tgt := 59) hx hb d_M_feed_52 (by decide) (fun _ => ?_) (fun h => absurd (by decide) h)
    refine lv_iload hx hb d_M_feed_59 (lv_at hl 0 rfl) ?_
    refine lv_bipush (v := 12) hx hb d_M_feed_61 (by decide) ?_
    refine lv_icmp_ge (tgt := 70) hx hb d_M_feed_63 (by decide) (fun h => absurd h (by decide)) (fun _ => ?_)
    refine lv_iload_n hx hb d_M_feed_66 rfl (lv_at hl 5 rfl) ?_
    refine lv_goto (tgt := 84) hx hb d_M_feed_67 (by decide) ?_
    refine lv_istore (lv' := [(7, .int x3), (6, .int 9), (0, .ref h0), (1, .int x1), (2, .int x2), (3, .int x3), (4, .int x4), (5, .int x5)]) hx hb d_M_feed_84 hl (by decide) rfl (fun ls hl => ?_)
    refine lv_aload_n hx hb d_M_feed_86 rfl (lv_at hl 2 rfl) ?_
    refine va_get (ci := 8) (C := "ZipGuardModel") (T := F_M) (N := 31) hx hb ht zi_M hown hK hP 0 rfl rfl 0 (by decide) (ht _ zm_752) (fun _ h9 => h9) rfl d_M_feed_87 ?_
    refine lv_aload_n hx hb d_M_feed_90 rfl (lv_at hl 2 rfl) ?_
    refine va_get (ci := 8) (C := "ZipGuardModel") (T := F_M) (N := 31) hx hb ht zi_M hown hK hP 0 rfl rfl 1 (by decide) (ht _ zm_753) (fun _ h9 => h9) rfl d_M_feed_91 ?_
    refine lv_iload hx hb d_M_feed_94 (lv_at hl 1 rfl) ?_
    refine lv_iadd hx hb d_M_feed_96 ?_
    refine lv_topi (fun z70 e_z70 => ?_)
    have e_z70 : z70 = 9 := e_z70.trans (by decide)
    subst e_z70
    refine lv_iload hx hb d_M_feed_97 (lv_at hl 0 rfl) ?_
    refine lv_bipush (v := 24) hx hb d_M_feed_99 (by decide) ?_
    refine lv_bipush (v := 8) hx hb d_M_feed_101 (by decide) ?_
    refine lv_iload hx hb d_M_feed_103 (lv_at hl 1 rfl) ?_
    refine lv_iconst (v := 4) hx hb d_M_feed_105 (by decide) ?_
    refine lv_irem hx hb d_M_feed_106 (by decide) ?_
    refine lv_topi (fun z71 e_z71 => ?_)
    have e_z71 : z71 = 1 := e_z71.trans (by decide)
    subst e_z71
    refine lv_imul hx hb d_M_feed_107 ?_
    refine lv_topi (fun z72 e_z72 => ?_)
    have e_z72 : z72 = 8 := e_z72.trans (by decide)
    subst e_z72
    refine lv_isub hx hb d_M_feed_108 ?_
    refine lv_topi (fun z73 e_z73 => ?_)
    have e_z73 : z73 = 16 := e_z73.trans (by decide)
    subst e_z73
    refine lv_ishr hx hb d_M_feed_109 ?_
    refine lv_i2b hx hb d_M_feed_110 rfl ?_
    refine va_bast hx hb hK hP hD hS 1 0 rfl rfl (by unfold vp_in; decide) d_M_feed_111 (fun H locs hP hD hS => ?_)
    have hP : va_P D zcl [(h0, .inr (8, [.ref m_tape, .int 0, .int op, .int fp, .int bu, .int ra, .int en, .ref m_methods, .ref m_packed, .ref m_sizes, .ref m_sums, .ref m_datas, .ref m_locals, .ref m_localEnds, .ref m_names, .ref m_nameSizes, .ref m_states, .ref m_starts, .ref m_counts, .ref m_written, .int to, .int w1, .int w2, .int w3, .ref m_lengths, .ref m_small, .ref m_codes, .ref m_smallCodes, .int w4, .int w5, .int 0])), (m_tape, .inl (cM, 20000, .inl (upd g8 (9 : Int32).toNatClampNeg (vp_nar .byte ((x3 >>> (16 &&& 31)).toInt8.toInt32)))))] H := hP
    have hD : va_D A [(h0, .inr (8, [.ref m_tape, .int 0, .int op, .int fp, .int bu, .int ra, .int en, .ref m_methods, .ref m_packed, .ref m_sizes, .ref m_sums, .ref m_datas, .ref m_locals, .ref m_localEnds, .ref m_names, .ref m_nameSizes, .ref m_states, .ref m_starts, .ref m_counts, .ref m_written, .int to, .int w1, .int w2, .int w3, .ref m_lengths, .ref m_small, .ref m_codes, .ref m_smallCodes, .int w4, .int w5, .int 0])), (m_tape, .inl (cM, 20000, .inl (upd g8 (9 : Int32).toNatClampNeg (vp_nar .byte ((x3 >>> (16 &&& 31)).toInt8.toInt32)))))] := hD
    refine lv_iinc (k := 1) (v := 10) (lv' := [(6, .int 10), (7, .int x3), (0, .ref h0), (1, .int x1), (2, .int x2), (3, .int x3), (4, .int x4), (5, .int x5)]) hx hb d_M_feed_112 hl rfl (by decide) (by decide) rfl (fun ls hl => ?_)
    generalize upd g8 (9 : Int32).toNatClampNeg (vp_nar .byte ((x3 >>> (16 &&& 31)).toInt8.toInt32)) = g9 at hP hD
    refine lv_goto (tgt := 31) hx hb d_M_feed_115 (by decide) ?_
    refine lv_iload hx hb d_M_feed_31 (lv_at hl 0 rfl) ?_
    refine lv_bipush (v := 20) hx hb d_M_feed_33 (by decide) ?_
    refine lv_icmp_ge (tgt := 118) hx hb d_M_feed_35 (by decide) (fun h => absurd h (by decide)) (fun _ => ?_)
    refine lv_iload hx hb d_M_feed_38 (lv_at hl 0 rfl) ?_
    refine lv_iconst (v := 4) hx hb d_M_feed_40 (by decide) ?_
    refine lv_icmp_ge (tgt := 48) hx hb d_M_feed_41 (by decide) (fun _ => ?_) (fun h => absurd (by decide) h)
    refine lv_iload hx hb d_M_feed_48 (lv_at hl 0 rfl) ?_
    refine lv_bipush (v := 8) hx hb d_M_feed_50 (by decide) ?_
    refine lv_icmp_ge (tgt := 59) hx hb d_M_feed_52 (by decide) (fun _ => ?_) (fun h => absurd (by decide) h)
    refine lv_iload hx hb d_M_feed_59 (lv_at hl 0 rfl) ?_
    refine lv_bipush (v := 12) hx hb d_M_feed_61 (by decide) ?_
    refine lv_icmp_ge (tgt := 70) hx hb d_M_feed_63 (by decide) (fun h => absurd h (by decide)) (fun _ => ?_)
    refine lv_iload_n hx hb d_M_feed_66 rfl (lv_at hl 5 rfl) ?_
    refine lv_goto (tgt := 84) hx hb d_M_feed_67 (by decide) ?_
    refine lv_istore (lv' := [(7, .int x3), (6, .int 10), (0, .ref h0), (1, .int x1), (2, .int x2), (3, .int x3), (4, .int x4), (5, .int x5)]) hx hb d_M_feed_84 hl (by decide) rfl (fun ls hl => ?_)
    refine lv_aload_n hx hb d_M_feed_86 rfl (lv_at hl 2 rfl) ?_
    refine va_get (ci := 8) (C := "ZipGuardModel") (T := F_M) (N := 31) hx hb ht zi_M hown hK hP 0 rfl rfl 0 (by decide) (ht _ zm_752) (fun _ h9 => h9) rfl d_M_feed_87 ?_
    refine lv_aload_n hx hb d_M_feed_90 rfl (lv_at hl 2 rfl) ?_
    refine va_get (ci := 8) (C := "ZipGuardModel") (T := F_M) (N := 31) hx hb ht zi_M hown hK hP 0 rfl rfl 1 (by decide) (ht _ zm_753) (fun _ h9 => h9) rfl d_M_feed_91 ?_
    refine lv_iload hx hb d_M_feed_94 (lv_at hl 1 rfl) ?_
    refine lv_iadd hx hb d_M_feed_96 ?_
    refine lv_topi (fun z78 e_z78 => ?_)
    have e_z78 : z78 = 10 := e_z78.trans (by decide)
    subst e_z78
    refine lv_iload hx hb d_M_feed_97 (lv_at hl 0 rfl) ?_
    refine lv_bipush (v := 24) hx hb d_M_feed_99 (by decide) ?_
    refine lv_bipush (v := 8) hx hb d_M_feed_101 (by decide) ?_
    refine lv_iload hx hb d_M_feed_103 (lv_at hl 1 rfl) ?_
    refine lv_iconst (v := 4) hx hb d_M_feed_105 (by decide) ?_
    refine lv_irem hx hb d_M_feed_106 (by decide) ?_
    refine lv_topi (fun z79 e_z79 => ?_)
    have e_z79 : z79 = 2 := e_z79.trans (by decide)
    subst e_z79
    refine lv_imul hx hb d_M_feed_107 ?_
    refine lv_topi (fun z80 e_z80 => ?_)
    have e_z80 : z80 = 16 := e_z80.trans (by decide)
    subst e_z80
    refine lv_isub hx hb d_M_feed_108 ?_
    refine lv_topi (fun z81 e_z81 => ?_)
    have e_z81 : z81 = 8 := e_z81.trans (by decide)
    subst e_z81
    refine lv_ishr hx hb d_M_feed_109 ?_
    refine lv_i2b hx hb d_M_feed_110 rfl ?_
    refine va_bast hx hb hK hP hD hS 1 0 rfl rfl (by unfold vp_in; decide) d_M_feed_111 (fun H locs hP hD hS => ?_)
    have hP : va_P D zcl [(h0, .inr (8, [.ref m_tape, .int 0, .int op, .int fp, .int bu, .int ra, .int en, .ref m_methods, .ref m_packed, .ref m_sizes, .ref m_sums, .ref m_datas, .ref m_locals, .ref m_localEnds, .ref m_names, .ref m_nameSizes, .ref m_states, .ref m_starts, .ref m_counts, .ref m_written, .int to, .int w1, .int w2, .int w3, .ref m_lengths, .ref m_small, .ref m_codes, .ref m_smallCodes, .int w4, .int w5, .int 0])), (m_tape, .inl (cM, 20000, .inl (upd g9 (10 : Int32).toNatClampNeg (vp_nar .byte ((x3 >>> (8 &&& 31)).toInt8.toInt32)))))] H := hP
    have hD : va_D A [(h0, .inr (8, [.ref m_tape, .int 0, .int op, .int fp, .int bu, .int ra, .int en, .ref m_methods, .ref m_packed, .ref m_sizes, .ref m_sums, .ref m_datas, .ref m_locals, .ref m_localEnds, .ref m_names, .ref m_nameSizes, .ref m_states, .ref m_starts, .ref m_counts, .ref m_written, .int to, .int w1, .int w2, .int w3, .ref m_lengths, .ref m_small, .ref m_codes, .ref m_smallCodes, .int w4, .int w5, .int 0])), (m_tape, .inl (cM, 20000, .inl (upd g9 (10 : Int32).toNatClampNeg (vp_nar .byte ((x3 >>> (8 &&& 31)).toInt8.toInt32)))))] := hD
    refine lv_iinc (k := 1) (v := 11) (lv' := [(6, .int 11), (7, .int x3), (0, .ref h0), (1, .int x1), (2, .int x2), (3, .int x3), (4, .int x4), (5, .int x5)]) hx hb d_M_feed_112 hl rfl (by decide) (by decide) rfl (fun ls hl => ?_)
    generalize upd g9 (10 : Int32).toNatClampNeg (vp_nar .byte ((x3 >>> (8 &&& 31)).toInt8.toInt32)) = g10 at hP hD
    refine lv_goto (tgt := 31) hx hb d_M_feed_115 (by decide) ?_
    refine lv_iload hx hb d_M_feed_31 (lv_at hl 0 rfl) ?_
    refine lv_bipush (v := 20) hx hb d_M_feed_33 (by decide) ?_
    refine lv_icmp_ge (tgt := 118) hx hb d_M_feed_35 (by decide) (fun h => absurd h (by decide)) (fun _ => ?_)
    refine lv_iload hx hb d_M_feed_38 (lv_at hl 0 rfl) ?_
    refine lv_iconst (v := 4) hx hb d_M_feed_40 (by decide) ?_
    refine lv_icmp_ge (tgt := 48) hx hb d_M_feed_41 (by decide) (fun _ => ?_) (fun h => absurd (by decide) h)
    refine lv_iload hx hb d_M_feed_48 (lv_at hl 0 rfl) ?_
    refine lv_bipush (v := 8) hx hb d_M_feed_50 (by decide) ?_
    refine lv_icmp_ge (tgt := 59) hx hb d_M_feed_52 (by decide) (fun _ => ?_) (fun h => absurd (by decide) h)
    refine lv_iload hx hb d_M_feed_59 (lv_at hl 0 rfl) ?_
    refine lv_bipush (v := 12) hx hb d_M_feed_61 (by decide) ?_
    refine lv_icmp_ge (tgt := 70) hx hb d_M_feed_63 (by decide) (fun h => absurd h (by decide)) (fun _ => ?_)
    refine lv_iload_n hx hb d_M_feed_66 rfl (lv_at hl 5 rfl) ?_
    refine lv_goto (tgt := 84) hx hb d_M_feed_67 (by decide) ?_
    refine lv_istore (lv' := [(7, .int x3), (6, .int 11), (0, .ref h0), (1, .int x1), (2, .int x2), (3, .int x3), (4, .int x4), (5, .int x5)]) hx hb d_M_feed_84 hl (by decide) rfl (fun ls hl => ?_)
    refine lv_aload_n hx hb d_M_feed_86 rfl (lv_at hl 2 rfl) ?_
    refine va_get (ci := 8) (C := "ZipGuardModel") (T := F_M) (N := 31) hx hb ht zi_M hown hK hP 0 rfl rfl 0 (by decide) (ht _ zm_752) (fun _ h9 => h9) rfl d_M_feed_87 ?_
    refine lv_aload_n hx hb d_M_feed_90 rfl (lv_at hl 2 rfl) ?_
    refine va_get (ci := 8) (C := "ZipGuardModel") (T := F_M) (N := 31) hx hb ht zi_M hown hK hP 0 rfl rfl 1 (by decide) (ht _ zm_753) (fun _ h9 => h9) rfl d_M_feed_91 ?_
    refine lv_iload hx hb d_M_feed_94 (lv_at hl 1 rfl) ?_
    refine lv_iadd hx hb d_M_feed_96 ?_
    refine lv_topi (fun z86 e_z86 => ?_)
    have e_z86 : z86 = 11 := e_z86.trans (by decide)
    subst e_z86
    refine lv_iload hx hb d_M_feed_97 (lv_at hl 0 rfl) ?_
    refine lv_bipush (v := 24) hx hb d_M_feed_99 (by decide) ?_
    refine lv_bipush (v := 8) hx hb d_M_feed_101 (by decide) ?_
    refine lv_iload hx hb d_M_feed_103 (lv_at hl 1 rfl) ?_
    refine lv_iconst (v := 4) hx hb d_M_feed_105 (by decide) ?_
    refine lv_irem hx hb d_M_feed_106 (by decide) ?_
    refine lv_topi (fun z87 e_z87 => ?_)
    have e_z87 : z87 = 3 := e_z87.trans (by decide)
    subst e_z87
    refine lv_imul hx hb d_M_feed_107 ?_
    refine lv_topi (fun z88 e_z88 => ?_)
    have e_z88 : z88 = 24 := e_z88.trans (by decide)
    subst e_z88
    refine lv_isub hx hb d_M_feed_108 ?_
    refine lv_topi (fun z89 e_z89 => ?_)
    have e_z89 : z89 = 0 := e_z89.trans (by decide)
    subst e_z89
    refine lv_ishr hx hb d_M_feed_109 ?_
    refine lv_i2b hx hb d_M_feed_110 rfl ?_
    refine va_bast hx hb hK hP hD hS 1 0 rfl rfl (by unfold vp_in; decide) d_M_feed_111 (fun H locs hP hD hS => ?_)
    have hP : va_P D zcl [(h0, .inr (8, [.ref m_tape, .int 0, .int op, .int fp, .int bu, .int ra, .int en, .ref m_methods, .ref m_packed, .ref m_sizes, .ref m_sums, .ref m_datas, .ref m_locals, .ref m_localEnds, .ref m_names, .ref m_nameSizes, .ref m_states, .ref m_starts, .ref m_counts, .ref m_written, .int to, .int w1, .int w2, .int w3, .ref m_lengths, .ref m_small, .ref m_codes, .ref m_smallCodes, .int w4, .int w5, .int 0])), (m_tape, .inl (cM, 20000, .inl (upd g10 (11 : Int32).toNatClampNeg (vp_nar .byte ((x3 >>> (0 &&& 31)).toInt8.toInt32)))))] H := hP
    have hD : va_D A [(h0, .inr (8, [.ref m_tape, .int 0, .int op, .int fp, .int bu, .int ra, .int en, .ref m_methods, .ref m_packed, .ref m_sizes, .ref m_sums, .ref m_datas, .ref m_locals, .ref m_localEnds, .ref m_names, .ref m_nameSizes, .ref m_states, .ref m_starts, .ref m_counts, .ref m_written, .int to, .int w1, .int w2, .int w3, .ref m_lengths, .ref m_small, .ref m_codes, .ref m_smallCodes, .int w4, .int w5, .int 0])), (m_tape, .inl (cM, 20000, .inl (upd g10 (11 : Int32).toNatClampNeg (vp_nar .byte ((x3 >>> (0 &&& 31)).toInt8.toInt32)))))] := hD
    refine lv_iinc (k := 1) (v := 12) (lv' := [(6, .int 12), (7, .int x3), (0, .ref h0), (1, .int x1), (2, .int x2), (3, .int x3), (4, .int x4), (5, .int x5)]) hx hb d_M_feed_112 hl rfl (by decide) (by decide) rfl (fun ls hl => ?_)
    generalize upd g10 (11 : Int32).toNatClampNeg (vp_nar .byte ((x3 >>> (0 &&& 31)).toInt8.toInt32)) = g11 at hP hD
    refine lv_goto (tgt := 31) hx hb d_M_feed_115 (by decide) ?_
    refine lv_iload hx hb d_M_feed_31 (lv_at hl 0 rfl) ?_
    refine lv_bipush (v := 20) hx hb d_M_feed_33 (by decide) ?_
    refine lv_icmp_ge (tgt := 118) hx hb d_M_feed_35 (by decide) (fun h => absurd h (by decide)) (fun _ => ?_)
    refine lv_iload hx hb d_M_feed_38 (lv_at hl 0 rfl) ?_
    refine lv_iconst (v := 4) hx hb d_M_feed_40 (by decide) ?_
    refine lv_icmp_ge (tgt := 48) hx hb d_M_feed_41 (by decide) (fun _ => ?_) (fun h => absurd (by decide) h)
    refine lv_iload hx hb d_M_feed_48 (lv_at hl 0 rfl) ?_
    refine lv_bipush (v := 8) hx hb d_M_feed_50 (by decide) ?_
    refine lv_icmp_ge (tgt := 59) hx hb d_M_feed_52 (by decide) (fun _ => ?_) (fun h => absurd (by decide) h)
    refine lv_iload hx hb d_M_feed_59 (lv_at hl 0 rfl) ?_
    refine lv_bipush (v := 12) hx hb d_M_feed_61 (by decide) ?_
    refine lv_icmp_ge (tgt := 70) hx hb d_M_feed_63 (by decide) (fun _ => ?_) (fun h => absurd (by decide) h)
    refine lv_iload hx hb d_M_feed_70 (lv_at hl 0 rfl) ?_
    refine lv_bipush (v := 16) hx hb d_M_feed_72 (by decide) ?_
    refine lv_icmp_ge (tgt := 82) hx hb d_M_feed_74 (by decide) (fun h => absurd h (by decide)) (fun _ => ?_)
    refine lv_iload hx hb d_M_feed_77 (lv_at hl 6 rfl) ?_
    refine lv_goto (tgt := 84) hx hb d_M_feed_79 (by decide) ?_
    refine lv_istore (lv' := [(7, .int x4), (6, .int 12), (0, .ref h0), (1, .int x1), (2, .int x2), (3, .int x3), (4, .int x4), (5, .int x5)]) hx hb d_M_feed_84 hl (by decide) rfl (fun ls hl => ?_)
    refine lv_aload_n hx hb d_M_feed_86 rfl (lv_at hl 2 rfl) ?_
    refine va_get (ci := 8) (C := "ZipGuardModel") (T := F_M) (N := 31) hx hb ht zi_M hown hK hP 0 rfl rfl 0 (by decide) (ht _ zm_752) (fun _ h9 => h9) rfl d_M_feed_87 ?_
    refine lv_aload_n hx hb d_M_feed_90 rfl (lv_at hl 2 rfl) ?_
    refine va_get (ci := 8) (C := "ZipGuardModel") (T := F_M) (N := 31) hx hb ht zi_M hown hK hP 0 rfl rfl 1 (by decide) (ht _ zm_753) (fun _ h9 => h9) rfl d_M_feed_91 ?_
    refine lv_iload hx hb d_M_feed_94 (lv_at hl 1 rfl) ?_
    refine lv_iadd hx hb d_M_feed_96 ?_
    refine lv_topi (fun z95 e_z95 => ?_)
    have e_z95 : z95 = 12 := e_z95.trans (by decide)
    subst e_z95
    refine lv_iload hx hb d_M_feed_97 (lv_at hl 0 rfl) ?_
    refine lv_bipush (v := 24) hx hb d_M_feed_99 (by decide) ?_
    refine lv_bipush (v := 8) hx hb d_M_feed_101 (by decide) ?_
    refine lv_iload hx hb d_M_feed_103 (lv_at hl 1 rfl) ?_
    refine lv_iconst (v := 4) hx hb d_M_feed_105 (by decide) ?_
    refine lv_irem hx hb d_M_feed_106 (by decide) ?_
    refine lv_topi (fun z96 e_z96 => ?_)
    have e_z96 : z96 = 0 := e_z96.trans (by decide)
    subst e_z96
    refine lv_imul hx hb d_M_feed_107 ?_
    refine lv_topi (fun z97 e_z97 => ?_)
    have e_z97 : z97 = 0 := e_z97.trans (by decide)
    subst e_z97
    refine lv_isub hx hb d_M_feed_108 ?_
    refine lv_topi (fun z98 e_z98 => ?_)
    have e_z98 : z98 = 24 := e_z98.trans (by decide)
    subst e_z98
    refine lv_ishr hx hb d_M_feed_109 ?_
    refine lv_i2b hx hb d_M_feed_110 rfl ?_
    refine va_bast hx hb hK hP hD hS 1 0 rfl rfl (by unfold vp_in; decide) d_M_feed_111 (fun H locs hP hD hS => ?_)
    have hP : va_P D zcl [(h0, .inr (8, [.ref m_tape, .int 0, .int op, .int fp, .int bu, .int ra, .int en, .ref m_methods, .ref m_packed, .ref m_sizes, .ref m_sums, .ref m_datas, .ref m_locals, .ref m_localEnds, .ref m_names, .ref m_nameSizes, .ref m_states, .ref m_starts, .ref m_counts, .ref m_written, .int to, .int w1, .int w2, .int w3, .ref m_lengths, .ref m_small, .ref m_codes, .ref m_smallCodes, .int w4, .int w5, .int 0])), (m_tape, .inl (cM, 20000, .inl (upd g11 (12 : Int32).toNatClampNeg (vp_nar .byte ((x4 >>> (24 &&& 31)).toInt8.toInt32)))))] H := hP
    have hD : va_D A [(h0, .inr (8, [.ref m_tape, .int 0, .int op, .int fp, .int bu, .int ra, .int en, .ref m_methods, .ref m_packed, .ref m_sizes, .ref m_sums, .ref m_datas, .ref m_locals, .ref m_localEnds, .ref m_names, .ref m_nameSizes, .ref m_states, .ref m_starts, .ref m_counts, .ref m_written, .int to, .int w1, .int w2, .int w3, .ref m_lengths, .ref m_small, .ref m_codes, .ref m_smallCodes, .int w4, .int w5, .int 0])), (m_tape, .inl (cM, 20000, .inl (upd g11 (12 : Int32).toNatClampNeg (vp_nar .byte ((x4 >>> (24 &&& 31)).toInt8.toInt32)))))] := hD
    refine lv_iinc (k := 1) (v := 13) (lv' := [(6, .int 13), (7, .int x4), (0, .ref h0), (1, .int x1), (2, .int x2), (3, .int x3), (4, .int x4), (5, .int x5)]) hx hb d_M_feed_112 hl rfl (by decide) (by decide) rfl (fun ls hl => ?_)
    generalize upd g11 (12 : Int32).toNatClampNeg (vp_nar .byte ((x4 >>> (24 &&& 31)).toInt8.toInt32)) = g12 at hP hD
    refine lv_goto (tgt := 31) hx hb d_M_feed_115 (by decide) ?_
    refine lv_iload hx hb d_M_feed_31 (lv_at hl 0 rfl) ?_
    refine lv_bipush (v := 20) hx hb d_M_feed_33 (by decide) ?_
    refine lv_icmp_ge (tgt := 118) hx hb d_M_feed_35 (by decide) (fun h => absurd h (by decide)) (fun _ => ?_)
    refine lv_iload hx hb d_M_feed_38 (lv_at hl 0 rfl) ?_
    refine lv_iconst (v := 4) hx hb d_M_feed_40 (by decide) ?_
    refine lv_icmp_ge (tgt := 48) hx hb d_M_feed_41 (by decide) (fun _ => ?_) (fun h => absurd (by decide) h)
    refine lv_iload hx hb d_M_feed_48 (lv_at hl 0 rfl) ?_
    refine lv_bipush (v := 8) hx hb d_M_feed_50 (by decide) ?_
    refine lv_icmp_ge (tgt := 59) hx hb d_M_feed_52 (by decide) (fun _ => ?_) (fun h => absurd (by decide) h)
    refine lv_iload hx hb d_M_feed_59 (lv_at hl 0 rfl) ?_
    refine lv_bipush (v := 12) hx hb d_M_feed_61 (by decide) ?_
    refine lv_icmp_ge (tgt := 70) hx hb d_M_feed_63 (by decide) (fun _ => ?_) (fun h => absurd (by decide) h)
    refine lv_iload hx hb d_M_feed_70 (lv_at hl 0 rfl) ?_
    refine lv_bipush (v := 16) hx hb d_M_feed_72 (by decide) ?_
    refine lv_icmp_ge (tgt := 82) hx hb d_M_feed_74 (by decide) (fun h => absurd h (by decide)) (fun _ => ?_)
    refine lv_iload hx hb d_M_feed_77 (lv_at hl 6 rfl) ?_
    refine lv_goto (tgt := 84) hx hb d_M_feed_79 (by decide) ?_
    refine lv_istore (lv' := [(7, .int x4), (6, .int 13), (0, .ref h0), (1, .int x1), (2, .int x2), (3, .int x3), (4, .int x4), (5, .int x5)]) hx hb d_M_feed_84 hl (by decide) rfl (fun ls hl => ?_)
    refine lv_aload_n hx hb d_M_feed_86 rfl (lv_at hl 2 rfl) ?_
    refine va_get (ci := 8) (C := "ZipGuardModel") (T := F_M) (N := 31) hx hb ht zi_M hown hK hP 0 rfl rfl 0 (by decide) (ht _ zm_752) (fun _ h9 => h9) rfl d_M_feed_87 ?_
    refine lv_aload_n hx hb d_M_feed_90 rfl (lv_at hl 2 rfl) ?_
    refine va_get (ci := 8) (C := "ZipGuardModel") (T := F_M) (N := 31) hx hb ht zi_M hown hK hP 0 rfl rfl 1 (by decide) (ht _ zm_753) (fun _ h9 => h9) rfl d_M_feed_91 ?_
    refine lv_iload hx hb d_M_feed_94 (lv_at hl 1 rfl) ?_
    refine lv_iadd hx hb d_M_feed_96 ?_
    refine lv_topi (fun z104 e_z104 => ?_)
    have e_z104 : z104 = 13 := e_z104.trans (by decide)
    subst e_z104
    refine lv_iload hx hb d_M_feed_97 (lv_at hl 0 rfl) ?_
    refine lv_bipush (v := 24) hx hb d_M_feed_99 (by decide) ?_
    refine lv_bipush (v := 8) hx hb d_M_feed_101 (by decide) ?_
    refine lv_iload hx hb d_M_feed_103 (lv_at hl 1 rfl) ?_
    refine lv_iconst (v := 4) hx hb d_M_feed_105 (by decide) ?_
    refine lv_irem hx hb d_M_feed_106 (by decide) ?_
    refine lv_topi (fun z105 e_z105 => ?_)
    have e_z105 : z105 = 1 := e_z105.trans (by decide)
    subst e_z105
    refine lv_imul hx hb d_M_feed_107 ?_
    refine lv_topi (fun z106 e_z106 => ?_)
    have e_z106 : z106 = 8 := e_z106.trans (by decide)
    subst e_z106
    refine lv_isub hx hb d_M_feed_108 ?_
    refine lv_topi (fun z107 e_z107 => ?_)
    have e_z107 : z107 = 16 := e_z107.trans (by decide)
    subst e_z107
    refine lv_ishr hx hb d_M_feed_109 ?_
    refine lv_i2b hx hb d_M_feed_110 rfl ?_
    refine va_bast hx hb hK hP hD hS 1 0 rfl rfl (by unfold vp_in; decide) d_M_feed_111 (fun H locs hP hD hS => ?_)
    have hP : va_P D zcl [(h0, .inr (8, [.ref m_tape, .int 0, .int op, .int fp, .int bu, .int ra, .int en, .ref m_methods, .ref m_packed, .ref m_sizes, .ref m_sums, .ref m_datas, .ref m_locals, .ref m_localEnds, .ref m_names, .ref m_nameSizes, .ref m_states, .ref m_starts, .ref m_counts, .ref m_written, .int to, .int w1, .int w2, .int w3, .ref m_lengths, .ref m_small, .ref m_codes, .ref m_smallCodes, .int w4, .int w5, .int 0])), (m_tape, .inl (cM, 20000, .inl (upd g12 (13 : Int32).toNatClampNeg (vp_nar .byte ((x4 >>> (16 &&& 31)).toInt8.toInt32)))))] H := hP
    have hD : va_D A [(h0, .inr (8, [.ref m_tape, .int 0, .int op, .int fp, .int bu, .int ra, .int en, .ref m_methods, .ref m_packed, .ref m_sizes, .ref m_sums, .ref m_datas, .ref m_locals, .ref m_localEnds, .ref m_names, .ref m_nameSizes, .ref m_states, .ref m_starts, .ref m_counts, .ref m_written, .int to, .int w1, .int w2, .int w3, .ref m_lengths, .ref m_small, .ref m_codes, .ref m_smallCodes, .int w4, .int w5, .int 0])), (m_tape, .inl (cM, 20000, .inl (upd g12 (13 : Int32).toNatClampNeg (vp_nar .byte ((x4 >>> (16 &&& 31)).toInt8.toInt32)))))] := hD
    refine lv_iinc (k := 1) (v := 14) (lv' := [(6, .int 14), (7, .int x4), (0, .ref h0), (1, .int x1), (2, .int x2), (3, .int x3), (4, .int x4), (5, .int x5)]) hx hb d_M_feed_112 hl rfl (by decide) (by decide) rfl (fun ls hl => ?_)
    generalize upd g12 (13 : Int32).toNatClampNeg (vp_nar .byte ((x4 >>> (16 &&& 31)).toInt8.toInt32)) = g13 at hP hD
    refine lv_goto (tgt := 31) hx hb d_M_feed_115 (by decide) ?_
    refine lv_iload hx hb d_M_feed_31 (lv_at hl 0 rfl) ?_
    refine lv_bipush (v := 20) hx hb d_M_feed_33 (by decide) ?_
    refine lv_icmp_ge (tgt := 118) hx hb d_M_feed_35 (by decide) (fun h => absurd h (by decide)) (fun _ => ?_)
    refine lv_iload hx hb d_M_feed_38 (lv_at hl 0 rfl) ?_
    refine lv_iconst (v := 4) hx hb d_M_feed_40 (by decide) ?_
    refine lv_icmp_ge (tgt := 48) hx hb d_M_feed_41 (by decide) (fun _ => ?_) (fun h => absurd (by decide) h)
    refine lv_iload hx hb d_M_feed_48 (lv_at hl 0 rfl) ?_
    refine lv_bipush (v := 8) hx hb d_M_feed_50 (by decide) ?_
    refine lv_icmp_ge (tgt := 59) hx hb d_M_feed_52 (by decide) (fun _ => ?_) (fun h => absurd (by decide) h)
    refine lv_iload hx hb d_M_feed_59 (lv_at hl 0 rfl) ?_
    refine lv_bipush (v := 12) hx hb d_M_feed_61 (by decide) ?_
    refine lv_icmp_ge (tgt := 70) hx hb d_M_feed_63 (by decide) (fun _ => ?_) (fun h => absurd (by decide) h)
    refine lv_iload hx hb d_M_feed_70 (lv_at hl 0 rfl) ?_
    refine lv_bipush (v := 16) hx hb d_M_feed_72 (by decide) ?_
    refine lv_icmp_ge (tgt := 82) hx hb d_M_feed_74 (by decide) (fun h => absurd h (by decide)) (fun _ => ?_)
    refine lv_iload hx hb d_M_feed_77 (lv_at hl 6 rfl) ?_
    refine lv_goto (tgt := 84) hx hb d_M_feed_79 (by decide) ?_
    refine lv_istore (lv' := [(7, .int x4), (6, .int 14), (0, .ref h0), (1, .int x1), (2, .int x2), (3, .int x3), (4, .int x4), (5, .int x5)]) hx hb d_M_feed_84 hl (by decide) rfl (fun ls hl => ?_)
    refine lv_aload_n hx hb d_M_feed_86 rfl (lv_at hl 2 rfl) ?_
    refine va_get (ci := 8) (C := "ZipGuardModel") (T := F_M) (N := 31) hx hb ht zi_M hown hK hP 0 rfl rfl 0 (by decide) (ht _ zm_752) (fun _ h9 => h9) rfl d_M_feed_87 ?_
    refine lv_aload_n hx hb d_M_feed_90 rfl (lv_at hl 2 rfl) ?_
    refine va_get (ci := 8) (C := "ZipGuardModel") (T := F_M) (N := 31) hx hb ht zi_M hown hK hP 0 rfl rfl 1 (by decide) (ht _ zm_753) (fun _ h9 => h9) rfl d_M_feed_91 ?_
    refine lv_iload hx hb d_M_feed_94 (lv_at hl 1 rfl) ?_
    refine lv_iadd hx hb d_M_feed_96 ?_
    refine lv_topi (fun z113 e_z113 => ?_)
    have e_z113 : z113 = 14 := e_z113.trans (by decide)
    subst e_z113
    refine lv_iload hx hb d_M_feed_97 (lv_at hl 0 rfl) ?_
    refine lv_bipush (v := 24) hx hb d_M_feed_99 (by decide) ?_
    refine lv_bipush (v := 8) hx hb d_M_feed_101 (by decide) ?_
    refine lv_iload hx hb d_M_feed_103 (lv_at hl 1 rfl) ?_
    refine lv_iconst (v := 4) hx hb d_M_feed_105 (by decide) ?_
    refine lv_irem hx hb d_M_feed_106 (by decide) ?_
    refine lv_topi (fun z114 e_z114 => ?_)
    have e_z114 : z114 = 2 := e_z114.trans (by decide)
    subst e_z114
    refine lv_imul hx hb d_M_feed_107 ?_
    refine lv_topi (fun z115 e_z115 => ?_)
    have e_z115 : z115 = 16 := e_z115.trans (by decide)
    subst e_z115
    refine lv_isub hx hb d_M_feed_108 ?_
    refine lv_topi (fun z116 e_z116 => ?_)
    have e_z116 : z116 = 8 := e_z116.trans (by decide)
    subst e_z116
    refine lv_ishr hx hb d_M_feed_109 ?_
    refine lv_i2b hx hb d_M_feed_110 rfl ?_
    refine va_bast hx hb hK hP hD hS 1 0 rfl rfl (by unfold vp_in; decide) d_M_feed_111 (fun H locs hP hD hS => ?_)
    have hP : va_P D zcl [(h0, .inr (8, [.ref m_tape, .int 0, .int op, .int fp, .int bu, .int ra, .int en, .ref m_methods, .ref m_packed, .ref m_sizes, .ref m_sums, .ref m_datas, .ref m_locals, .ref m_localEnds, .ref m_names, .ref m_nameSizes, .ref m_states, .ref m_starts, .ref m_counts, .ref m_written, .int to, .int w1, .int w2, .int w3, .ref m_lengths, .ref m_small, .ref m_codes, .ref m_smallCodes, .int w4, .int w5, .int 0])), (m_tape, .inl (cM, 20000, .inl (upd g13 (14 : Int32).toNatClampNeg (vp_nar .byte ((x4 >>> (8 &&& 31)).toInt8.toInt32)))))] H := hP
    have hD : va_D A [(h0, .inr (8, [.ref m_tape, .int 0, .int op, .int fp, .int bu, .int ra, .int en, .ref m_methods, .ref m_packed, .ref m_sizes, .ref m_sums, .ref m_datas, .ref m_locals, .ref m_localEnds, .ref m_names, .ref m_nameSizes, .ref m_states, .ref m_starts, .ref m_counts, .ref m_written, .int to, .int w1, .int w2, .int w3, .ref m_lengths, .ref m_small, .ref m_codes, .ref m_smallCodes, .int w4, .int w5, .int 0])), (m_tape, .inl (cM, 20000, .inl (upd g13 (14 : Int32).toNatClampNeg (vp_nar .byte ((x4 >>> (8 &&& 31)).toInt8.toInt32)))))] := hD
    refine lv_iinc (k := 1) (v := 15) (lv' := [(6, .int 15), (7, .int x4), (0, .ref h0), (1, .int x1), (2, .int x2), (3, .int x3), (4, .int x4), (5, .int x5)]) hx hb d_M_feed_112 hl rfl (by decide) (by decide) rfl (fun ls hl => ?_)
    generalize upd g13 (14 : Int32).toNatClampNeg (vp_nar .byte ((x4 >>> (8 &&& 31)).toInt8.toInt32)) = g14 at hP hD
    refine lv_goto (tgt := 31) hx hb d_M_feed_115 (by decide) ?_
    refine lv_iload hx hb d_M_feed_31 (lv_at hl 0 rfl) ?_
    refine lv_bipush (v := 20) hx hb d_M_feed_33 (by decide) ?_
    refine lv_icmp_ge (tgt := 118) hx hb d_M_feed_35 (by decide) (fun h => absurd h (by decide)) (fun _ => ?_)
    refine lv_iload hx hb d_M_feed_38 (lv_at hl 0 rfl) ?_
    refine lv_iconst (v := 4) hx hb d_M_feed_40 (by decide) ?_
    refine lv_icmp_ge (tgt := 48) hx hb d_M_feed_41 (by decide) (fun _ => ?_) (fun h => absurd (by decide) h)
    refine lv_iload hx hb d_M_feed_48 (lv_at hl 0 rfl) ?_
    refine lv_bipush (v := 8) hx hb d_M_feed_50 (by decide) ?_
    refine lv_icmp_ge (tgt := 59) hx hb d_M_feed_52 (by decide) (fun _ => ?_) (fun h => absurd (by decide) h)
    refine lv_iload hx hb d_M_feed_59 (lv_at hl 0 rfl) ?_
    refine lv_bipush (v := 12) hx hb d_M_feed_61 (by decide) ?_
    refine lv_icmp_ge (tgt := 70) hx hb d_M_feed_63 (by decide) (fun _ => ?_) (fun h => absurd (by decide) h)
    refine lv_iload hx hb d_M_feed_70 (lv_at hl 0 rfl) ?_
    refine lv_bipush (v := 16) hx hb d_M_feed_72 (by decide) ?_
    refine lv_icmp_ge (tgt := 82) hx hb d_M_feed_74 (by decide) (fun h => absurd h (by decide)) (fun _ => ?_)
    refine lv_iload hx hb d_M_feed_77 (lv_at hl 6 rfl) ?_
    refine lv_goto (tgt := 84) hx hb d_M_feed_79 (by decide) ?_
    refine lv_istore (lv' := [(7, .int x4), (6, .int 15), (0, .ref h0), (1, .int x1), (2, .int x2), (3, .int x3), (4, .int x4), (5, .int x5)]) hx hb d_M_feed_84 hl (by decide) rfl (fun ls hl => ?_)
    refine lv_aload_n hx hb d_M_feed_86 rfl (lv_at hl 2 rfl) ?_
    refine va_get (ci := 8) (C := "ZipGuardModel") (T := F_M) (N := 31) hx hb ht zi_M hown hK hP 0 rfl rfl 0 (by decide) (ht _ zm_752) (fun _ h9 => h9) rfl d_M_feed_87 ?_
    refine lv_aload_n hx hb d_M_feed_90 rfl (lv_at hl 2 rfl) ?_
    refine va_get (ci := 8) (C := "ZipGuardModel") (T := F_M) (N := 31) hx hb ht zi_M hown hK hP 0 rfl rfl 1 (by decide) (ht _ zm_753) (fun _ h9 => h9) rfl d_M_feed_91 ?_
    refine lv_iload hx hb d_M_feed_94 (lv_at hl 1 rfl) ?_
    refine lv_iadd hx hb d_M_feed_96 ?_
    refine lv_topi (fun z122 e_z122 => ?_)
    have e_z122 : z122 = 15 := e_z122.trans (by decide)
    subst e_z122
    refine lv_iload hx hb d_M_feed_97 (lv_at hl 0 rfl) ?_
    refine lv_bipush (v := 24) hx hb d_M_feed_99 (by decide) ?_
    refine lv_bipush (v := 8) hx hb d_M_feed_101 (by decide) ?_
    refine lv_iload hx hb d_M_feed_103 (lv_at hl 1 rfl) ?_
    refine lv_iconst (v := 4) hx hb d_M_feed_105 (by decide) ?_
    refine lv_irem hx hb d_M_feed_106 (by decide) ?_
    refine lv_topi (fun z123 e_z123 => ?_)
    have e_z123 : z123 = 3 := e_z123.trans (by decide)
    subst e_z123
    refine lv_imul hx hb d_M_feed_107 ?_
    refine lv_topi (fun z124 e_z124 => ?_)
    have e_z124 : z124 = 24 := e_z124.trans (by decide)
    subst e_z124
    refine lv_isub hx hb d_M_feed_108 ?_
    refine lv_topi (fun z125 e_z125 => ?_)
    have e_z125 : z125 = 0 := e_z125.trans (by decide)
    subst e_z125
    refine lv_ishr hx hb d_M_feed_109 ?_
    refine lv_i2b hx hb d_M_feed_110 rfl ?_
    refine va_bast hx hb hK hP hD hS 1 0 rfl rfl (by unfold vp_in; decide) d_M_feed_111 (fun H locs hP hD hS => ?_)
    have hP : va_P D zcl [(h0, .inr (8, [.ref m_tape, .int 0, .int op, .int fp, .int bu, .int ra, .int en, .ref m_methods, .ref m_packed, .ref m_sizes, .ref m_sums, .ref m_datas, .ref m_locals, .ref m_localEnds, .ref m_names, .ref m_nameSizes, .ref m_states, .ref m_starts, .ref m_counts, .ref m_written, .int to, .int w1, .int w2, .int w3, .ref m_lengths, .ref m_small, .ref m_codes, .ref m_smallCodes, .int w4, .int w5, .int 0])), (m_tape, .inl (cM, 20000, .inl (upd g14 (15 : Int32).toNatClampNeg (vp_nar .byte ((x4 >>> (0 &&& 31)).toInt8.toInt32)))))] H := hP
    have hD : va_D A [(h0, .inr (8, [.ref m_tape, .int 0, .int op, .int fp, .int bu, .int ra, .int en, .ref m_methods, .ref m_packed, .ref m_sizes, .ref m_sums, .ref m_datas, .ref m_locals, .ref m_localEnds, .ref m_names, .ref m_nameSizes, .ref m_states, .ref m_starts, .ref m_counts, .ref m_written, .int to, .int w1, .int w2, .int w3, .ref m_lengths, .ref m_small, .ref m_codes, .ref m_smallCodes, .int w4, .int w5, .int 0])), (m_tape, .inl (cM, 20000, .inl (upd g14 (15 : Int32).toNatClampNeg (vp_nar .byte ((x4 >>> (0 &&& 31)).toInt8.toInt32)))))] := hD
    refine lv_iinc (k := 1) (v := 16) (lv' := [(6, .int 16), (7, .int x4), (0, .ref h0), (1, .int x1), (2, .int x2), (3, .int x3), (4, .int x4), (5, .int x5)]) hx hb d_M_feed_112 hl rfl (by decide) (by decide) rfl (fun ls hl => ?_)
    generalize upd g14 (15 : Int32).toNatClampNeg (vp_nar .byte ((x4 >>> (0 &&& 31)).toInt8.toInt32)) = g15 at hP hD
    refine lv_goto (tgt := 31) hx hb d_M_feed_115 (by decide) ?_
    refine lv_iload hx hb d_M_feed_31 (lv_at hl 0 rfl) ?_
    refine lv_bipush (v := 20) hx hb d_M_feed_33 (by decide) ?_
    refine lv_icmp_ge (tgt := 118) hx hb d_M_feed_35 (by decide) (fun h => absurd h (by decide)) (fun _ => ?_)
    refine lv_iload hx hb d_M_feed_38 (lv_at hl 0 rfl) ?_
    refine lv_iconst (v := 4) hx hb d_M_feed_40 (by decide) ?_
    refine lv_icmp_ge (tgt := 48) hx hb d_M_feed_41 (by decide) (fun _ => ?_) (fun h => absurd (by decide) h)
    refine lv_iload hx hb d_M_feed_48 (lv_at hl 0 rfl) ?_
    refine lv_bipush (v := 8) hx hb d_M_feed_50 (by decide) ?_
    refine lv_icmp_ge (tgt := 59) hx hb d_M_feed_52 (by decide) (fun _ => ?_) (fun h => absurd (by decide) h)
    refine lv_iload hx hb d_M_feed_59 (lv_at hl 0 rfl) ?_
    refine lv_bipush (v := 12) hx hb d_M_feed_61 (by decide) ?_
    refine lv_icmp_ge (tgt := 70) hx hb d_M_feed_63 (by decide) (fun _ => ?_) (fun h => absurd (by decide) h)
    refine lv_iload hx hb d_M_feed_70 (lv_at hl 0 rfl) ?_
    refine lv_bipush (v := 16) hx hb d_M_feed_72 (by decide) ?_
    refine lv_icmp_ge (tgt := 82) hx hb d_M_feed_74 (by decide) (fun _ => ?_) (fun h => absurd (by decide) h)
    refine lv_iload hx hb d_M_feed_82 (lv_at hl 7 rfl) ?_
    refine lv_istore (lv' := [(7, .int x5), (6, .int 16), (0, .ref h0), (1, .int x1), (2, .int x2), (3, .int x3), (4, .int x4), (5, .int x5)]) hx hb d_M_feed_84 hl (by decide) rfl (fun ls hl => ?_)
    refine lv_aload_n hx hb d_M_feed_86 rfl (lv_at hl 2 rfl) ?_
    refine va_get (ci := 8) (C := "ZipGuardModel") (T := F_M) (N := 31) hx hb ht zi_M hown hK hP 0 rfl rfl 0 (by decide) (ht _ zm_752) (fun _ h9 => h9) rfl d_M_feed_87 ?_
    refine lv_aload_n hx hb d_M_feed_90 rfl (lv_at hl 2 rfl) ?_
    refine va_get (ci := 8) (C := "ZipGuardModel") (T := F_M) (N := 31) hx hb ht zi_M hown hK hP 0 rfl rfl 1 (by decide) (ht _ zm_753) (fun _ h9 => h9) rfl d_M_feed_91 ?_
    refine lv_iload hx hb d_M_feed_94 (lv_at hl 1 rfl) ?_
    refine lv_iadd hx hb d_M_feed_96 ?_
    refine lv_topi (fun z131 e_z131 => ?_)
    have e_z131 : z131 = 16 := e_z131.trans (by decide)
    subst e_z131
    refine lv_iload hx hb d_M_feed_97 (lv_at hl 0 rfl) ?_
    refine lv_bipush (v := 24) hx hb d_M_feed_99 (by decide) ?_
    refine lv_bipush (v := 8) hx hb d_M_feed_101 (by decide) ?_
    refine lv_iload hx hb d_M_feed_103 (lv_at hl 1 rfl) ?_
    refine lv_iconst (v := 4) hx hb d_M_feed_105 (by decide) ?_
    refine lv_irem hx hb d_M_feed_106 (by decide) ?_
    refine lv_topi (fun z132 e_z132 => ?_)
    have e_z132 : z132 = 0 := e_z132.trans (by decide)
    subst e_z132
    refine lv_imul hx hb d_M_feed_107 ?_
    refine lv_topi (fun z133 e_z133 => ?_)
    have e_z133 : z133 = 0 := e_z133.trans (by decide)
    subst e_z133
    refine lv_isub hx hb d_M_feed_108 ?_
    refine lv_topi (fun z134 e_z134 => ?_)
    have e_z134 : z134 = 24 := e_z134.trans (by decide)
    subst e_z134
    refine lv_ishr hx hb d_M_feed_109 ?_
    refine lv_i2b hx hb d_M_feed_110 rfl ?_
    refine va_bast hx hb hK hP hD hS 1 0 rfl rfl (by unfold vp_in; decide) d_M_feed_111 (fun H locs hP hD hS => ?_)
    have hP : va_P D zcl [(h0, .inr (8, [.ref m_tape, .int 0, .int op, .int fp, .int bu, .int ra, .int en, .ref m_methods, .ref m_packed, .ref m_sizes, .ref m_sums, .ref m_datas, .ref m_locals, .ref m_localEnds, .ref m_names, .ref m_nameSizes, .ref m_states, .ref m_starts, .ref m_counts, .ref m_written, .int to, .int w1, .int w2, .int w3, .ref m_lengths, .ref m_small, .ref m_codes, .ref m_smallCodes, .int w4, .int w5, .int 0])), (m_tape, .inl (cM, 20000, .inl (upd g15 (16 : Int32).toNatClampNeg (vp_nar .byte ((x5 >>> (24 &&& 31)).toInt8.toInt32)))))] H := hP
    have hD : va_D A [(h0, .inr (8, [.ref m_tape, .int 0, .int op, .int fp, .int bu, .int ra, .int en, .ref m_methods, .ref m_packed, .ref m_sizes, .ref m_sums, .ref m_datas, .ref m_locals, .ref m_localEnds, .ref m_names, .ref m_nameSizes, .ref m_states, .ref m_starts, .ref m_counts, .ref m_written, .int to, .int w1, .int w2, .int w3, .ref m_lengths, .ref m_small, .ref m_codes, .ref m_smallCodes, .int w4, .int w5, .int 0])), (m_tape, .inl (cM, 20000, .inl (upd g15 (16 : Int32).toNatClampNeg (vp_nar .byte ((x5 >>> (24 &&& 31)).toInt8.toInt32)))))] := hD
    refine lv_iinc (k := 1) (v := 17) (lv' := [(6, .int 17), (7, .int x5), (0, .ref h0), (1, .int x1), (2, .int x2), (3, .int x3), (4, .int x4), (5, .int x5)]) hx hb d_M_feed_112 hl rfl (by decide) (by decide) rfl (fun ls hl => ?_)
    generalize upd g15 (16 : Int32).toNatClampNeg (vp_nar .byte ((x5 >>> (24 &&& 31)).toInt8.toInt32)) = g16 at hP hD
    refine lv_goto (tgt := 31) hx hb d_M_feed_115 (by decide) ?_
    refine lv_iload hx hb d_M_feed_31 (lv_at hl 0 rfl) ?_
    refine lv_bipush (v := 20) hx hb d_M_feed_33 (by decide) ?_
    refine lv_icmp_ge (tgt := 118) hx hb d_M_feed_35 (by decide) (fun h => absurd h (by decide)) (fun _ => ?_)
    refine lv_iload hx hb d_M_feed_38 (lv_at hl 0 rfl) ?_
    refine lv_iconst (v := 4) hx hb d_M_feed_40 (by decide) ?_
    refine lv_icmp_ge (tgt := 48) hx hb d_M_feed_41 (by decide) (fun _ => ?_) (fun h => absurd (by decide) h)
    refine lv_iload hx hb d_M_feed_48 (lv_at hl 0 rfl) ?_
    refine lv_bipush (v := 8) hx hb d_M_feed_50 (by decide) ?_
    refine lv_icmp_ge (tgt := 59) hx hb d_M_feed_52 (by decide) (fun _ => ?_) (fun h => absurd (by decide) h)
    refine lv_iload hx hb d_M_feed_59 (lv_at hl 0 rfl) ?_
    refine lv_bipush (v := 12) hx hb d_M_feed_61 (by decide) ?_
    refine lv_icmp_ge (tgt := 70) hx hb d_M_feed_63 (by decide) (fun _ => ?_) (fun h => absurd (by decide) h)
    refine lv_iload hx hb d_M_feed_70 (lv_at hl 0 rfl) ?_
    refine lv_bipush (v := 16) hx hb d_M_feed_72 (by decide) ?_
    refine lv_icmp_ge (tgt := 82) hx hb d_M_feed_74 (by decide) (fun _ => ?_) (fun h => absurd (by decide) h)
    refine lv_iload hx hb d_M_feed_82 (lv_at hl 7 rfl) ?_
    refine lv_istore (lv' := [(7, .int x5), (6, .int 17), (0, .ref h0), (1, .int x1), (2, .int x2), (3, .int x3), (4, .int x4), (5, .int x5)]) hx hb d_M_feed_84 hl (by decide) rfl (fun ls hl => ?_)
    refine lv_aload_n hx hb d_M_feed_86 rfl (lv_at hl 2 rfl) ?_
    refine va_get (ci := 8) (C := "ZipGuardModel") (T := F_M) (N := 31) hx hb ht zi_M hown hK hP 0 rfl rfl 0 (by decide) (ht _ zm_752) (fun _ h9 => h9) rfl d_M_feed_87 ?_
    refine lv_aload_n hx hb d_M_feed_90 rfl (lv_at hl 2 rfl) ?_
    refine va_get (ci := 8) (C := "ZipGuardModel") (T := F_M) (N := 31) hx hb ht zi_M hown hK hP 0 rfl rfl 1 (by decide) (ht _ zm_753) (fun _ h9 => h9) rfl d_M_feed_91 ?_
    refine lv_iload hx hb d_M_feed_94 (lv_at hl 1 rfl) ?_
    refine lv_iadd hx hb d_M_feed_96 ?_
    refine lv_topi (fun z140 e_z140 => ?_)
    have e_z140 : z140 = 17 := e_z140.trans (by decide)
    subst e_z140
    refine lv_iload hx hb d_M_feed_97 (lv_at hl 0 rfl) ?_
    refine lv_bipush (v := 24) hx hb d_M_feed_99 (by decide) ?_
    refine lv_bipush (v := 8) hx hb d_M_feed_101 (by decide) ?_
    refine lv_iload hx hb d_M_feed_103 (lv_at hl 1 rfl) ?_
    refine lv_iconst (v := 4) hx hb d_M_feed_105 (by decide) ?_
    refine lv_irem hx hb d_M_feed_106 (by decide) ?_
    refine lv_topi (fun z141 e_z141 => ?_)
    have e_z141 : z141 = 1 := e_z141.trans (by decide)
    subst e_z141
    refine lv_imul hx hb d_M_feed_107 ?_
    refine lv_topi (fun z142 e_z142 => ?_)
    have e_z142 : z142 = 8 := e_z142.trans (by decide)
    subst e_z142
    refine lv_isub hx hb d_M_feed_108 ?_
    refine lv_topi (fun z143 e_z143 => ?_)
    have e_z143 : z143 = 16 := e_z143.trans (by decide)
    subst e_z143
    refine lv_ishr hx hb d_M_feed_109 ?_
    refine lv_i2b hx hb d_M_feed_110 rfl ?_
    refine va_bast hx hb hK hP hD hS 1 0 rfl rfl (by unfold vp_in; decide) d_M_feed_111 (fun H locs hP hD hS => ?_)
    have hP : va_P D zcl [(h0, .inr (8, [.ref m_tape, .int 0, .int op, .int fp, .int bu, .int ra, .int en, .ref m_methods, .ref m_packed, .ref m_sizes, .ref m_sums, .ref m_datas, .ref m_locals, .ref m_localEnds, .ref m_names, .ref m_nameSizes, .ref m_states, .ref m_starts, .ref m_counts, .ref m_written, .int to, .int w1, .int w2, .int w3, .ref m_lengths, .ref m_small, .ref m_codes, .ref m_smallCodes, .int w4, .int w5, .int 0])), (m_tape, .inl (cM, 20000, .inl (upd g16 (17 : Int32).toNatClampNeg (vp_nar .byte ((x5 >>> (16 &&& 31)).toInt8.toInt32)))))] H := hP
    have hD : va_D A [(h0, .inr (8, [.ref m_tape, .int 0, .int op, .int fp, .int bu, .int ra, .int en, .ref m_methods, .ref m_packed, .ref m_sizes, .ref m_sums, .ref m_datas, .ref m_locals, .ref m_localEnds, .ref m_names, .ref m_nameSizes, .ref m_states, .ref m_starts, .ref m_counts, .ref m_written, .int to, .int w1, .int w2, .int w3, .ref m_lengths, .ref m_small, .ref m_codes, .ref m_smallCodes, .int w4, .int w5, .int 0])), (m_tape, .inl (cM, 20000, .inl (upd g16 (17 : Int32).toNatClampNeg (vp_nar .byte ((x5 >>> (16 &&& 31)).toInt8.toInt32)))))] := hD
    refine lv_iinc (k := 1) (v := 18) (lv' := [(6, .int 18), (7, .int x5), (0, .ref h0), (1, .int x1), (2, .int x2), (3, .int x3), (4, .int x4), (5, .int x5)]) hx hb d_M_feed_112 hl rfl (by decide) (by decide) rfl (fun ls hl => ?_)
    generalize upd g16 (17 : Int32).toNatClampNeg (vp_nar .byte ((x5 >>> (16 &&& 31)).toInt8.toInt32)) = g17 at hP hD
    refine lv_goto (tgt := 31) hx hb d_M_feed_115 (by decide) ?_
    refine lv_iload hx hb d_M_feed_31 (lv_at hl 0 rfl) ?_
    refine lv_bipush (v := 20) hx hb d_M_feed_33 (by decide) ?_
    refine lv_icmp_ge (tgt := 118) hx hb d_M_feed_35 (by decide) (fun h => absurd h (by decide)) (fun _ => ?_)
    refine lv_iload hx hb d_M_feed_38 (lv_at hl 0 rfl) ?_
    refine lv_iconst (v := 4) hx hb d_M_feed_40 (by decide) ?_
    refine lv_icmp_ge (tgt := 48) hx hb d_M_feed_41 (by decide) (fun _ => ?_) (fun h => absurd (by decide) h)
    refine lv_iload hx hb d_M_feed_48 (lv_at hl 0 rfl) ?_
    refine lv_bipush (v := 8) hx hb d_M_feed_50 (by decide) ?_
    refine lv_icmp_ge (tgt := 59) hx hb d_M_feed_52 (by decide) (fun _ => ?_) (fun h => absurd (by decide) h)
    refine lv_iload hx hb d_M_feed_59 (lv_at hl 0 rfl) ?_
    refine lv_bipush (v := 12) hx hb d_M_feed_61 (by decide) ?_
    refine lv_icmp_ge (tgt := 70) hx hb d_M_feed_63 (by decide) (fun _ => ?_) (fun h => absurd (by decide) h)
    refine lv_iload hx hb d_M_feed_70 (lv_at hl 0 rfl) ?_
    refine lv_bipush (v := 16) hx hb d_M_feed_72 (by decide) ?_
    refine lv_icmp_ge (tgt := 82) hx hb d_M_feed_74 (by decide) (fun _ => ?_) (fun h => absurd (by decide) h)
    refine lv_iload hx hb d_M_feed_82 (lv_at hl 7 rfl) ?_
    refine lv_istore (lv' := [(7, .int x5), (6, .int 18), (0, .ref h0), (1, .int x1), (2, .int x2), (3, .int x3), (4, .int x4), (5, .int x5)]) hx hb d_M_feed_84 hl (by decide) rfl (fun ls hl => ?_)
    refine lv_aload_n hx hb d_M_feed_86 rfl (lv_at hl 2 rfl) ?_
    refine va_get (ci := 8) (C := "ZipGuardModel") (T := F_M) (N := 31) hx hb ht zi_M hown hK hP 0 rfl rfl 0 (by decide) (ht _ zm_752) (fun _ h9 => h9) rfl d_M_feed_87 ?_
    refine lv_aload_n hx hb d_M_feed_90 rfl (lv_at hl 2 rfl) ?_
    refine va_get (ci := 8) (C := "ZipGuardModel") (T := F_M) (N := 31) hx hb ht zi_M hown hK hP 0 rfl rfl 1 (by decide) (ht _ zm_753) (fun _ h9 => h9) rfl d_M_feed_91 ?_
    refine lv_iload hx hb d_M_feed_94 (lv_at hl 1 rfl) ?_
    refine lv_iadd hx hb d_M_feed_96 ?_
    refine lv_topi (fun z149 e_z149 => ?_)
    have e_z149 : z149 = 18 := e_z149.trans (by decide)
    subst e_z149
    refine lv_iload hx hb d_M_feed_97 (lv_at hl 0 rfl) ?_
    refine lv_bipush (v := 24) hx hb d_M_feed_99 (by decide) ?_
    refine lv_bipush (v := 8) hx hb d_M_feed_101 (by decide) ?_
    refine lv_iload hx hb d_M_feed_103 (lv_at hl 1 rfl) ?_
    refine lv_iconst (v := 4) hx hb d_M_feed_105 (by decide) ?_
    refine lv_irem hx hb d_M_feed_106 (by decide) ?_
    refine lv_topi (fun z150 e_z150 => ?_)
    have e_z150 : z150 = 2 := e_z150.trans (by decide)
    subst e_z150
    refine lv_imul hx hb d_M_feed_107 ?_
    refine lv_topi (fun z151 e_z151 => ?_)
    have e_z151 : z151 = 16 := e_z151.trans (by decide)
    subst e_z151
    refine lv_isub hx hb d_M_feed_108 ?_
    refine lv_topi (fun z152 e_z152 => ?_)
    have e_z152 : z152 = 8 := e_z152.trans (by decide)
    subst e_z152
    refine lv_ishr hx hb d_M_feed_109 ?_
    refine lv_i2b hx hb d_M_feed_110 rfl ?_
    refine va_bast hx hb hK hP hD hS 1 0 rfl rfl (by unfold vp_in; decide) d_M_feed_111 (fun H locs hP hD hS => ?_)
    have hP : va_P D zcl [(h0, .inr (8, [.ref m_tape, .int 0, .int op, .int fp, .int bu, .int ra, .int en, .ref m_methods, .ref m_packed, .ref m_sizes, .ref m_sums, .ref m_datas, .ref m_locals, .ref m_localEnds, .ref m_names, .ref m_nameSizes, .ref m_states, .ref m_starts, .ref m_counts, .ref m_written, .int to, .int w1, .int w2, .int w3, .ref m_lengths, .ref m_small, .ref m_codes, .ref m_smallCodes, .int w4, .int w5, .int 0])), (m_tape, .inl (cM, 20000, .inl (upd g17 (18 : Int32).toNatClampNeg (vp_nar .byte ((x5 >>> (8 &&& 31)).toInt8.toInt32)))))] H := hP
    have hD : va_D A [(h0, .inr (8, [.ref m_tape, .int 0, .int op, .int fp, .int bu, .int ra, .int en, .ref m_methods, .ref m_packed, .ref m_sizes, .ref m_sums, .ref m_datas, .ref m_locals, .ref m_localEnds, .ref m_names, .ref m_nameSizes, .ref m_states, .ref m_starts, .ref m_counts, .ref m_written, .int to, .int w1, .int w2, .int w3, .ref m_lengths, .ref m_small, .ref m_codes, .ref m_smallCodes, .int w4, .int w5, .int 0])), (m_tape, .inl (cM, 20000, .inl (upd g17 (18 : Int32).toNatClampNeg (vp_nar .byte ((x5 >>> (8 &&& 31)).toInt8.toInt32)))))] := hD
    refine lv_iinc (k := 1) (v := 19) (lv' := [(6, .int 19), (7, .int x5), (0, .ref h0), (1, .int x1), (2, .int x2), (3, .int x3), (4, .int x4), (5, .int x5)]) hx hb d_M_feed_112 hl rfl (by decide) (by decide) rfl (fun ls hl => ?_)
    generalize upd g17 (18 : Int32).toNatClampNeg (vp_nar .byte ((x5 >>> (8 &&& 31)).toInt8.toInt32)) = g18 at hP hD
    refine lv_goto (tgt := 31) hx hb d_M_feed_115 (by decide) ?_
    refine lv_iload hx hb d_M_feed_31 (lv_at hl 0 rfl) ?_
    refine lv_bipush (v := 20) hx hb d_M_feed_33 (by decide) ?_
    refine lv_icmp_ge (tgt := 118) hx hb d_M_feed_35 (by decide) (fun h => absurd h (by decide)) (fun _ => ?_)
    refine lv_iload hx hb d_M_feed_38 (lv_at hl 0 rfl) ?_
    refine lv_iconst (v := 4) hx hb d_M_feed_40 (by decide) ?_
    refine lv_icmp_ge (tgt := 48) hx hb d_M_feed_41 (by decide) (fun _ => ?_) (fun h => absurd (by decide) h)
    refine lv_iload hx hb d_M_feed_48 (lv_at hl 0 rfl) ?_
    refine lv_bipush (v := 8) hx hb d_M_feed_50 (by decide) ?_
    refine lv_icmp_ge (tgt := 59) hx hb d_M_feed_52 (by decide) (fun _ => ?_) (fun h => absurd (by decide) h)
    refine lv_iload hx hb d_M_feed_59 (lv_at hl 0 rfl) ?_
    refine lv_bipush (v := 12) hx hb d_M_feed_61 (by decide) ?_
    refine lv_icmp_ge (tgt := 70) hx hb d_M_feed_63 (by decide) (fun _ => ?_) (fun h => absurd (by decide) h)
    refine lv_iload hx hb d_M_feed_70 (lv_at hl 0 rfl) ?_
    refine lv_bipush (v := 16) hx hb d_M_feed_72 (by decide) ?_
    refine lv_icmp_ge (tgt := 82) hx hb d_M_feed_74 (by decide) (fun _ => ?_) (fun h => absurd (by decide) h)
    refine lv_iload hx hb d_M_feed_82 (lv_at hl 7 rfl) ?_
    refine lv_istore (lv' := [(7, .int x5), (6, .int 19), (0, .ref h0), (1, .int x1), (2, .int x2), (3, .int x3), (4, .int x4), (5, .int x5)]) hx hb d_M_feed_84 hl (by decide) rfl (fun ls hl => ?_)
    refine lv_aload_n hx hb d_M_feed_86 rfl (lv_at hl 2 rfl) ?_
    refine va_get (ci := 8) (C := "ZipGuardModel") (T := F_M) (N := 31) hx hb ht zi_M hown hK hP 0 rfl rfl 0 (by decide) (ht _ zm_752) (fun _ h9 => h9) rfl d_M_feed_87 ?_
    refine lv_aload_n hx hb d_M_feed_90 rfl (lv_at hl 2 rfl) ?_
    refine va_get (ci := 8) (C := "ZipGuardModel") (T := F_M) (N := 31) hx hb ht zi_M hown hK hP 0 rfl rfl 1 (by decide) (ht _ zm_753) (fun _ h9 => h9) rfl d_M_feed_91 ?_
    refine lv_iload hx hb d_M_feed_94 (lv_at hl 1 rfl) ?_
    refine lv_iadd hx hb d_M_feed_96 ?_
    refine lv_topi (fun z158 e_z158 => ?_)
    have e_z158 : z158 = 19 := e_z158.trans (by decide)
    subst e_z158
    refine lv_iload hx hb d_M_feed_97 (lv_at hl 0 rfl) ?_
    refine lv_bipush (v := 24) hx hb d_M_feed_99 (by decide) ?_
    refine lv_bipush (v := 8) hx hb d_M_feed_101 (by decide) ?_
    refine lv_iload hx hb d_M_feed_103 (lv_at hl 1 rfl) ?_
    refine lv_iconst (v := 4) hx hb d_M_feed_105 (by decide) ?_
    refine lv_irem hx hb d_M_feed_106 (by decide) ?_
    refine lv_topi (fun z159 e_z159 => ?_)
    have e_z159 : z159 = 3 := e_z159.trans (by decide)
    subst e_z159
    refine lv_imul hx hb d_M_feed_107 ?_
    refine lv_topi (fun z160 e_z160 => ?_)
    have e_z160 : z160 = 24 := e_z160.trans (by decide)
    subst e_z160
    refine lv_isub hx hb d_M_feed_108 ?_
    refine lv_topi (fun z161 e_z161 => ?_)
    have e_z161 : z161 = 0 := e_z161.trans (by decide)
    subst e_z161
    refine lv_ishr hx hb d_M_feed_109 ?_
    refine lv_i2b hx hb d_M_feed_110 rfl ?_
    refine va_bast hx hb hK hP hD hS 1 0 rfl rfl (by unfold vp_in; decide) d_M_feed_111 (fun H locs hP hD hS => ?_)
    have hP : va_P D zcl [(h0, .inr (8, [.ref m_tape, .int 0, .int op, .int fp, .int bu, .int ra, .int en, .ref m_methods, .ref m_packed, .ref m_sizes, .ref m_sums, .ref m_datas, .ref m_locals, .ref m_localEnds, .ref m_names, .ref m_nameSizes, .ref m_states, .ref m_starts, .ref m_counts, .ref m_written, .int to, .int w1, .int w2, .int w3, .ref m_lengths, .ref m_small, .ref m_codes, .ref m_smallCodes, .int w4, .int w5, .int 0])), (m_tape, .inl (cM, 20000, .inl (upd g18 (19 : Int32).toNatClampNeg (vp_nar .byte ((x5 >>> (0 &&& 31)).toInt8.toInt32)))))] H := hP
    have hD : va_D A [(h0, .inr (8, [.ref m_tape, .int 0, .int op, .int fp, .int bu, .int ra, .int en, .ref m_methods, .ref m_packed, .ref m_sizes, .ref m_sums, .ref m_datas, .ref m_locals, .ref m_localEnds, .ref m_names, .ref m_nameSizes, .ref m_states, .ref m_starts, .ref m_counts, .ref m_written, .int to, .int w1, .int w2, .int w3, .ref m_lengths, .ref m_small, .ref m_codes, .ref m_smallCodes, .int w4, .int w5, .int 0])), (m_tape, .inl (cM, 20000, .inl (upd g18 (19 : Int32).toNatClampNeg (vp_nar .byte ((x5 >>> (0 &&& 31)).toInt8.toInt32)))))] := hD
    refine lv_iinc (k := 1) (v := 20) (lv' := [(6, .int 20), (7, .int x5), (0, .ref h0), (1, .int x1), (2, .int x2), (3, .int x3), (4, .int x4), (5, .int x5)]) hx hb d_M_feed_112 hl rfl (by decide) (by decide) rfl (fun ls hl => ?_)
    generalize upd g18 (19 : Int32).toNatClampNeg (vp_nar .byte ((x5 >>> (0 &&& 31)).toInt8.toInt32)) = g19 at hP hD
    refine lv_goto (tgt := 31) hx hb d_M_feed_115 (by decide) ?_
    refine lv_iload hx hb d_M_feed_31 (lv_at hl 0 rfl) ?_
    refine lv_bipush (v := 20) hx hb d_M_feed_33 (by decide) ?_
    refine lv_icmp_ge (tgt := 118) hx hb d_M_feed_35 (by decide) (fun _ => ?_) (fun h => absurd (by decide) h)
    refine lv_aload_n hx hb d_M_feed_118 rfl (lv_at hl 2 rfl) ?_
    refine lv_dup hx hb d_M_feed_119 rfl ?_
    refine va_get (ci := 8) (C := "ZipGuardModel") (T := F_M) (N := 31) hx hb ht zi_M hown hK hP 0 rfl rfl 1 (by decide) (ht _ zm_753) (fun _ h9 => h9) rfl d_M_feed_120 ?_
    refine lv_bipush (v := 20) hx hb d_M_feed_123 (by decide) ?_
    refine lv_iadd hx hb d_M_feed_125 ?_
    refine lv_topi (fun z163 e_z163 => ?_)
    have e_z163 : z163 = 20 := e_z163.trans (by decide)
    subst e_z163
    refine va_put (ci := 8) (v := .int 20) (ty := .int) (C := "ZipGuardModel") (T := F_M) (N := 31) hx hb ht zi_M ty_M tk_M nm_M hown hK hP hD hS 0 rfl rfl 1 (by decide) (ht _ zm_753) (fun _ h9 => h9) rfl (by decide +kernel) rfl rfl (Nat.le_of_ble_eq_true rfl) d_M_feed_126 (fun H locs hP hD hS => ?_)
    have hP : va_P D zcl [(h0, .inr (8, [.ref m_tape, .int 20, .int op, .int fp, .int bu, .int ra, .int en, .ref m_methods, .ref m_packed, .ref m_sizes, .ref m_sums, .ref m_datas, .ref m_locals, .ref m_localEnds, .ref m_names, .ref m_nameSizes, .ref m_states, .ref m_starts, .ref m_counts, .ref m_written, .int to, .int w1, .int w2, .int w3, .ref m_lengths, .ref m_small, .ref m_codes, .ref m_smallCodes, .int w4, .int w5, .int 0])), (m_tape, .inl (cM, 20000, .inl g19))] H := hP
    have hD : va_D A [(h0, .inr (8, [.ref m_tape, .int 20, .int op, .int fp, .int bu, .int ra, .int en, .ref m_methods, .ref m_packed, .ref m_sizes, .ref m_sums, .ref m_datas, .ref m_locals, .ref m_localEnds, .ref m_names, .ref m_nameSizes, .ref m_states, .ref m_starts, .ref m_counts, .ref m_written, .int to, .int w1, .int w2, .int w3, .ref m_lengths, .ref m_small, .ref m_codes, .ref m_smallCodes, .int w4, .int w5, .int 0])), (m_tape, .inl (cM, 20000, .inl g19))] := hD
    refine lv_aload_n hx hb d_M_feed_129 rfl (lv_at hl 2 rfl) ?_
    refine zjv (wr := [(m_tape, .inl (cM, 20000, .inl g19))]) (va_runV (As := []) (rest := []) ⟨hx, hb, hml, hown, ht⟩ (c_M_shut l D _ h0 m_tape m_methods m_packed m_sizes m_sums m_datas m_locals m_localEnds m_names m_nameSizes m_states m_starts m_counts m_written m_lengths m_small m_codes m_smallCodes 20 op fp bu ra en to w1 w2 w3 w4 w5 0 ) (cwV 0 ht (zt_goodV zm_858 zm_859 zm_31 zm_79 zm_860) rfl rfl rfl (by decide +kernel) ⟨Nat.le_of_ble_eq_true rfl, Nat.le_of_ble_eq_true rfl⟩) (zpreV zBlind_t hK hP hD [0] [] rfl (by decide) rfl (fun _ _ _ => trivial) (va_recv (q := ("ZipGuardModel", F_M, 31)) hK hP rfl (q0 := 0) (ci := 8) rfl)) rfl rfl hl.1 rfl (lv_room (Nat.le_of_ble_eq_true rfl)) d_M_feed_130 ⟨Nat.le_of_ble_eq_true rfl, Nat.le_of_ble_eq_true rfl⟩) hK hP hD hS hA [0] [1] rfl rfl (by decide) (by decide) (fun u H locs hp165 hP hD hK hS => ?_)
    have hP : va_P D zcl [(m_tape, .inl (cM, 20000, .inl g19)), (h0, .inr (8, [.ref m_tape, .int 20, .int 0, .int fp, .int bu, .int ra, .int 0, .ref m_methods, .ref m_packed, .ref m_sizes, .ref m_sums, .ref m_datas, .ref m_locals, .ref m_localEnds, .ref m_names, .ref m_nameSizes, .ref m_states, .ref m_starts, .ref m_counts, .ref m_written, .int 0, .int w1, .int w2, .int w3, .ref m_lengths, .ref m_small, .ref m_codes, .ref m_smallCodes, .int w4, .int w5, .int 0]))] H := hP
    have hD : va_D A [(m_tape, .inl (cM, 20000, .inl g19)), (h0, .inr (8, [.ref m_tape, .int 20, .int 0, .int fp, .int bu, .int ra, .int 0, .ref m_methods, .ref m_packed, .ref m_sizes, .ref m_sums, .ref m_datas, .ref m_locals, .ref m_localEnds, .ref m_names, .ref m_nameSizes, .ref m_states, .ref m_starts, .ref m_counts, .ref m_written, .int 0, .int w1, .int w2, .int w3, .ref m_lengths, .ref m_small, .ref m_codes, .ref m_smallCodes, .int w4, .int w5, .int 0]))] := hD
    have hK : va_K D zcl [(cM, .byte)] s := hK
    refine lv_aload_n hx hb d_M_feed_133 rfl (lv_at hl 2 rfl) ?_
    refine va_get (ci := 8) (C := "ZipGuardModel") (T := F_M) (N := 31) hx hb ht zi_M hown hK hP 1 rfl rfl 1 (by decide) (ht _ zm_753) (fun _ h9 => h9) rfl d_M_feed_134 ?_
    exact zreti hx hb hr hlk hK hP hD hS () [1] [] rfl (by decide) rfl (rfl) (Nat.le_of_ble_eq_true rfl) (Nat.le_of_ble_eq_true rfl) d_M_feed_137)
set_option maxHeartbeats 4000000 in
set_option maxRecDepth 100000 in
theorem c_M_end0 (l : Launch) (D : va_G) (sz : Nat) (h0 : Nat) (m_tape : Nat) (m_methods : Nat) (m_packed : Nat) (m_sizes : Nat) (m_sums : Nat) (m_datas : Nat) (m_locals : Nat) (m_localEnds : Nat) (m_names : Nat) (m_nameSizes : Nat) (m_states : Nat) (m_starts : Nat) (m_counts : Nat) (m_written : Nat) (m_lengths : Nat) (m_small : Nat) (m_codes : Nat) (m_smallCodes : Nat) (n0 : Int32) (op : Int32) (fp : Int32) (bu : Int32) (ra : Int32) (en : Int32) (to : Int32) (w1 : Int32) (w2 : Int32) (w3 : Int32) (w4 : Int32) (w5 : Int32) (th : Int32) (n : Int32) (h1 : ¬ n < 0) (h2 : n ≤ n0) : Met l y_M_end (Cond.code y_M_end prog_10_method_6_code 2 (Option.none : Option Jvm.ClassFile.FieldType) :: zt) { frames := 1, cells := 0, slots := 0, locals := 22 } (zPc [.ref h0, .int n] D [(h0, .inr (8, [.ref m_tape, .int n0, .int op, .int fp, .int bu, .int ra, .int en, .ref m_methods, .ref m_packed, .ref m_sizes, .ref m_sums, .ref m_datas, .ref m_locals, .ref m_localEnds, .ref m_names, .ref m_nameSizes, .ref m_states, .ref m_starts, .ref m_counts, .ref m_written, .int to, .int w1, .int w2, .int w3, .ref m_lengths, .ref m_small, .ref m_codes, .ref m_smallCodes, .int w4, .int w5, .int th]))] [] sz (fun _ => True)) (va_Qv (fun (_ : Unit) => True) (fun u t => zB D ((fun (_ : Unit) => [(h0, .inr (8, [.ref m_tape, .int n, .int 0, .int fp, .int bu, .int ra, .int 0, .ref m_methods, .ref m_packed, .ref m_sizes, .ref m_sums, .ref m_datas, .ref m_locals, .ref m_localEnds, .ref m_names, .ref m_nameSizes, .ref m_states, .ref m_starts, .ref m_counts, .ref m_written, .int 0, .int w1, .int w2, .int w3, .ref m_lengths, .ref m_small, .ref m_codes, .ref m_smallCodes, .int w4, .int w5, .int 0]))]) u) ((fun (_ : Unit) => []) u) (va_A [(h0, .inr (8, [.ref m_tape, .int n0, .int op, .int fp, .int bu, .int ra, .int en, .ref m_methods, .ref m_packed, .ref m_sizes, .ref m_sums, .ref m_datas, .ref m_locals, .ref m_localEnds, .ref m_names, .ref m_nameSizes, .ref m_states, .ref m_starts, .ref m_counts, .ref m_written, .int to, .int w1, .int w2, .int w3, .ref m_lengths, .ref m_small, .ref m_codes, .ref m_smallCodes, .int w4, .int w5, .int th]))] sz) t) (va_A [(h0, .inr (8, [.ref m_tape, .int n0, .int op, .int fp, .int bu, .int ra, .int en, .ref m_methods, .ref m_packed, .ref m_sizes, .ref m_sums, .ref m_datas, .ref m_locals, .ref m_localEnds, .ref m_names, .ref m_nameSizes, .ref m_states, .ref m_starts, .ref m_counts, .ref m_written, .int to, .int w1, .int w2, .int w3, .ref m_lengths, .ref m_small, .ref m_codes, .ref m_smallCodes, .int w4, .int w5, .int th]))] sz)) 0 0 (va_A [(h0, .inr (8, [.ref m_tape, .int n0, .int op, .int fp, .int bu, .int ra, .int en, .ref m_methods, .ref m_packed, .ref m_sizes, .ref m_sums, .ref m_datas, .ref m_locals, .ref m_localEnds, .ref m_names, .ref m_nameSizes, .ref m_states, .ref m_starts, .ref m_counts, .ref m_written, .int to, .int w1, .int w2, .int w3, .ref m_lengths, .ref m_small, .ref m_codes, .ref m_smallCodes, .int w4, .int w5, .int th]))] sz) :=
  zMet (Qf := fun A => va_Qv (fun (_ : Unit) => True) (fun u t => zB D ((fun (_ : Unit) => [(h0, .inr (8, [.ref m_tape, .int n, .int 0, .int fp, .int bu, .int ra, .int 0, .ref m_methods, .ref m_packed, .ref m_sizes, .ref m_sums, .ref m_datas, .ref m_locals, .ref m_localEnds, .ref m_names, .ref m_nameSizes, .ref m_states, .ref m_starts, .ref m_counts, .ref m_written, .int 0, .int w1, .int w2, .int w3, .ref m_lengths, .ref m_small, .ref m_codes, .ref m_smallCodes, .int w4, .int w5, .int 0]))]) u) ((fun (_ : Unit) => []) u) A t) A) (by decide) (Nat.le_of_ble_eq_true rfl) (fun p e s m below meth c A ls hx hb hr hml hown ht hlk hnm hA hK hP hD hX hl => by
    have hS : va_S A s.heap s.heap [] := va_S.rf
    have hl : lv_has ls 2 [(0, .ref h0), (1, .int n)] := hl
    refine lv_aload_n hx hb d_M_end_0 rfl (lv_at hl 0 rfl) ?_
    refine lv_iload_n hx hb d_M_end_1 rfl (lv_at hl 1 rfl) ?_
    refine lv_if_lt (tgt := 13) hx hb d_M_end_2 (by decide) (fun h => absurd h (h1)) (fun _ => ?_)
    refine lv_iload_n hx hb d_M_end_5 rfl (lv_at hl 1 rfl) ?_
    refine lv_aload_n hx hb d_M_end_6 rfl (lv_at hl 0 rfl) ?_
    refine va_get (ci := 8) (C := "ZipGuardModel") (T := F_M) (N := 31) hx hb ht zi_M hown hK hP 0 rfl rfl 1 (by decide) (ht _ zm_753) (fun _ h9 => h9) rfl d_M_end_7 ?_
    refine lv_icmp_le (tgt := 17) hx hb d_M_end_10 (by decide) (fun _ => ?_) (fun h => absurd (h2) h)
    refine lv_iconst (v := 0) hx hb d_M_end_17 (by decide) ?_
    refine lv_iconst (v := 1) hx hb d_M_end_18 (by decide) ?_
    refine zji (wr := []) (va_runV (As := [.int 0, .int 1]) (rest := []) ⟨hx, hb, hml, hown, ht⟩ (c_M_f0 l D _ h0 m_tape m_methods m_packed m_sizes m_sums m_datas m_locals m_localEnds m_names m_nameSizes m_states m_starts m_counts m_written m_lengths m_small m_codes m_smallCodes n0 op fp bu ra en to w1 w2 w3 w4 w5 th 1 ) (cwV 2 ht (zt_goodV zm_855 zm_856 zm_30 zm_79 zm_857) rfl rfl rfl (by decide +kernel) ⟨Nat.le_of_ble_eq_true rfl, Nat.le_of_ble_eq_true rfl⟩) (zpreV zBlind_t hK hP hD [0] [] rfl (by decide) rfl (fun _ _ _ => trivial) (va_recv (q := ("ZipGuardModel", F_M, 31)) hK hP rfl (q0 := 0) (ci := 8) rfl)) rfl rfl hl.1 rfl (lv_room (Nat.le_of_ble_eq_true rfl)) d_M_end_19 ⟨Nat.le_of_ble_eq_true rfl, Nat.le_of_ble_eq_true rfl⟩) hK hP hD hS hA [0] [] rfl rfl (by decide) (by decide) (fun r3 u H locs hp4 hP hD hK hS => ?_)
    have hP : va_P D zcl [(h0, .inr (8, [.ref m_tape, .int n0, .int op, .int fp, .int bu, .int ra, .int en, .ref m_methods, .ref m_packed, .ref m_sizes, .ref m_sums, .ref m_datas, .ref m_locals, .ref m_localEnds, .ref m_names, .ref m_nameSizes, .ref m_states, .ref m_starts, .ref m_counts, .ref m_written, .int to, .int w1, .int w2, .int w3, .ref m_lengths, .ref m_small, .ref m_codes, .ref m_smallCodes, .int w4, .int w5, .int 0]))] H := hP
    have hD : va_D A [(h0, .inr (8, [.ref m_tape, .int n0, .int op, .int fp, .int bu, .int ra, .int en, .ref m_methods, .ref m_packed, .ref m_sizes, .ref m_sums, .ref m_datas, .ref m_locals, .ref m_localEnds, .ref m_names, .ref m_nameSizes, .ref m_states, .ref m_starts, .ref m_counts, .ref m_written, .int to, .int w1, .int w2, .int w3, .ref m_lengths, .ref m_small, .ref m_codes, .ref m_smallCodes, .int w4, .int w5, .int 0]))] := hD
    have hK : va_K D zcl [] s := hK
    subst hp4
    refine lv_if_eq (tgt := 26) hx hb d_M_end_22 (by decide) (fun _ => ?_) (fun h => absurd (by decide) h)
    refine lv_aload_n hx hb d_M_end_26 rfl (lv_at hl 0 rfl) ?_
    refine lv_iload_n hx hb d_M_end_27 rfl (lv_at hl 1 rfl) ?_
    refine va_put (ci := 8) (v := .int n) (ty := .int) (C := "ZipGuardModel") (T := F_M) (N := 31) hx hb ht zi_M ty_M tk_M nm_M hown hK hP hD hS 0 rfl rfl 1 (by decide) (ht _ zm_753) (fun _ h9 => h9) rfl (by decide +kernel) rfl rfl (Nat.le_of_ble_eq_true rfl) d_M_end_28 (fun H locs hP hD hS => ?_)
    have hP : va_P D zcl [(h0, .inr (8, [.ref m_tape, .int n, .int op, .int fp, .int bu, .int ra, .int en, .ref m_methods, .ref m_packed, .ref m_sizes, .ref m_sums, .ref m_datas, .ref m_locals, .ref m_localEnds, .ref m_names, .ref m_nameSizes, .ref m_states, .ref m_starts, .ref m_counts, .ref m_written, .int to, .int w1, .int w2, .int w3, .ref m_lengths, .ref m_small, .ref m_codes, .ref m_smallCodes, .int w4, .int w5, .int 0]))] H := hP
    have hD : va_D A [(h0, .inr (8, [.ref m_tape, .int n, .int op, .int fp, .int bu, .int ra, .int en, .ref m_methods, .ref m_packed, .ref m_sizes, .ref m_sums, .ref m_datas, .ref m_locals, .ref m_localEnds, .ref m_names, .ref m_nameSizes, .ref m_states, .ref m_starts, .ref m_counts, .ref m_written, .int to, .int w1, .int w2, .int w3, .ref m_lengths, .ref m_small, .ref m_codes, .ref m_smallCodes, .int w4, .int w5, .int 0]))] := hD
    refine lv_aload_n hx hb d_M_end_31 rfl (lv_at hl 0 rfl) ?_
    refine zjv (wr := []) (va_runV (As := []) (rest := []) ⟨hx, hb, hml, hown, ht⟩ (c_M_shut l D _ h0 m_tape m_methods m_packed m_sizes m_sums m_datas m_locals m_localEnds m_names m_nameSizes m_states m_starts m_counts m_written m_lengths m_small m_codes m_smallCodes n op fp bu ra en to w1 w2 w3 w4 w5 0 ) (cwV 0 ht (zt_goodV zm_858 zm_859 zm_31 zm_79 zm_860) rfl rfl rfl (by decide +kernel) ⟨Nat.le_of_ble_eq_true rfl, Nat.le_of_ble_eq_true rfl⟩) (zpreV zBlind_t hK hP hD [0] [] rfl (by decide) rfl (fun _ _ _ => trivial) (va_recv (q := ("ZipGuardModel", F_M, 31)) hK hP rfl (q0 := 0) (ci := 8) rfl)) rfl rfl hl.1 rfl (lv_room (Nat.le_of_ble_eq_true rfl)) d_M_end_32 ⟨Nat.le_of_ble_eq_true rfl, Nat.le_of_ble_eq_true rfl⟩) hK hP hD hS hA [0] [] rfl rfl (by decide) (by decide) (fun u H locs hp7 hP hD hK hS => ?_)
    have hP : va_P D zcl [(h0, .inr (8, [.ref m_tape, .int n, .int 0, .int fp, .int bu, .int ra, .int 0, .ref m_methods, .ref m_packed, .ref m_sizes, .ref m_sums, .ref m_datas, .ref m_locals, .ref m_localEnds, .ref m_names, .ref m_nameSizes, .ref m_states, .ref m_starts, .ref m_counts, .ref m_written, .int 0, .int w1, .int w2, .int w3, .ref m_lengths, .ref m_small, .ref m_codes, .ref m_smallCodes, .int w4, .int w5, .int 0]))] H := hP
    have hD : va_D A [(h0, .inr (8, [.ref m_tape, .int n, .int 0, .int fp, .int bu, .int ra, .int 0, .ref m_methods, .ref m_packed, .ref m_sizes, .ref m_sums, .ref m_datas, .ref m_locals, .ref m_localEnds, .ref m_names, .ref m_nameSizes, .ref m_states, .ref m_starts, .ref m_counts, .ref m_written, .int 0, .int w1, .int w2, .int w3, .ref m_lengths, .ref m_small, .ref m_codes, .ref m_smallCodes, .int w4, .int w5, .int 0]))] := hD
    have hK : va_K D zcl [] s := hK
    exact zretv hx hb hr hlk hK hP hD hS () [0] [] rfl (by decide) rfl (trivial) (Nat.le_of_ble_eq_true rfl) (Nat.le_of_ble_eq_true rfl) d_M_end_35)
set_option maxHeartbeats 4000000 in
set_option maxRecDepth 100000 in
theorem c_M_end1 (l : Launch) (D : va_G) (sz : Nat) (h0 : Nat) (m_tape : Nat) (m_methods : Nat) (m_packed : Nat) (m_sizes : Nat) (m_sums : Nat) (m_datas : Nat) (m_locals : Nat) (m_localEnds : Nat) (m_names : Nat) (m_nameSizes : Nat) (m_states : Nat) (m_starts : Nat) (m_counts : Nat) (m_written : Nat) (m_lengths : Nat) (m_small : Nat) (m_codes : Nat) (m_smallCodes : Nat) (n0 : Int32) (op : Int32) (fp : Int32) (bu : Int32) (ra : Int32) (en : Int32) (to : Int32) (w1 : Int32) (w2 : Int32) (w3 : Int32) (w4 : Int32) (w5 : Int32) (th : Int32) (n : Int32) (hbad : n < 0 ∨ ¬ n ≤ n0) : Met l y_M_end (Cond.code y_M_end prog_10_method_6_code 2 (Option.none : Option Jvm.ClassFile.FieldType) :: zt) { frames := 1, cells := 0, slots := 0, locals := 22 } (zPc [.ref h0, .int n] D [(h0, .inr (8, [.ref m_tape, .int n0, .int op, .int fp, .int bu, .int ra, .int en, .ref m_methods, .ref m_packed, .ref m_sizes, .ref m_sums, .ref m_datas, .ref m_locals, .ref m_localEnds, .ref m_names, .ref m_nameSizes, .ref m_states, .ref m_starts, .ref m_counts, .ref m_written, .int to, .int w1, .int w2, .int w3, .ref m_lengths, .ref m_small, .ref m_codes, .ref m_smallCodes, .int w4, .int w5, .int th]))] [] sz (fun _ => True)) (va_Qv (fun (_ : Unit) => True) (fun u t => zB D ((fun (_ : Unit) => [(h0, .inr (8, [.ref m_tape, .int n0, .int op, .int fp, .int bu, .int ra, .int en, .ref m_methods, .ref m_packed, .ref m_sizes, .ref m_sums, .ref m_datas, .ref m_locals, .ref m_localEnds, .ref m_names, .ref m_nameSizes, .ref m_states, .ref m_starts, .ref m_counts, .ref m_written, .int to, .int w1, .int w2, .int w3, .ref m_lengths, .ref m_small, .ref m_codes, .ref m_smallCodes, .int w4, .int w5, .int 1]))]) u) ((fun (_ : Unit) => []) u) (va_A [(h0, .inr (8, [.ref m_tape, .int n0, .int op, .int fp, .int bu, .int ra, .int en, .ref m_methods, .ref m_packed, .ref m_sizes, .ref m_sums, .ref m_datas, .ref m_locals, .ref m_localEnds, .ref m_names, .ref m_nameSizes, .ref m_states, .ref m_starts, .ref m_counts, .ref m_written, .int to, .int w1, .int w2, .int w3, .ref m_lengths, .ref m_small, .ref m_codes, .ref m_smallCodes, .int w4, .int w5, .int th]))] sz) t) (va_A [(h0, .inr (8, [.ref m_tape, .int n0, .int op, .int fp, .int bu, .int ra, .int en, .ref m_methods, .ref m_packed, .ref m_sizes, .ref m_sums, .ref m_datas, .ref m_locals, .ref m_localEnds, .ref m_names, .ref m_nameSizes, .ref m_states, .ref m_starts, .ref m_counts, .ref m_written, .int to, .int w1, .int w2, .int w3, .ref m_lengths, .ref m_small, .ref m_codes, .ref m_smallCodes, .int w4, .int w5, .int th]))] sz)) 0 0 (va_A [(h0, .inr (8, [.ref m_tape, .int n0, .int op, .int fp, .int bu, .int ra, .int en, .ref m_methods, .ref m_packed, .ref m_sizes, .ref m_sums, .ref m_datas, .ref m_locals, .ref m_localEnds, .ref m_names, .ref m_nameSizes, .ref m_states, .ref m_starts, .ref m_counts, .ref m_written, .int to, .int w1, .int w2, .int w3, .ref m_lengths, .ref m_small, .ref m_codes, .ref m_smallCodes, .int w4, .int w5, .int th]))] sz) :=
  zMet (Qf := fun A => va_Qv (fun (_ : Unit) => True) (fun u t => zB D ((fun (_ : Unit) => [(h0, .inr (8, [.ref m_tape, .int n0, .int op, .int fp, .int bu, .int ra, .int en, .ref m_methods, .ref m_packed, .ref m_sizes, .ref m_sums, .ref m_datas, .ref m_locals, .ref m_localEnds, .ref m_names, .ref m_nameSizes, .ref m_states, .ref m_starts, .ref m_counts, .ref m_written, .int to, .int w1, .int w2, .int w3, .ref m_lengths, .ref m_small, .ref m_codes, .ref m_smallCodes, .int w4, .int w5, .int 1]))]) u) ((fun (_ : Unit) => []) u) A t) A) (by decide) (Nat.le_of_ble_eq_true rfl) (fun p e s m below meth c A ls hx hb hr hml hown ht hlk hnm hA hK hP hD hX hl => by
    have hS : va_S A s.heap s.heap [] := va_S.rf
    have hl : lv_has ls 2 [(0, .ref h0), (1, .int n)] := hl
    refine lv_aload_n hx hb d_M_end_0 rfl (lv_at hl 0 rfl) ?_
    refine lv_iload_n hx hb d_M_end_1 rfl (lv_at hl 1 rfl) ?_
    refine lv_if_lt (tgt := 13) hx hb d_M_end_2 (by decide) (fun hc1 => ?_) (fun hc1 => ?_)
    · skip
      refine lv_iconst (v := 1) hx hb d_M_end_13 (by decide) ?_
      refine lv_goto (tgt := 18) hx hb d_M_end_14 (by decide) ?_
      refine lv_iconst (v := 1) hx hb d_M_end_18 (by decide) ?_
      refine zji (wr := []) (va_runV (As := [.int 1, .int 1]) (rest := []) ⟨hx, hb, hml, hown, ht⟩ (c_M_f1 l D _ h0 m_tape m_methods m_packed m_sizes m_sums m_datas m_locals m_localEnds m_names m_nameSizes m_states m_starts m_counts m_written m_lengths m_small m_codes m_smallCodes n0 op fp bu ra en to w1 w2 w3 w4 w5 th 1 ) (cwV 2 ht (zt_goodV zm_855 zm_856 zm_30 zm_79 zm_857) rfl rfl rfl (by decide +kernel) ⟨Nat.le_of_ble_eq_true rfl, Nat.le_of_ble_eq_true rfl⟩) (zpreV zBlind_t hK hP hD [0] [] rfl (by decide) rfl (fun _ _ _ => trivial) (va_recv (q := ("ZipGuardModel", F_M, 31)) hK hP rfl (q0 := 0) (ci := 8) rfl)) rfl rfl hl.1 rfl (lv_room (Nat.le_of_ble_eq_true rfl)) d_M_end_19 ⟨Nat.le_of_ble_eq_true rfl, Nat.le_of_ble_eq_true rfl⟩) hK hP hD hS hA [0] [] rfl rfl (by decide) (by decide) (fun r2 u H locs hp3 hP hD hK hS => ?_)
      have hP : va_P D zcl [(h0, .inr (8, [.ref m_tape, .int n0, .int op, .int fp, .int bu, .int ra, .int en, .ref m_methods, .ref m_packed, .ref m_sizes, .ref m_sums, .ref m_datas, .ref m_locals, .ref m_localEnds, .ref m_names, .ref m_nameSizes, .ref m_states, .ref m_starts, .ref m_counts, .ref m_written, .int to, .int w1, .int w2, .int w3, .ref m_lengths, .ref m_small, .ref m_codes, .ref m_smallCodes, .int w4, .int w5, .int 1]))] H := hP
      have hD : va_D A [(h0, .inr (8, [.ref m_tape, .int n0, .int op, .int fp, .int bu, .int ra, .int en, .ref m_methods, .ref m_packed, .ref m_sizes, .ref m_sums, .ref m_datas, .ref m_locals, .ref m_localEnds, .ref m_names, .ref m_nameSizes, .ref m_states, .ref m_starts, .ref m_counts, .ref m_written, .int to, .int w1, .int w2, .int w3, .ref m_lengths, .ref m_small, .ref m_codes, .ref m_smallCodes, .int w4, .int w5, .int 1]))] := hD
      have hK : va_K D zcl [] s := hK
      subst hp3
      refine lv_if_eq (tgt := 26) hx hb d_M_end_22 (by decide) (fun h => absurd h (by decide)) (fun _ => ?_)
      exact zretv hx hb hr hlk hK hP hD hS () [0] [] rfl (by decide) rfl (trivial) (Nat.le_of_ble_eq_true rfl) (Nat.le_of_ble_eq_true rfl) d_M_end_25
    · skip
      refine lv_iload_n hx hb d_M_end_5 rfl (lv_at hl 1 rfl) ?_
      refine lv_aload_n hx hb d_M_end_6 rfl (lv_at hl 0 rfl) ?_
      refine va_get (ci := 8) (C := "ZipGuardModel") (T := F_M) (N := 31) hx hb ht zi_M hown hK hP 0 rfl rfl 1 (by decide) (ht _ zm_753) (fun _ h9 => h9) rfl d_M_end_7 ?_
      refine lv_icmp_le (tgt := 17) hx hb d_M_end_10 (by decide) (fun h => absurd h (hbad.resolve_left hc1)) (fun _ => ?_)
      refine lv_iconst (v := 1) hx hb d_M_end_13 (by decide) ?_
      refine lv_goto (tgt := 18) hx hb d_M_end_14 (by decide) ?_
      refine lv_iconst (v := 1) hx hb d_M_end_18 (by decide) ?_
      refine zji (wr := []) (va_runV (As := [.int 1, .int 1]) (rest := []) ⟨hx, hb, hml, hown, ht⟩ (c_M_f1 l D _ h0 m_tape m_methods m_packed m_sizes m_sums m_datas m_locals m_localEnds m_names m_nameSizes m_states m_starts m_counts m_written m_lengths m_small m_codes m_smallCodes n0 op fp bu ra en to w1 w2 w3 w4 w5 th 1 ) (cwV 2 ht (zt_goodV zm_855 zm_856 zm_30 zm_79 zm_857) rfl rfl rfl (by decide +kernel) ⟨Nat.le_of_ble_eq_true rfl, Nat.le_of_ble_eq_true rfl⟩) (zpreV zBlind_t hK hP hD [0] [] rfl (by decide) rfl (fun _ _ _ => trivial) (va_recv (q := ("ZipGuardModel", F_M, 31)) hK hP rfl (q0 := 0) (ci := 8) rfl)) rfl rfl hl.1 rfl (lv_room (Nat.le_of_ble_eq_true rfl)) d_M_end_19 ⟨Nat.le_of_ble_eq_true rfl, Nat.le_of_ble_eq_true rfl⟩) hK hP hD hS hA [0] [] rfl rfl (by decide) (by decide) (fun r6 u H locs hp7 hP hD hK hS => ?_)
      have hP : va_P D zcl [(h0, .inr (8, [.ref m_tape, .int n0, .int op, .int fp, .int bu, .int ra, .int en, .ref m_methods, .ref m_packed, .ref m_sizes, .ref m_sums, .ref m_datas, .ref m_locals, .ref m_localEnds, .ref m_names, .ref m_nameSizes, .ref m_states, .ref m_starts, .ref m_counts, .ref m_written, .int to, .int w1, .int w2, .int w3, .ref m_lengths, .ref m_small, .ref m_codes, .ref m_smallCodes, .int w4, .int w5, .int 1]))] H := hP
      have hD : va_D A [(h0, .inr (8, [.ref m_tape, .int n0, .int op, .int fp, .int bu, .int ra, .int en, .ref m_methods, .ref m_packed, .ref m_sizes, .ref m_sums, .ref m_datas, .ref m_locals, .ref m_localEnds, .ref m_names, .ref m_nameSizes, .ref m_states, .ref m_starts, .ref m_counts, .ref m_written, .int to, .int w1, .int w2, .int w3, .ref m_lengths, .ref m_small, .ref m_codes, .ref m_smallCodes, .int w4, .int w5, .int 1]))] := hD
      have hK : va_K D zcl [] s := hK
      subst hp7
      refine lv_if_eq (tgt := 26) hx hb d_M_end_22 (by decide) (fun h => absurd h (by decide)) (fun _ => ?_)
      exact zretv hx hb hr hlk hK hP hD hS () [0] [] rfl (by decide) rfl (trivial) (Nat.le_of_ble_eq_true rfl) (Nat.le_of_ble_eq_true rfl) d_M_end_25)
set_option maxHeartbeats 4000000 in
set_option maxRecDepth 100000 in
theorem c_M_alt1 (l : Launch) (D : va_G) (sz : Nat) (h0 : Nat) (m_tape : Nat) (m_methods : Nat) (m_packed : Nat) (m_sizes : Nat) (m_sums : Nat) (m_datas : Nat) (m_locals : Nat) (m_localEnds : Nat) (m_names : Nat) (m_nameSizes : Nat) (m_states : Nat) (m_starts : Nat) (m_counts : Nat) (m_written : Nat) (m_lengths : Nat) (m_small : Nat) (m_codes : Nat) (m_smallCodes : Nat) (n0 : Int32) (op : Int32) (fp : Int32) (bu : Int32) (ra : Int32) (en : Int32) (to : Int32) (w1 : Int32) (w2 : Int32) (w3 : Int32) (w4 : Int32) (w5 : Int32) (th : Int32) (n : Int32) (y : Int32) (hbad : n < 0 ∨ ¬ n < n0) : Met l y_M_alter (Cond.code y_M_alter prog_10_method_7_code 4 (Option.some Jvm.ClassFile.FieldType.int) :: zt) { frames := 1, cells := 0, slots := 0, locals := 22 } (zPc [.ref h0, .int n, .int y] D [(h0, .inr (8, [.ref m_tape, .int n0, .int op, .int fp, .int bu, .int ra, .int en, .ref m_methods, .ref m_packed, .ref m_sizes, .ref m_sums, .ref m_datas, .ref m_locals, .ref m_localEnds, .ref m_names, .ref m_nameSizes, .ref m_states, .ref m_starts, .ref m_counts, .ref m_written, .int to, .int w1, .int w2, .int w3, .ref m_lengths, .ref m_small, .ref m_codes, .ref m_smallCodes, .int w4, .int w5, .int th]))] [] sz (fun _ => True)) (va_Qi (fun (r : Int32) => fun (_ : Unit) => True) (fun u t => zB D ((fun (_ : Unit) => [(h0, .inr (8, [.ref m_tape, .int n0, .int op, .int fp, .int bu, .int ra, .int en, .ref m_methods, .ref m_packed, .ref m_sizes, .ref m_sums, .ref m_datas, .ref m_locals, .ref m_localEnds, .ref m_names, .ref m_nameSizes, .ref m_states, .ref m_starts, .ref m_counts, .ref m_written, .int to, .int w1, .int w2, .int w3, .ref m_lengths, .ref m_small, .ref m_codes, .ref m_smallCodes, .int w4, .int w5, .int 1]))]) u) ((fun (_ : Unit) => []) u) (va_A [(h0, .inr (8, [.ref m_tape, .int n0, .int op, .int fp, .int bu, .int ra, .int en, .ref m_methods, .ref m_packed, .ref m_sizes, .ref m_sums, .ref m_datas, .ref m_locals, .ref m_localEnds, .ref m_names, .ref m_nameSizes, .ref m_states, .ref m_starts, .ref m_counts, .ref m_written, .int to, .int w1, .int w2, .int w3, .ref m_lengths, .ref m_small, .ref m_codes, .ref m_smallCodes, .int w4, .int w5, .int th]))] sz) t) (va_A [(h0, .inr (8, [.ref m_tape, .int n0, .int op, .int fp, .int bu, .int ra, .int en, .ref m_methods, .ref m_packed, .ref m_sizes, .ref m_sums, .ref m_datas, .ref m_locals, .ref m_localEnds, .ref m_names, .ref m_nameSizes, .ref m_states, .ref m_starts, .ref m_counts, .ref m_written, .int to, .int w1, .int w2, .int w3, .ref m_lengths, .ref m_small, .ref m_codes, .ref m_smallCodes, .int w4, .int w5, .int th]))] sz)) 0 0 (va_A [(h0, .inr (8, [.ref m_tape, .int n0, .int op, .int fp, .int bu, .int ra, .int en, .ref m_methods, .ref m_packed, .ref m_sizes, .ref m_sums, .ref m_datas, .ref m_locals, .ref m_localEnds, .ref m_names, .ref m_nameSizes, .ref m_states, .ref m_starts, .ref m_counts, .ref m_written, .int to, .int w1, .int w2, .int w3, .ref m_lengths, .ref m_small, .ref m_codes, .ref m_smallCodes, .int w4, .int w5, .int th]))] sz) :=
  zMet (Qf := fun A => va_Qi (fun (r : Int32) => fun (_ : Unit) => True) (fun u t => zB D ((fun (_ : Unit) => [(h0, .inr (8, [.ref m_tape, .int n0, .int op, .int fp, .int bu, .int ra, .int en, .ref m_methods, .ref m_packed, .ref m_sizes, .ref m_sums, .ref m_datas, .ref m_locals, .ref m_localEnds, .ref m_names, .ref m_nameSizes, .ref m_states, .ref m_starts, .ref m_counts, .ref m_written, .int to, .int w1, .int w2, .int w3, .ref m_lengths, .ref m_small, .ref m_codes, .ref m_smallCodes, .int w4, .int w5, .int 1]))]) u) ((fun (_ : Unit) => []) u) A t) A) (by decide) (Nat.le_of_ble_eq_true rfl) (fun p e s m below meth c A ls hx hb hr hml hown ht hlk hnm hA hK hP hD hX hl => by
    have hS : va_S A s.heap s.heap [] := va_S.rf
    have hl : lv_has ls 4 [(0, .ref h0), (1, .int n), (2, .int y)] := hl
    refine lv_aload_n hx hb d_M_alter_0 rfl (lv_at hl 0 rfl) ?_
    refine lv_iload_n hx hb d_M_alter_1 rfl (lv_at hl 1 rfl) ?_
    refine lv_if_lt (tgt := 13) hx hb d_M_alter_2 (by decide) (fun hc1 => ?_) (fun hc1 => ?_)
    · skip
      refine lv_iconst (v := 1) hx hb d_M_alter_13 (by decide) ?_
      refine lv_goto (tgt := 18) hx hb d_M_alter_14 (by decide) ?_
      refine lv_iconst (v := 1) hx hb d_M_alter_18 (by decide) ?_
      refine zji (wr := []) (va_runV (As := [.int 1, .int 1]) (rest := []) ⟨hx, hb, hml, hown, ht⟩ (c_M_f1 l D _ h0 m_tape m_methods m_packed m_sizes m_sums m_datas m_locals m_localEnds m_names m_nameSizes m_states m_starts m_counts m_written m_lengths m_small m_codes m_smallCodes n0 op fp bu ra en to w1 w2 w3 w4 w5 th 1 ) (cwV 2 ht (zt_goodV zm_855 zm_856 zm_30 zm_79 zm_857) rfl rfl rfl (by decide +kernel) ⟨Nat.le_of_ble_eq_true rfl, Nat.le_of_ble_eq_true rfl⟩) (zpreV zBlind_t hK hP hD [0] [] rfl (by decide) rfl (fun _ _ _ => trivial) (va_recv (q := ("ZipGuardModel", F_M, 31)) hK hP rfl (q0 := 0) (ci := 8) rfl)) rfl rfl hl.1 rfl (lv_room (Nat.le_of_ble_eq_true rfl)) d_M_alter_19 ⟨Nat.le_of_ble_eq_true rfl, Nat.le_of_ble_eq_true rfl⟩) hK hP hD hS hA [0] [] rfl rfl (by decide) (by decide) (fun r2 u H locs hp3 hP hD hK hS => ?_)
      have hP : va_P D zcl [(h0, .inr (8, [.ref m_tape, .int n0, .int op, .int fp, .int bu, .int ra, .int en, .ref m_methods, .ref m_packed, .ref m_sizes, .ref m_sums, .ref m_datas, .ref m_locals, .ref m_localEnds, .ref m_names, .ref m_nameSizes, .ref m_states, .ref m_starts, .ref m_counts, .ref m_written, .int to, .int w1, .int w2, .int w3, .ref m_lengths, .ref m_small, .ref m_codes, .ref m_smallCodes, .int w4, .int w5, .int 1]))] H := hP
      have hD : va_D A [(h0, .inr (8, [.ref m_tape, .int n0, .int op, .int fp, .int bu, .int ra, .int en, .ref m_methods, .ref m_packed, .ref m_sizes, .ref m_sums, .ref m_datas, .ref m_locals, .ref m_localEnds, .ref m_names, .ref m_nameSizes, .ref m_states, .ref m_starts, .ref m_counts, .ref m_written, .int to, .int w1, .int w2, .int w3, .ref m_lengths, .ref m_small, .ref m_codes, .ref m_smallCodes, .int w4, .int w5, .int 1]))] := hD
      have hK : va_K D zcl [] s := hK
      subst hp3
      refine lv_if_eq (tgt := 27) hx hb d_M_alter_22 (by decide) (fun h => absurd h (by decide)) (fun _ => ?_)
      refine lv_iconst (v := 0) hx hb d_M_alter_25 (by decide) ?_
      exact zreti hx hb hr hlk hK hP hD hS () [0] [] rfl (by decide) rfl (trivial) (Nat.le_of_ble_eq_true rfl) (Nat.le_of_ble_eq_true rfl) d_M_alter_26
    · skip
      refine lv_iload_n hx hb d_M_alter_5 rfl (lv_at hl 1 rfl) ?_
      refine lv_aload_n hx hb d_M_alter_6 rfl (lv_at hl 0 rfl) ?_
      refine va_get (ci := 8) (C := "ZipGuardModel") (T := F_M) (N := 31) hx hb ht zi_M hown hK hP 0 rfl rfl 1 (by decide) (ht _ zm_753) (fun _ h9 => h9) rfl d_M_alter_7 ?_
      refine lv_icmp_lt (tgt := 17) hx hb d_M_alter_10 (by decide) (fun h => absurd h (hbad.resolve_left hc1)) (fun _ => ?_)
      refine lv_iconst (v := 1) hx hb d_M_alter_13 (by decide) ?_
      refine lv_goto (tgt := 18) hx hb d_M_alter_14 (by decide) ?_
      refine lv_iconst (v := 1) hx hb d_M_alter_18 (by decide) ?_
      refine zji (wr := []) (va_runV (As := [.int 1, .int 1]) (rest := []) ⟨hx, hb, hml, hown, ht⟩ (c_M_f1 l D _ h0 m_tape m_methods m_packed m_sizes m_sums m_datas m_locals m_localEnds m_names m_nameSizes m_states m_starts m_counts m_written m_lengths m_small m_codes m_smallCodes n0 op fp bu ra en to w1 w2 w3 w4 w5 th 1 ) (cwV 2 ht (zt_goodV zm_855 zm_856 zm_30 zm_79 zm_857) rfl rfl rfl (by decide +kernel) ⟨Nat.le_of_ble_eq_true rfl, Nat.le_of_ble_eq_true rfl⟩) (zpreV zBlind_t hK hP hD [0] [] rfl (by decide) rfl (fun _ _ _ => trivial) (va_recv (q := ("ZipGuardModel", F_M, 31)) hK hP rfl (q0 := 0) (ci := 8) rfl)) rfl rfl hl.1 rfl (lv_room (Nat.le_of_ble_eq_true rfl)) d_M_alter_19 ⟨Nat.le_of_ble_eq_true rfl, Nat.le_of_ble_eq_true rfl⟩) hK hP hD hS hA [0] [] rfl rfl (by decide) (by decide) (fun r6 u H locs hp7 hP hD hK hS => ?_)
      have hP : va_P D zcl [(h0, .inr (8, [.ref m_tape, .int n0, .int op, .int fp, .int bu, .int ra, .int en, .ref m_methods, .ref m_packed, .ref m_sizes, .ref m_sums, .ref m_datas, .ref m_locals, .ref m_localEnds, .ref m_names, .ref m_nameSizes, .ref m_states, .ref m_starts, .ref m_counts, .ref m_written, .int to, .int w1, .int w2, .int w3, .ref m_lengths, .ref m_small, .ref m_codes, .ref m_smallCodes, .int w4, .int w5, .int 1]))] H := hP
      have hD : va_D A [(h0, .inr (8, [.ref m_tape, .int n0, .int op, .int fp, .int bu, .int ra, .int en, .ref m_methods, .ref m_packed, .ref m_sizes, .ref m_sums, .ref m_datas, .ref m_locals, .ref m_localEnds, .ref m_names, .ref m_nameSizes, .ref m_states, .ref m_starts, .ref m_counts, .ref m_written, .int to, .int w1, .int w2, .int w3, .ref m_lengths, .ref m_small, .ref m_codes, .ref m_smallCodes, .int w4, .int w5, .int 1]))] := hD
      have hK : va_K D zcl [] s := hK
      subst hp7
      refine lv_if_eq (tgt := 27) hx hb d_M_alter_22 (by decide) (fun h => absurd h (by decide)) (fun _ => ?_)
      refine lv_iconst (v := 0) hx hb d_M_alter_25 (by decide) ?_
      exact zreti hx hb hr hlk hK hP hD hS () [0] [] rfl (by decide) rfl (trivial) (Nat.le_of_ble_eq_true rfl) (Nat.le_of_ble_eq_true rfl) d_M_alter_26)
set_option maxHeartbeats 4000000 in
set_option maxRecDepth 100000 in
theorem c_M_stop (l : Launch) (D : va_G) (sz : Nat) (h0 : Nat) (m_tape : Nat) (m_methods : Nat) (m_packed : Nat) (m_sizes : Nat) (m_sums : Nat) (m_datas : Nat) (m_locals : Nat) (m_localEnds : Nat) (m_names : Nat) (m_nameSizes : Nat) (m_states : Nat) (m_starts : Nat) (m_counts : Nat) (m_written : Nat) (m_lengths : Nat) (m_small : Nat) (m_codes : Nat) (m_smallCodes : Nat) (n0 : Int32) (op : Int32) (fp : Int32) (bu : Int32) (ra : Int32) (en : Int32) (to : Int32) (w1 : Int32) (w2 : Int32) (w3 : Int32) (w4 : Int32) (w5 : Int32) (th : Int32) (x : Int32) (y : Int64)  : Met l y_M_stop (Cond.code y_M_stop prog_10_method_12_code 4 (Option.some Jvm.ClassFile.FieldType.int) :: zt) { frames := 0, cells := 0, slots := 0, locals := 0 } (zPc [.ref h0, .int x, .long y] D [(h0, .inr (8, [.ref m_tape, .int n0, .int op, .int fp, .int bu, .int ra, .int en, .ref m_methods, .ref m_packed, .ref m_sizes, .ref m_sums, .ref m_datas, .ref m_locals, .ref m_localEnds, .ref m_names, .ref m_nameSizes, .ref m_states, .ref m_starts, .ref m_counts, .ref m_written, .int to, .int w1, .int w2, .int w3, .ref m_lengths, .ref m_small, .ref m_codes, .ref m_smallCodes, .int w4, .int w5, .int th]))] [] sz (fun _ => True)) (va_Qi (fun (r : Int32) => fun (_ : Unit) => r = -x) (fun u t => zB D ((fun (_ : Unit) => [(h0, .inr (8, [.ref m_tape, .int n0, .int op, .int y.toInt32, .int bu, .int ra, .int en, .ref m_methods, .ref m_packed, .ref m_sizes, .ref m_sums, .ref m_datas, .ref m_locals, .ref m_localEnds, .ref m_names, .ref m_nameSizes, .ref m_states, .ref m_starts, .ref m_counts, .ref m_written, .int to, .int w1, .int w2, .int w3, .ref m_lengths, .ref m_small, .ref m_codes, .ref m_smallCodes, .int w4, .int w5, .int th]))]) u) ((fun (_ : Unit) => []) u) (va_A [(h0, .inr (8, [.ref m_tape, .int n0, .int op, .int fp, .int bu, .int ra, .int en, .ref m_methods, .ref m_packed, .ref m_sizes, .ref m_sums, .ref m_datas, .ref m_locals, .ref m_localEnds, .ref m_names, .ref m_nameSizes, .ref m_states, .ref m_starts, .ref m_counts, .ref m_written, .int to, .int w1, .int w2, .int w3, .ref m_lengths, .ref m_small, .ref m_codes, .ref m_smallCodes, .int w4, .int w5, .int th]))] sz) t) (va_A [(h0, .inr (8, [.ref m_tape, .int n0, .int op, .int fp, .int bu, .int ra, .int en, .ref m_methods, .ref m_packed, .ref m_sizes, .ref m_sums, .ref m_datas, .ref m_locals, .ref m_localEnds, .ref m_names, .ref m_nameSizes, .ref m_states, .ref m_starts, .ref m_counts, .ref m_written, .int to, .int w1, .int w2, .int w3, .ref m_lengths, .ref m_small, .ref m_codes, .ref m_smallCodes, .int w4, .int w5, .int th]))] sz)) 0 0 (va_A [(h0, .inr (8, [.ref m_tape, .int n0, .int op, .int fp, .int bu, .int ra, .int en, .ref m_methods, .ref m_packed, .ref m_sizes, .ref m_sums, .ref m_datas, .ref m_locals, .ref m_localEnds, .ref m_names, .ref m_nameSizes, .ref m_states, .ref m_starts, .ref m_counts, .ref m_written, .int to, .int w1, .int w2, .int w3, .ref m_lengths, .ref m_small, .ref m_codes, .ref m_smallCodes, .int w4, .int w5, .int th]))] sz) :=
  zMet (Qf := fun A => va_Qi (fun (r : Int32) => fun (_ : Unit) => r = -x) (fun u t => zB D ((fun (_ : Unit) => [(h0, .inr (8, [.ref m_tape, .int n0, .int op, .int y.toInt32, .int bu, .int ra, .int en, .ref m_methods, .ref m_packed, .ref m_sizes, .ref m_sums, .ref m_datas, .ref m_locals, .ref m_localEnds, .ref m_names, .ref m_nameSizes, .ref m_states, .ref m_starts, .ref m_counts, .ref m_written, .int to, .int w1, .int w2, .int w3, .ref m_lengths, .ref m_small, .ref m_codes, .ref m_smallCodes, .int w4, .int w5, .int th]))]) u) ((fun (_ : Unit) => []) u) A t) A) (by decide) (Nat.le_of_ble_eq_true rfl) (fun p e s m below meth c A ls hx hb hr hml hown ht hlk hnm hA hK hP hD hX hl => by
    have hS : va_S A s.heap s.heap [] := va_S.rf
    have hl : lv_has ls 4 [(0, .ref h0), (1, .int x), (2, .long y)] := hl
    refine lv_aload_n hx hb d_M_stop_0 rfl (lv_at hl 0 rfl) ?_
    refine lv_lload_n hx hb d_M_stop_1 rfl (lv_at hl 2 rfl) ?_
    refine lv_l2i hx hb d_M_stop_2 rfl ?_
    refine va_put (ci := 8) (v := .int y.toInt32) (ty := .int) (C := "ZipGuardModel") (T := F_M) (N := 31) hx hb ht zi_M ty_M tk_M nm_M hown hK hP hD hS 0 rfl rfl 3 (by decide) (ht _ zm_755) (fun _ h9 => h9) rfl (by decide +kernel) rfl rfl (Nat.le_of_ble_eq_true rfl) d_M_stop_3 (fun H locs hP hD hS => ?_)
    have hP : va_P D zcl [(h0, .inr (8, [.ref m_tape, .int n0, .int op, .int y.toInt32, .int bu, .int ra, .int en, .ref m_methods, .ref m_packed, .ref m_sizes, .ref m_sums, .ref m_datas, .ref m_locals, .ref m_localEnds, .ref m_names, .ref m_nameSizes, .ref m_states, .ref m_starts, .ref m_counts, .ref m_written, .int to, .int w1, .int w2, .int w3, .ref m_lengths, .ref m_small, .ref m_codes, .ref m_smallCodes, .int w4, .int w5, .int th]))] H := hP
    have hD : va_D A [(h0, .inr (8, [.ref m_tape, .int n0, .int op, .int y.toInt32, .int bu, .int ra, .int en, .ref m_methods, .ref m_packed, .ref m_sizes, .ref m_sums, .ref m_datas, .ref m_locals, .ref m_localEnds, .ref m_names, .ref m_nameSizes, .ref m_states, .ref m_starts, .ref m_counts, .ref m_written, .int to, .int w1, .int w2, .int w3, .ref m_lengths, .ref m_small, .ref m_codes, .ref m_smallCodes, .int w4, .int w5, .int th]))] := hD
    refine lv_iload_n hx hb d_M_stop_6 rfl (lv_at hl 1 rfl) ?_
    refine lv_ineg hx hb d_M_stop_7 ?_
    exact zreti hx hb hr hlk hK hP hD hS () [0] [] rfl (by decide) rfl (rfl) (Nat.le_of_ble_eq_true rfl) (Nat.le_of_ble_eq_true rfl) d_M_stop_8)
set_option maxHeartbeats 4000000 in
set_option maxRecDepth 100000 in
theorem c_M_find0 (l : Launch) (D : va_G) (sz : Nat) (h0 : Nat) (m_tape : Nat) (m_methods : Nat) (m_packed : Nat) (m_sizes : Nat) (m_sums : Nat) (m_datas : Nat) (m_locals : Nat) (m_localEnds : Nat) (m_names : Nat) (m_nameSizes : Nat) (m_states : Nat) (m_starts : Nat) (m_counts : Nat) (m_written : Nat) (m_lengths : Nat) (m_small : Nat) (m_codes : Nat) (m_smallCodes : Nat) (op : Int32) (fp : Int32) (bu : Int32) (ra : Int32) (en : Int32) (to : Int32) (w1 : Int32) (w2 : Int32) (w3 : Int32) (w4 : Int32) (w5 : Int32) (th : Int32)  : Met l y_M_findEnd (Cond.code y_M_findEnd prog_10_method_13_code 2 (Option.some Jvm.ClassFile.FieldType.int) :: zt) { frames := 0, cells := 0, slots := 0, locals := 0 } (zPc [.ref h0] D [(h0, .inr (8, [.ref m_tape, .int 0, .int op, .int fp, .int bu, .int ra, .int en, .ref m_methods, .ref m_packed, .ref m_sizes, .ref m_sums, .ref m_datas, .ref m_locals, .ref m_localEnds, .ref m_names, .ref m_nameSizes, .ref m_states, .ref m_starts, .ref m_counts, .ref m_written, .int to, .int w1, .int w2, .int w3, .ref m_lengths, .ref m_small, .ref m_codes, .ref m_smallCodes, .int w4, .int w5, .int th]))] [] sz (fun _ => True)) (va_Qi (fun (r : Int32) => fun (_ : Unit) => r = -1) (fun u t => zB D ((fun (_ : Unit) => [(h0, .inr (8, [.ref m_tape, .int 0, .int op, .int fp, .int bu, .int ra, .int en, .ref m_methods, .ref m_packed, .ref m_sizes, .ref m_sums, .ref m_datas, .ref m_locals, .ref m_localEnds, .ref m_names, .ref m_nameSizes, .ref m_states, .ref m_starts, .ref m_counts, .ref m_written, .int to, .int w1, .int w2, .int w3, .ref m_lengths, .ref m_small, .ref m_codes, .ref m_smallCodes, .int w4, .int w5, .int th]))]) u) ((fun (_ : Unit) => []) u) (va_A [(h0, .inr (8, [.ref m_tape, .int 0, .int op, .int fp, .int bu, .int ra, .int en, .ref m_methods, .ref m_packed, .ref m_sizes, .ref m_sums, .ref m_datas, .ref m_locals, .ref m_localEnds, .ref m_names, .ref m_nameSizes, .ref m_states, .ref m_starts, .ref m_counts, .ref m_written, .int to, .int w1, .int w2, .int w3, .ref m_lengths, .ref m_small, .ref m_codes, .ref m_smallCodes, .int w4, .int w5, .int th]))] sz) t) (va_A [(h0, .inr (8, [.ref m_tape, .int 0, .int op, .int fp, .int bu, .int ra, .int en, .ref m_methods, .ref m_packed, .ref m_sizes, .ref m_sums, .ref m_datas, .ref m_locals, .ref m_localEnds, .ref m_names, .ref m_nameSizes, .ref m_states, .ref m_starts, .ref m_counts, .ref m_written, .int to, .int w1, .int w2, .int w3, .ref m_lengths, .ref m_small, .ref m_codes, .ref m_smallCodes, .int w4, .int w5, .int th]))] sz)) 0 0 (va_A [(h0, .inr (8, [.ref m_tape, .int 0, .int op, .int fp, .int bu, .int ra, .int en, .ref m_methods, .ref m_packed, .ref m_sizes, .ref m_sums, .ref m_datas, .ref m_locals, .ref m_localEnds, .ref m_names, .ref m_nameSizes, .ref m_states, .ref m_starts, .ref m_counts, .ref m_written, .int to, .int w1, .int w2, .int w3, .ref m_lengths, .ref m_small, .ref m_codes, .ref m_smallCodes, .int w4, .int w5, .int th]))] sz) :=
  zMet (Qf := fun A => va_Qi (fun (r : Int32) => fun (_ : Unit) => r = -1) (fun u t => zB D ((fun (_ : Unit) => [(h0, .inr (8, [.ref m_tape, .int 0, .int op, .int fp, .int bu, .int ra, .int en, .ref m_methods, .ref m_packed, .ref m_sizes, .ref m_sums, .ref m_datas, .ref m_locals, .ref m_localEnds, .ref m_names, .ref m_nameSizes, .ref m_states, .ref m_starts, .ref m_counts, .ref m_written, .int to, .int w1, .int w2, .int w3, .ref m_lengths, .ref m_small, .ref m_codes, .ref m_smallCodes, .int w4, .int w5, .int th]))]) u) ((fun (_ : Unit) => []) u) A t) A) (by decide) (Nat.le_of_ble_eq_true rfl) (fun p e s m below meth c A ls hx hb hr hml hown ht hlk hnm hA hK hP hD hX hl => by
    have hS : va_S A s.heap s.heap [] := va_S.rf
    have hl : lv_has ls 2 [(0, .ref h0)] := hl
    refine lv_aload_n hx hb d_M_findEnd_0 rfl (lv_at hl 0 rfl) ?_
    refine va_get (ci := 8) (C := "ZipGuardModel") (T := F_M) (N := 31) hx hb ht zi_M hown hK hP 0 rfl rfl 1 (by decide) (ht _ zm_753) (fun _ h9 => h9) rfl d_M_findEnd_1 ?_
    refine lv_bipush (v := 22) hx hb d_M_findEnd_4 (by decide) ?_
    refine lv_isub hx hb d_M_findEnd_6 ?_
    refine lv_topi (fun z1 e_z1 => ?_)
    have e_z1 : z1 = (-22) := e_z1.trans (by decide)
    subst e_z1
    refine lv_istore_n (lv' := [(1, .int (-22)), (0, .ref h0)]) hx hb d_M_findEnd_7 rfl hl (by decide) rfl (fun ls hl => ?_)
    refine lv_iload_n hx hb d_M_findEnd_8 rfl (lv_at hl 0 rfl) ?_
    refine lv_if_lt (tgt := 53) hx hb d_M_findEnd_9 (by decide) (fun _ => ?_) (fun h => absurd (by decide) h)
    refine lv_iconst (v := (-1)) hx hb d_M_findEnd_53 (by decide) ?_
    exact zreti hx hb hr hlk hK hP hD hS () [0] [] rfl (by decide) rfl (rfl) (Nat.le_of_ble_eq_true rfl) (Nat.le_of_ble_eq_true rfl) d_M_findEnd_54)
set_option maxHeartbeats 4000000 in
set_option maxRecDepth 100000 in
theorem c_M_judge0 (l : Launch) (D : va_G) (sz : Nat) (h0 : Nat) (m_tape : Nat) (m_methods : Nat) (m_packed : Nat) (m_sizes : Nat) (m_sums : Nat) (m_datas : Nat) (m_locals : Nat) (m_localEnds : Nat) (m_names : Nat) (m_nameSizes : Nat) (m_states : Nat) (m_starts : Nat) (m_counts : Nat) (m_written : Nat) (m_lengths : Nat) (m_small : Nat) (m_codes : Nat) (m_smallCodes : Nat) (op : Int32) (fp : Int32) (bu : Int32) (ra : Int32) (en : Int32) (to : Int32) (w1 : Int32) (w2 : Int32) (w3 : Int32) (w4 : Int32) (w5 : Int32) (th : Int32)  : Met l y_M_judge (Cond.code y_M_judge prog_10_method_24_code 14 (Option.some Jvm.ClassFile.FieldType.int) :: zt) { frames := 1, cells := 0, slots := 0, locals := 23 } (zPc [.ref h0] D [(h0, .inr (8, [.ref m_tape, .int 0, .int op, .int fp, .int bu, .int ra, .int en, .ref m_methods, .ref m_packed, .ref m_sizes, .ref m_sums, .ref m_datas, .ref m_locals, .ref m_localEnds, .ref m_names, .ref m_nameSizes, .ref m_states, .ref m_starts, .ref m_counts, .ref m_written, .int to, .int w1, .int w2, .int w3, .ref m_lengths, .ref m_small, .ref m_codes, .ref m_smallCodes, .int w4, .int w5, .int th]))] [] sz (fun _ => True)) (va_Qi (fun (r : Int32) => fun (_ : Unit) => r = -1) (fun u t => zB D ((fun (_ : Unit) => [(h0, .inr (8, [.ref m_tape, .int 0, .int op, .int ((0 : Int32).toInt64.toInt32), .int bu, .int ra, .int en, .ref m_methods, .ref m_packed, .ref m_sizes, .ref m_sums, .ref m_datas, .ref m_locals, .ref m_localEnds, .ref m_names, .ref m_nameSizes, .ref m_states, .ref m_starts, .ref m_counts, .ref m_written, .int to, .int w1, .int w2, .int w3, .ref m_lengths, .ref m_small, .ref m_codes, .ref m_smallCodes, .int w4, .int w5, .int th]))]) u) ((fun (_ : Unit) => []) u) (va_A [(h0, .inr (8, [.ref m_tape, .int 0, .int op, .int fp, .int bu, .int ra, .int en, .ref m_methods, .ref m_packed, .ref m_sizes, .ref m_sums, .ref m_datas, .ref m_locals, .ref m_localEnds, .ref m_names, .ref m_nameSizes, .ref m_states, .ref m_starts, .ref m_counts, .ref m_written, .int to, .int w1, .int w2, .int w3, .ref m_lengths, .ref m_small, .ref m_codes, .ref m_smallCodes, .int w4, .int w5, .int th]))] sz) t) (va_A [(h0, .inr (8, [.ref m_tape, .int 0, .int op, .int fp, .int bu, .int ra, .int en, .ref m_methods, .ref m_packed, .ref m_sizes, .ref m_sums, .ref m_datas, .ref m_locals, .ref m_localEnds, .ref m_names, .ref m_nameSizes, .ref m_states, .ref m_starts, .ref m_counts, .ref m_written, .int to, .int w1, .int w2, .int w3, .ref m_lengths, .ref m_small, .ref m_codes, .ref m_smallCodes, .int w4, .int w5, .int th]))] sz)) 0 0 (va_A [(h0, .inr (8, [.ref m_tape, .int 0, .int op, .int fp, .int bu, .int ra, .int en, .ref m_methods, .ref m_packed, .ref m_sizes, .ref m_sums, .ref m_datas, .ref m_locals, .ref m_localEnds, .ref m_names, .ref m_nameSizes, .ref m_states, .ref m_starts, .ref m_counts, .ref m_written, .int to, .int w1, .int w2, .int w3, .ref m_lengths, .ref m_small, .ref m_codes, .ref m_smallCodes, .int w4, .int w5, .int th]))] sz) :=
  zMet (Qf := fun A => va_Qi (fun (r : Int32) => fun (_ : Unit) => r = -1) (fun u t => zB D ((fun (_ : Unit) => [(h0, .inr (8, [.ref m_tape, .int 0, .int op, .int ((0 : Int32).toInt64.toInt32), .int bu, .int ra, .int en, .ref m_methods, .ref m_packed, .ref m_sizes, .ref m_sums, .ref m_datas, .ref m_locals, .ref m_localEnds, .ref m_names, .ref m_nameSizes, .ref m_states, .ref m_starts, .ref m_counts, .ref m_written, .int to, .int w1, .int w2, .int w3, .ref m_lengths, .ref m_small, .ref m_codes, .ref m_smallCodes, .int w4, .int w5, .int th]))]) u) ((fun (_ : Unit) => []) u) A t) A) (by decide) (Nat.le_of_ble_eq_true rfl) (fun p e s m below meth c A ls hx hb hr hml hown ht hlk hnm hA hK hP hD hX hl => by
    have hS : va_S A s.heap s.heap [] := va_S.rf
    have hl : lv_has ls 14 [(0, .ref h0)] := hl
    refine lv_aload_n hx hb d_M_judge_0 rfl (lv_at hl 0 rfl) ?_
    refine zji (wr := []) (va_runV (As := []) (rest := []) ⟨hx, hb, hml, hown, ht⟩ (c_M_find0 l D _ h0 m_tape m_methods m_packed m_sizes m_sums m_datas m_locals m_localEnds m_names m_nameSizes m_states m_starts m_counts m_written m_lengths m_small m_codes m_smallCodes op fp bu ra en to w1 w2 w3 w4 w5 th ) (cwV 0 ht (zt_goodV zm_876 zm_877 zm_33 zm_79 zm_878) rfl rfl rfl (by decide +kernel) ⟨Nat.le_of_ble_eq_true rfl, Nat.le_of_ble_eq_true rfl⟩) (zpreV zBlind_t hK hP hD [0] [] rfl (by decide) rfl (fun _ _ _ => trivial) (va_recv (q := ("ZipGuardModel", F_M, 31)) hK hP rfl (q0 := 0) (ci := 8) rfl)) rfl rfl hl.1 rfl (lv_room (Nat.le_of_ble_eq_true rfl)) d_M_judge_1 ⟨Nat.le_of_ble_eq_true rfl, Nat.le_of_ble_eq_true rfl⟩) hK hP hD hS hA [0] [] rfl rfl (by decide) (by decide) (fun r1 u H locs hp2 hP hD hK hS => ?_)
    have hP : va_P D zcl [(h0, .inr (8, [.ref m_tape, .int 0, .int op, .int fp, .int bu, .int ra, .int en, .ref m_methods, .ref m_packed, .ref m_sizes, .ref m_sums, .ref m_datas, .ref m_locals, .ref m_localEnds, .ref m_names, .ref m_nameSizes, .ref m_states, .ref m_starts, .ref m_counts, .ref m_written, .int to, .int w1, .int w2, .int w3, .ref m_lengths, .ref m_small, .ref m_codes, .ref m_smallCodes, .int w4, .int w5, .int th]))] H := hP
    have hD : va_D A [(h0, .inr (8, [.ref m_tape, .int 0, .int op, .int fp, .int bu, .int ra, .int en, .ref m_methods, .ref m_packed, .ref m_sizes, .ref m_sums, .ref m_datas, .ref m_locals, .ref m_localEnds, .ref m_names, .ref m_nameSizes, .ref m_states, .ref m_starts, .ref m_counts, .ref m_written, .int to, .int w1, .int w2, .int w3, .ref m_lengths, .ref m_small, .ref m_codes, .ref m_smallCodes, .int w4, .int w5, .int th]))] := hD
    have hK : va_K D zcl [] s := hK
    subst hp2
    refine lv_istore_n (lv' := [(1, .int (-1)), (0, .ref h0)]) hx hb d_M_judge_4 rfl hl (by decide) rfl (fun ls hl => ?_)
    refine lv_iload_n hx hb d_M_judge_5 rfl (lv_at hl 0 rfl) ?_
    refine lv_iconst (v := (-1)) hx hb d_M_judge_6 (by decide) ?_
    refine lv_icmp_ne (tgt := 21) hx hb d_M_judge_7 (by decide) (fun h => absurd (by decide) h) (fun _ => ?_)
    refine lv_aload_n hx hb d_M_judge_10 rfl (lv_at hl 1 rfl) ?_
    refine lv_iconst (v := 1) hx hb d_M_judge_11 (by decide) ?_
    refine lv_aload_n hx hb d_M_judge_12 rfl (lv_at hl 1 rfl) ?_
    refine va_get (ci := 8) (C := "ZipGuardModel") (T := F_M) (N := 31) hx hb ht zi_M hown hK hP 0 rfl rfl 1 (by decide) (ht _ zm_753) (fun _ h9 => h9) rfl d_M_judge_13 ?_
    refine lv_i2l hx hb d_M_judge_16 rfl ?_
    refine zji (wr := []) (va_runV (As := [.int 1, .long ((0 : Int32).toInt64)]) (rest := []) ⟨hx, hb, hml, hown, ht⟩ (c_M_stop l D _ h0 m_tape m_methods m_packed m_sizes m_sums m_datas m_locals m_localEnds m_names m_nameSizes m_states m_starts m_counts m_written m_lengths m_small m_codes m_smallCodes 0 op fp bu ra en to w1 w2 w3 w4 w5 th 1 ((0 : Int32).toInt64) ) (cwV 2 ht (zt_goodV zm_890 zm_891 zm_37 zm_79 zm_892) rfl rfl rfl (by decide +kernel) ⟨Nat.le_of_ble_eq_true rfl, Nat.le_of_ble_eq_true rfl⟩) (zpreV zBlind_t hK hP hD [0] [] rfl (by decide) rfl (fun _ _ _ => trivial) (va_recv (q := ("ZipGuardModel", F_M, 31)) hK hP rfl (q0 := 0) (ci := 8) rfl)) rfl rfl hl.1 rfl (lv_room (Nat.le_of_ble_eq_true rfl)) d_M_judge_17 ⟨Nat.le_of_ble_eq_true rfl, Nat.le_of_ble_eq_true rfl⟩) hK hP hD hS hA [0] [] rfl rfl (by decide) (by decide) (fun r4 u H locs hp5 hP hD hK hS => ?_)
    have hP : va_P D zcl [(h0, .inr (8, [.ref m_tape, .int 0, .int op, .int (((0 : Int32).toInt64).toInt32), .int bu, .int ra, .int en, .ref m_methods, .ref m_packed, .ref m_sizes, .ref m_sums, .ref m_datas, .ref m_locals, .ref m_localEnds, .ref m_names, .ref m_nameSizes, .ref m_states, .ref m_starts, .ref m_counts, .ref m_written, .int to, .int w1, .int w2, .int w3, .ref m_lengths, .ref m_small, .ref m_codes, .ref m_smallCodes, .int w4, .int w5, .int th]))] H := hP
    have hD : va_D A [(h0, .inr (8, [.ref m_tape, .int 0, .int op, .int (((0 : Int32).toInt64).toInt32), .int bu, .int ra, .int en, .ref m_methods, .ref m_packed, .ref m_sizes, .ref m_sums, .ref m_datas, .ref m_locals, .ref m_localEnds, .ref m_names, .ref m_nameSizes, .ref m_states, .ref m_starts, .ref m_counts, .ref m_written, .int to, .int w1, .int w2, .int w3, .ref m_lengths, .ref m_small, .ref m_codes, .ref m_smallCodes, .int w4, .int w5, .int th]))] := hD
    have hK : va_K D zcl [] s := hK
    exact zreti hx hb hr hlk hK hP hD hS () [0] [] rfl (by decide) rfl (hp5) (Nat.le_of_ble_eq_true rfl) (Nat.le_of_ble_eq_true rfl) d_M_judge_20)
set_option maxHeartbeats 4000000 in
set_option maxRecDepth 100000 in
theorem c_M_open0 (l : Launch) (D : va_G) (sz : Nat) (h0 : Nat) (m_tape : Nat) (m_methods : Nat) (m_packed : Nat) (m_sizes : Nat) (m_sums : Nat) (m_datas : Nat) (m_locals : Nat) (m_localEnds : Nat) (m_names : Nat) (m_nameSizes : Nat) (m_states : Nat) (m_starts : Nat) (m_counts : Nat) (m_written : Nat) (m_lengths : Nat) (m_small : Nat) (m_codes : Nat) (m_smallCodes : Nat) (op : Int32) (fp : Int32) (bu : Int32) (ra : Int32) (en : Int32) (to : Int32) (w1 : Int32) (w2 : Int32) (w3 : Int32) (w4 : Int32) (w5 : Int32) (th : Int32)  : Met l y_M_open (Cond.code y_M_open prog_10_method_25_code 2 (Option.some Jvm.ClassFile.FieldType.int) :: zt) { frames := 2, cells := 0, slots := 0, locals := 56 } (zPc [.ref h0] D [(h0, .inr (8, [.ref m_tape, .int 0, .int op, .int fp, .int bu, .int ra, .int en, .ref m_methods, .ref m_packed, .ref m_sizes, .ref m_sums, .ref m_datas, .ref m_locals, .ref m_localEnds, .ref m_names, .ref m_nameSizes, .ref m_states, .ref m_starts, .ref m_counts, .ref m_written, .int to, .int w1, .int w2, .int w3, .ref m_lengths, .ref m_small, .ref m_codes, .ref m_smallCodes, .int w4, .int w5, .int th]))] [] sz (fun _ => True)) (va_Qi (fun (r : Int32) => fun (_ : Unit) => r = -1) (fun u t => zB D ((fun (_ : Unit) => [(h0, .inr (8, [.ref m_tape, .int 0, .int 0, .int ((0 : Int32).toInt64.toInt32), .int bu, .int ra, .int 0, .ref m_methods, .ref m_packed, .ref m_sizes, .ref m_sums, .ref m_datas, .ref m_locals, .ref m_localEnds, .ref m_names, .ref m_nameSizes, .ref m_states, .ref m_starts, .ref m_counts, .ref m_written, .int 0, .int w1, .int w2, .int w3, .ref m_lengths, .ref m_small, .ref m_codes, .ref m_smallCodes, .int w4, .int w5, .int 0]))]) u) ((fun (_ : Unit) => []) u) (va_A [(h0, .inr (8, [.ref m_tape, .int 0, .int op, .int fp, .int bu, .int ra, .int en, .ref m_methods, .ref m_packed, .ref m_sizes, .ref m_sums, .ref m_datas, .ref m_locals, .ref m_localEnds, .ref m_names, .ref m_nameSizes, .ref m_states, .ref m_starts, .ref m_counts, .ref m_written, .int to, .int w1, .int w2, .int w3, .ref m_lengths, .ref m_small, .ref m_codes, .ref m_smallCodes, .int w4, .int w5, .int th]))] sz) t) (va_A [(h0, .inr (8, [.ref m_tape, .int 0, .int op, .int fp, .int bu, .int ra, .int en, .ref m_methods, .ref m_packed, .ref m_sizes, .ref m_sums, .ref m_datas, .ref m_locals, .ref m_localEnds, .ref m_names, .ref m_nameSizes, .ref m_states, .ref m_starts, .ref m_counts, .ref m_written, .int to, .int w1, .int w2, .int w3, .ref m_lengths, .ref m_small, .ref m_codes, .ref m_smallCodes, .int w4, .int w5, .int th]))] sz)) 0 0 (va_A [(h0, .inr (8, [.ref m_tape, .int 0, .int op, .int fp, .int bu, .int ra, .int en, .ref m_methods, .ref m_packed, .ref m_sizes, .ref m_sums, .ref m_datas, .ref m_locals, .ref m_localEnds, .ref m_names, .ref m_nameSizes, .ref m_states, .ref m_starts, .ref m_counts, .ref m_written, .int to, .int w1, .int w2, .int w3, .ref m_lengths, .ref m_small, .ref m_codes, .ref m_smallCodes, .int w4, .int w5, .int th]))] sz) :=
  zMet (Qf := fun A => va_Qi (fun (r : Int32) => fun (_ : Unit) => r = -1) (fun u t => zB D ((fun (_ : Unit) => [(h0, .inr (8, [.ref m_tape, .int 0, .int 0, .int ((0 : Int32).toInt64.toInt32), .int bu, .int ra, .int 0, .ref m_methods, .ref m_packed, .ref m_sizes, .ref m_sums, .ref m_datas, .ref m_locals, .ref m_localEnds, .ref m_names, .ref m_nameSizes, .ref m_states, .ref m_starts, .ref m_counts, .ref m_written, .int 0, .int w1, .int w2, .int w3, .ref m_lengths, .ref m_small, .ref m_codes, .ref m_smallCodes, .int w4, .int w5, .int 0]))]) u) ((fun (_ : Unit) => []) u) A t) A) (by decide) (Nat.le_of_ble_eq_true rfl) (fun p e s m below meth c A ls hx hb hr hml hown ht hlk hnm hA hK hP hD hX hl => by
    have hS : va_S A s.heap s.heap [] := va_S.rf
    have hl : lv_has ls 2 [(0, .ref h0)] := hl
    refine lv_aload_n hx hb d_M_open_0 rfl (lv_at hl 0 rfl) ?_
    refine lv_iconst (v := 0) hx hb d_M_open_1 (by decide) ?_
    refine va_put (ci := 8) (v := .int 0) (ty := .int) (C := "ZipGuardModel") (T := F_M) (N := 31) hx hb ht zi_M ty_M tk_M nm_M hown hK hP hD hS 0 rfl rfl 30 (by decide) (ht _ zm_782) (fun _ h9 => h9) rfl (by decide +kernel) rfl rfl (Nat.le_of_ble_eq_true rfl) d_M_open_2 (fun H locs hP hD hS => ?_)
    have hP : va_P D zcl [(h0, .inr (8, [.ref m_tape, .int 0, .int op, .int fp, .int bu, .int ra, .int en, .ref m_methods, .ref m_packed, .ref m_sizes, .ref m_sums, .ref m_datas, .ref m_locals, .ref m_localEnds, .ref m_names, .ref m_nameSizes, .ref m_states, .ref m_starts, .ref m_counts, .ref m_written, .int to, .int w1, .int w2, .int w3, .ref m_lengths, .ref m_small, .ref m_codes, .ref m_smallCodes, .int w4, .int w5, .int 0]))] H := hP
    have hD : va_D A [(h0, .inr (8, [.ref m_tape, .int 0, .int op, .int fp, .int bu, .int ra, .int en, .ref m_methods, .ref m_packed, .ref m_sizes, .ref m_sums, .ref m_datas, .ref m_locals, .ref m_localEnds, .ref m_names, .ref m_nameSizes, .ref m_states, .ref m_starts, .ref m_counts, .ref m_written, .int to, .int w1, .int w2, .int w3, .ref m_lengths, .ref m_small, .ref m_codes, .ref m_smallCodes, .int w4, .int w5, .int 0]))] := hD
    refine lv_aload_n hx hb d_M_open_5 rfl (lv_at hl 0 rfl) ?_
    refine zjv (wr := []) (va_runV (As := []) (rest := []) ⟨hx, hb, hml, hown, ht⟩ (c_M_shut l D _ h0 m_tape m_methods m_packed m_sizes m_sums m_datas m_locals m_localEnds m_names m_nameSizes m_states m_starts m_counts m_written m_lengths m_small m_codes m_smallCodes 0 op fp bu ra en to w1 w2 w3 w4 w5 0 ) (cwV 0 ht (zt_goodV zm_858 zm_859 zm_31 zm_79 zm_860) rfl rfl rfl (by decide +kernel) ⟨Nat.le_of_ble_eq_true rfl, Nat.le_of_ble_eq_true rfl⟩) (zpreV zBlind_t hK hP hD [0] [] rfl (by decide) rfl (fun _ _ _ => trivial) (va_recv (q := ("ZipGuardModel", F_M, 31)) hK hP rfl (q0 := 0) (ci := 8) rfl)) rfl rfl hl.1 rfl (lv_room (Nat.le_of_ble_eq_true rfl)) d_M_open_6 ⟨Nat.le_of_ble_eq_true rfl, Nat.le_of_ble_eq_true rfl⟩) hK hP hD hS hA [0] [] rfl rfl (by decide) (by decide) (fun u H locs hp2 hP hD hK hS => ?_)
    have hP : va_P D zcl [(h0, .inr (8, [.ref m_tape, .int 0, .int 0, .int fp, .int bu, .int ra, .int 0, .ref m_methods, .ref m_packed, .ref m_sizes, .ref m_sums, .ref m_datas, .ref m_locals, .ref m_localEnds, .ref m_names, .ref m_nameSizes, .ref m_states, .ref m_starts, .ref m_counts, .ref m_written, .int 0, .int w1, .int w2, .int w3, .ref m_lengths, .ref m_small, .ref m_codes, .ref m_smallCodes, .int w4, .int w5, .int 0]))] H := hP
    have hD : va_D A [(h0, .inr (8, [.ref m_tape, .int 0, .int 0, .int fp, .int bu, .int ra, .int 0, .ref m_methods, .ref m_packed, .ref m_sizes, .ref m_sums, .ref m_datas, .ref m_locals, .ref m_localEnds, .ref m_names, .ref m_nameSizes, .ref m_states, .ref m_starts, .ref m_counts, .ref m_written, .int 0, .int w1, .int w2, .int w3, .ref m_lengths, .ref m_small, .ref m_codes, .ref m_smallCodes, .int w4, .int w5, .int 0]))] := hD
    have hK : va_K D zcl [] s := hK
    refine lv_aload_n hx hb d_M_open_9 rfl (lv_at hl 0 rfl) ?_
    refine lv_iconst (v := (-1)) hx hb d_M_open_10 (by decide) ?_
    refine va_put (ci := 8) (v := .int (-1)) (ty := .int) (C := "ZipGuardModel") (T := F_M) (N := 31) hx hb ht zi_M ty_M tk_M nm_M hown hK hP hD hS 0 rfl rfl 3 (by decide) (ht _ zm_755) (fun _ h9 => h9) rfl (by decide +kernel) rfl rfl (Nat.le_of_ble_eq_true rfl) d_M_open_11 (fun H locs hP hD hS => ?_)
    have hP : va_P D zcl [(h0, .inr (8, [.ref m_tape, .int 0, .int 0, .int (-1), .int bu, .int ra, .int 0, .ref m_methods, .ref m_packed, .ref m_sizes, .ref m_sums, .ref m_datas, .ref m_locals, .ref m_localEnds, .ref m_names, .ref m_nameSizes, .ref m_states, .ref m_starts, .ref m_counts, .ref m_written, .int 0, .int w1, .int w2, .int w3, .ref m_lengths, .ref m_small, .ref m_codes, .ref m_smallCodes, .int w4, .int w5, .int 0]))] H := hP
    have hD : va_D A [(h0, .inr (8, [.ref m_tape, .int 0, .int 0, .int (-1), .int bu, .int ra, .int 0, .ref m_methods, .ref m_packed, .ref m_sizes, .ref m_sums, .ref m_datas, .ref m_locals, .ref m_localEnds, .ref m_names, .ref m_nameSizes, .ref m_states, .ref m_starts, .ref m_counts, .ref m_written, .int 0, .int w1, .int w2, .int w3, .ref m_lengths, .ref m_small, .ref m_codes, .ref m_smallCodes, .int w4, .int w5, .int 0]))] := hD
    refine lv_aload_n hx hb d_M_open_14 rfl (lv_at hl 0 rfl) ?_
    refine zji (wr := []) (va_runV (As := []) (rest := []) ⟨hx, hb, hml, hown, ht⟩ (c_M_judge0 l D _ h0 m_tape m_methods m_packed m_sizes m_sums m_datas m_locals m_localEnds m_names m_nameSizes m_states m_starts m_counts m_written m_lengths m_small m_codes m_smallCodes 0 (-1) bu ra 0 0 w1 w2 w3 w4 w5 0 ) (cwV 0 ht (zt_goodV zm_873 zm_874 zm_32 zm_79 zm_875) rfl rfl rfl (by decide +kernel) ⟨Nat.le_of_ble_eq_true rfl, Nat.le_of_ble_eq_true rfl⟩) (zpreV zBlind_t hK hP hD [0] [] rfl (by decide) rfl (fun _ _ _ => trivial) (va_recv (q := ("ZipGuardModel", F_M, 31)) hK hP rfl (q0 := 0) (ci := 8) rfl)) rfl rfl hl.1 rfl (lv_room (Nat.le_of_ble_eq_true rfl)) d_M_open_15 ⟨Nat.le_of_ble_eq_true rfl, Nat.le_of_ble_eq_true rfl⟩) hK hP hD hS hA [0] [] rfl rfl (by decide) (by decide) (fun r3 u H locs hp4 hP hD hK hS => ?_)
    have hP : va_P D zcl [(h0, .inr (8, [.ref m_tape, .int 0, .int 0, .int ((0 : Int32).toInt64.toInt32), .int bu, .int ra, .int 0, .ref m_methods, .ref m_packed, .ref m_sizes, .ref m_sums, .ref m_datas, .ref m_locals, .ref m_localEnds, .ref m_names, .ref m_nameSizes, .ref m_states, .ref m_starts, .ref m_counts, .ref m_written, .int 0, .int w1, .int w2, .int w3, .ref m_lengths, .ref m_small, .ref m_codes, .ref m_smallCodes, .int w4, .int w5, .int 0]))] H := hP
    have hD : va_D A [(h0, .inr (8, [.ref m_tape, .int 0, .int 0, .int ((0 : Int32).toInt64.toInt32), .int bu, .int ra, .int 0, .ref m_methods, .ref m_packed, .ref m_sizes, .ref m_sums, .ref m_datas, .ref m_locals, .ref m_localEnds, .ref m_names, .ref m_nameSizes, .ref m_states, .ref m_starts, .ref m_counts, .ref m_written, .int 0, .int w1, .int w2, .int w3, .ref m_lengths, .ref m_small, .ref m_codes, .ref m_smallCodes, .int w4, .int w5, .int 0]))] := hD
    have hK : va_K D zcl [] s := hK
    subst hp4
    refine lv_istore_n (lv' := [(1, .int (-1)), (0, .ref h0)]) hx hb d_M_open_18 rfl hl (by decide) rfl (fun ls hl => ?_)
    refine lv_aload_n hx hb d_M_open_19 rfl (lv_at hl 1 rfl) ?_
    refine lv_iload_n hx hb d_M_open_20 rfl (lv_at hl 0 rfl) ?_
    refine lv_if_lt (tgt := 28) hx hb d_M_open_21 (by decide) (fun _ => ?_) (fun h => absurd (by decide) h)
    refine lv_iconst (v := 0) hx hb d_M_open_28 (by decide) ?_
    refine va_put (ci := 8) (v := .int 0) (ty := .boolean) (C := "ZipGuardModel") (T := F_M) (N := 31) hx hb ht zi_M ty_M tk_M nm_M hown hK hP hD hS 0 rfl rfl 2 (by decide) (ht _ zm_754) (fun _ h9 => h9) rfl (by decide +kernel) rfl rfl (Nat.le_of_ble_eq_true rfl) d_M_open_29 (fun H locs hP hD hS => ?_)
    have hP : va_P D zcl [(h0, .inr (8, [.ref m_tape, .int 0, .int 0, .int ((0 : Int32).toInt64.toInt32), .int bu, .int ra, .int 0, .ref m_methods, .ref m_packed, .ref m_sizes, .ref m_sums, .ref m_datas, .ref m_locals, .ref m_localEnds, .ref m_names, .ref m_nameSizes, .ref m_states, .ref m_starts, .ref m_counts, .ref m_written, .int 0, .int w1, .int w2, .int w3, .ref m_lengths, .ref m_small, .ref m_codes, .ref m_smallCodes, .int w4, .int w5, .int 0]))] H := hP
    have hD : va_D A [(h0, .inr (8, [.ref m_tape, .int 0, .int 0, .int ((0 : Int32).toInt64.toInt32), .int bu, .int ra, .int 0, .ref m_methods, .ref m_packed, .ref m_sizes, .ref m_sums, .ref m_datas, .ref m_locals, .ref m_localEnds, .ref m_names, .ref m_nameSizes, .ref m_states, .ref m_starts, .ref m_counts, .ref m_written, .int 0, .int w1, .int w2, .int w3, .ref m_lengths, .ref m_small, .ref m_codes, .ref m_smallCodes, .int w4, .int w5, .int 0]))] := hD
    refine lv_aload_n hx hb d_M_open_32 rfl (lv_at hl 1 rfl) ?_
    refine lv_aload_n hx hb d_M_open_33 rfl (lv_at hl 1 rfl) ?_
    refine va_get (ci := 8) (C := "ZipGuardModel") (T := F_M) (N := 31) hx hb ht zi_M hown hK hP 0 rfl rfl 2 (by decide) (ht _ zm_754) (fun _ h9 => h9) rfl d_M_open_34 ?_
    refine lv_if_eq (tgt := 44) hx hb d_M_open_37 (by decide) (fun _ => ?_) (fun h => absurd (by decide) h)
    refine lv_iconst (v := 0) hx hb d_M_open_44 (by decide) ?_
    refine va_put (ci := 8) (v := .int 0) (ty := .int) (C := "ZipGuardModel") (T := F_M) (N := 31) hx hb ht zi_M ty_M tk_M nm_M hown hK hP hD hS 0 rfl rfl 6 (by decide) (ht _ zm_758) (fun _ h9 => h9) rfl (by decide +kernel) rfl rfl (Nat.le_of_ble_eq_true rfl) d_M_open_45 (fun H locs hP hD hS => ?_)
    have hP : va_P D zcl [(h0, .inr (8, [.ref m_tape, .int 0, .int 0, .int ((0 : Int32).toInt64.toInt32), .int bu, .int ra, .int 0, .ref m_methods, .ref m_packed, .ref m_sizes, .ref m_sums, .ref m_datas, .ref m_locals, .ref m_localEnds, .ref m_names, .ref m_nameSizes, .ref m_states, .ref m_starts, .ref m_counts, .ref m_written, .int 0, .int w1, .int w2, .int w3, .ref m_lengths, .ref m_small, .ref m_codes, .ref m_smallCodes, .int w4, .int w5, .int 0]))] H := hP
    have hD : va_D A [(h0, .inr (8, [.ref m_tape, .int 0, .int 0, .int ((0 : Int32).toInt64.toInt32), .int bu, .int ra, .int 0, .ref m_methods, .ref m_packed, .ref m_sizes, .ref m_sums, .ref m_datas, .ref m_locals, .ref m_localEnds, .ref m_names, .ref m_nameSizes, .ref m_states, .ref m_starts, .ref m_counts, .ref m_written, .int 0, .int w1, .int w2, .int w3, .ref m_lengths, .ref m_small, .ref m_codes, .ref m_smallCodes, .int w4, .int w5, .int 0]))] := hD
    refine lv_iload_n hx hb d_M_open_48 rfl (lv_at hl 0 rfl) ?_
    exact zreti hx hb hr hlk hK hP hD hS () [0] [] rfl (by decide) rfl (rfl) (Nat.le_of_ble_eq_true rfl) (Nat.le_of_ble_eq_true rfl) d_M_open_49)
set_option maxHeartbeats 4000000 in
set_option maxRecDepth 100000 in
theorem c_M_place (l : Launch) (D : va_G) (sz : Nat) (h0 : Nat) (m_tape : Nat) (m_methods : Nat) (m_packed : Nat) (m_sizes : Nat) (m_sums : Nat) (m_datas : Nat) (m_locals : Nat) (m_localEnds : Nat) (m_names : Nat) (m_nameSizes : Nat) (m_states : Nat) (m_starts : Nat) (m_counts : Nat) (m_written : Nat) (m_lengths : Nat) (m_small : Nat) (m_codes : Nat) (m_smallCodes : Nat) (n0 : Int32) (op : Int32) (fp : Int32) (bu : Int32) (ra : Int32) (en : Int32) (to : Int32) (w1 : Int32) (w2 : Int32) (w3 : Int32) (w4 : Int32) (w5 : Int32) (th : Int32)  : Met l y_M_place (Cond.code y_M_place prog_10_method_26_code 1 (Option.some Jvm.ClassFile.FieldType.int) :: zt) { frames := 0, cells := 0, slots := 0, locals := 0 } (zPc [.ref h0] D [(h0, .inr (8, [.ref m_tape, .int n0, .int op, .int fp, .int bu, .int ra, .int en, .ref m_methods, .ref m_packed, .ref m_sizes, .ref m_sums, .ref m_datas, .ref m_locals, .ref m_localEnds, .ref m_names, .ref m_nameSizes, .ref m_states, .ref m_starts, .ref m_counts, .ref m_written, .int to, .int w1, .int w2, .int w3, .ref m_lengths, .ref m_small, .ref m_codes, .ref m_smallCodes, .int w4, .int w5, .int th]))] [] sz (fun _ => True)) (va_Qi (fun (r : Int32) => fun (_ : Unit) => r = fp) (fun u t => zB D ((fun (_ : Unit) => [(h0, .inr (8, [.ref m_tape, .int n0, .int op, .int fp, .int bu, .int ra, .int en, .ref m_methods, .ref m_packed, .ref m_sizes, .ref m_sums, .ref m_datas, .ref m_locals, .ref m_localEnds, .ref m_names, .ref m_nameSizes, .ref m_states, .ref m_starts, .ref m_counts, .ref m_written, .int to, .int w1, .int w2, .int w3, .ref m_lengths, .ref m_small, .ref m_codes, .ref m_smallCodes, .int w4, .int w5, .int 0]))]) u) ((fun (_ : Unit) => []) u) (va_A [(h0, .inr (8, [.ref m_tape, .int n0, .int op, .int fp, .int bu, .int ra, .int en, .ref m_methods, .ref m_packed, .ref m_sizes, .ref m_sums, .ref m_datas, .ref m_locals, .ref m_localEnds, .ref m_names, .ref m_nameSizes, .ref m_states, .ref m_starts, .ref m_counts, .ref m_written, .int to, .int w1, .int w2, .int w3, .ref m_lengths, .ref m_small, .ref m_codes, .ref m_smallCodes, .int w4, .int w5, .int th]))] sz) t) (va_A [(h0, .inr (8, [.ref m_tape, .int n0, .int op, .int fp, .int bu, .int ra, .int en, .ref m_methods, .ref m_packed, .ref m_sizes, .ref m_sums, .ref m_datas, .ref m_locals, .ref m_localEnds, .ref m_names, .ref m_nameSizes, .ref m_states, .ref m_starts, .ref m_counts, .ref m_written, .int to, .int w1, .int w2, .int w3, .ref m_lengths, .ref m_small, .ref m_codes, .ref m_smallCodes, .int w4, .int w5, .int th]))] sz)) 0 0 (va_A [(h0, .inr (8, [.ref m_tape, .int n0, .int op, .int fp, .int bu, .int ra, .int en, .ref m_methods, .ref m_packed, .ref m_sizes, .ref m_sums, .ref m_datas, .ref m_locals, .ref m_localEnds, .ref m_names, .ref m_nameSizes, .ref m_states, .ref m_starts, .ref m_counts, .ref m_written, .int to, .int w1, .int w2, .int w3, .ref m_lengths, .ref m_small, .ref m_codes, .ref m_smallCodes, .int w4, .int w5, .int th]))] sz) :=
  zMet (Qf := fun A => va_Qi (fun (r : Int32) => fun (_ : Unit) => r = fp) (fun u t => zB D ((fun (_ : Unit) => [(h0, .inr (8, [.ref m_tape, .int n0, .int op, .int fp, .int bu, .int ra, .int en, .ref m_methods, .ref m_packed, .ref m_sizes, .ref m_sums, .ref m_datas, .ref m_locals, .ref m_localEnds, .ref m_names, .ref m_nameSizes, .ref m_states, .ref m_starts, .ref m_counts, .ref m_written, .int to, .int w1, .int w2, .int w3, .ref m_lengths, .ref m_small, .ref m_codes, .ref m_smallCodes, .int w4, .int w5, .int 0]))]) u) ((fun (_ : Unit) => []) u) A t) A) (by decide) (Nat.le_of_ble_eq_true rfl) (fun p e s m below meth c A ls hx hb hr hml hown ht hlk hnm hA hK hP hD hX hl => by
    have hS : va_S A s.heap s.heap [] := va_S.rf
    have hl : lv_has ls 1 [(0, .ref h0)] := hl
    refine lv_aload_n hx hb d_M_place_0 rfl (lv_at hl 0 rfl) ?_
    refine lv_iconst (v := 0) hx hb d_M_place_1 (by decide) ?_
    refine va_put (ci := 8) (v := .int 0) (ty := .int) (C := "ZipGuardModel") (T := F_M) (N := 31) hx hb ht zi_M ty_M tk_M nm_M hown hK hP hD hS 0 rfl rfl 30 (by decide) (ht _ zm_782) (fun _ h9 => h9) rfl (by decide +kernel) rfl rfl (Nat.le_of_ble_eq_true rfl) d_M_place_2 (fun H locs hP hD hS => ?_)
    have hP : va_P D zcl [(h0, .inr (8, [.ref m_tape, .int n0, .int op, .int fp, .int bu, .int ra, .int en, .ref m_methods, .ref m_packed, .ref m_sizes, .ref m_sums, .ref m_datas, .ref m_locals, .ref m_localEnds, .ref m_names, .ref m_nameSizes, .ref m_states, .ref m_starts, .ref m_counts, .ref m_written, .int to, .int w1, .int w2, .int w3, .ref m_lengths, .ref m_small, .ref m_codes, .ref m_smallCodes, .int w4, .int w5, .int 0]))] H := hP
    have hD : va_D A [(h0, .inr (8, [.ref m_tape, .int n0, .int op, .int fp, .int bu, .int ra, .int en, .ref m_methods, .ref m_packed, .ref m_sizes, .ref m_sums, .ref m_datas, .ref m_locals, .ref m_localEnds, .ref m_names, .ref m_nameSizes, .ref m_states, .ref m_starts, .ref m_counts, .ref m_written, .int to, .int w1, .int w2, .int w3, .ref m_lengths, .ref m_small, .ref m_codes, .ref m_smallCodes, .int w4, .int w5, .int 0]))] := hD
    refine lv_aload_n hx hb d_M_place_5 rfl (lv_at hl 0 rfl) ?_
    refine va_get (ci := 8) (C := "ZipGuardModel") (T := F_M) (N := 31) hx hb ht zi_M hown hK hP 0 rfl rfl 3 (by decide) (ht _ zm_755) (fun _ h9 => h9) rfl d_M_place_6 ?_
    exact zreti hx hb hr hlk hK hP hD hS () [0] [] rfl (by decide) rfl (rfl) (Nat.le_of_ble_eq_true rfl) (Nat.le_of_ble_eq_true rfl) d_M_place_9)
set_option maxHeartbeats 4000000 in
set_option maxRecDepth 100000 in
theorem c_M_lim0 (l : Launch) (D : va_G) (sz : Nat) (h0 : Nat) (m_tape : Nat) (m_methods : Nat) (m_packed : Nat) (m_sizes : Nat) (m_sums : Nat) (m_datas : Nat) (m_locals : Nat) (m_localEnds : Nat) (m_names : Nat) (m_nameSizes : Nat) (m_states : Nat) (m_starts : Nat) (m_counts : Nat) (m_written : Nat) (m_lengths : Nat) (m_small : Nat) (m_codes : Nat) (m_smallCodes : Nat) (n0 : Int32) (op : Int32) (fp : Int32) (bu : Int32) (ra : Int32) (en : Int32) (to : Int32) (w1 : Int32) (w2 : Int32) (w3 : Int32) (w4 : Int32) (w5 : Int32) (th : Int32) (x : Int32) (y : Int32) (h1 : ¬ x < 0) (h2 : ¬ 40000 < x) (h3 : ¬ y < 0) (h4 : y ≤ 2000) : Met l y_M_limits (Cond.code y_M_limits prog_10_method_27_code 3 (Option.none : Option Jvm.ClassFile.FieldType) :: zt) { frames := 1, cells := 0, slots := 0, locals := 22 } (zPc [.ref h0, .int x, .int y] D [(h0, .inr (8, [.ref m_tape, .int n0, .int op, .int fp, .int bu, .int ra, .int en, .ref m_methods, .ref m_packed, .ref m_sizes, .ref m_sums, .ref m_datas, .ref m_locals, .ref m_localEnds, .ref m_names, .ref m_nameSizes, .ref m_states, .ref m_starts, .ref m_counts, .ref m_written, .int to, .int w1, .int w2, .int w3, .ref m_lengths, .ref m_small, .ref m_codes, .ref m_smallCodes, .int w4, .int w5, .int th]))] [] sz (fun _ => True)) (va_Qv (fun (_ : Unit) => True) (fun u t => zB D ((fun (_ : Unit) => [(h0, .inr (8, [.ref m_tape, .int n0, .int op, .int fp, .int x, .int y, .int en, .ref m_methods, .ref m_packed, .ref m_sizes, .ref m_sums, .ref m_datas, .ref m_locals, .ref m_localEnds, .ref m_names, .ref m_nameSizes, .ref m_states, .ref m_starts, .ref m_counts, .ref m_written, .int to, .int w1, .int w2, .int w3, .ref m_lengths, .ref m_small, .ref m_codes, .ref m_smallCodes, .int w4, .int w5, .int 0]))]) u) ((fun (_ : Unit) => []) u) (va_A [(h0, .inr (8, [.ref m_tape, .int n0, .int op, .int fp, .int bu, .int ra, .int en, .ref m_methods, .ref m_packed, .ref m_sizes, .ref m_sums, .ref m_datas, .ref m_locals, .ref m_localEnds, .ref m_names, .ref m_nameSizes, .ref m_states, .ref m_starts, .ref m_counts, .ref m_written, .int to, .int w1, .int w2, .int w3, .ref m_lengths, .ref m_small, .ref m_codes, .ref m_smallCodes, .int w4, .int w5, .int th]))] sz) t) (va_A [(h0, .inr (8, [.ref m_tape, .int n0, .int op, .int fp, .int bu, .int ra, .int en, .ref m_methods, .ref m_packed, .ref m_sizes, .ref m_sums, .ref m_datas, .ref m_locals, .ref m_localEnds, .ref m_names, .ref m_nameSizes, .ref m_states, .ref m_starts, .ref m_counts, .ref m_written, .int to, .int w1, .int w2, .int w3, .ref m_lengths, .ref m_small, .ref m_codes, .ref m_smallCodes, .int w4, .int w5, .int th]))] sz)) 0 0 (va_A [(h0, .inr (8, [.ref m_tape, .int n0, .int op, .int fp, .int bu, .int ra, .int en, .ref m_methods, .ref m_packed, .ref m_sizes, .ref m_sums, .ref m_datas, .ref m_locals, .ref m_localEnds, .ref m_names, .ref m_nameSizes, .ref m_states, .ref m_starts, .ref m_counts, .ref m_written, .int to, .int w1, .int w2, .int w3, .ref m_lengths, .ref m_small, .ref m_codes, .ref m_smallCodes, .int w4, .int w5, .int th]))] sz) :=
  zMet (Qf := fun A => va_Qv (fun (_ : Unit) => True) (fun u t => zB D ((fun (_ : Unit) => [(h0, .inr (8, [.ref m_tape, .int n0, .int op, .int fp, .int x, .int y, .int en, .ref m_methods, .ref m_packed, .ref m_sizes, .ref m_sums, .ref m_datas, .ref m_locals, .ref m_localEnds, .ref m_names, .ref m_nameSizes, .ref m_states, .ref m_starts, .ref m_counts, .ref m_written, .int to, .int w1, .int w2, .int w3, .ref m_lengths, .ref m_small, .ref m_codes, .ref m_smallCodes, .int w4, .int w5, .int 0]))]) u) ((fun (_ : Unit) => []) u) A t) A) (by decide) (Nat.le_of_ble_eq_true rfl) (fun p e s m below meth c A ls hx hb hr hml hown ht hlk hnm hA hK hP hD hX hl => by
    have hS : va_S A s.heap s.heap [] := va_S.rf
    have hl : lv_has ls 3 [(0, .ref h0), (1, .int x), (2, .int y)] := hl
    refine lv_aload_n hx hb d_M_limits_0 rfl (lv_at hl 0 rfl) ?_
    refine lv_iload_n hx hb d_M_limits_1 rfl (lv_at hl 1 rfl) ?_
    refine lv_if_lt (tgt := 22) hx hb d_M_limits_2 (by decide) (fun h => absurd h (h1)) (fun _ => ?_)
    refine lv_iload_n hx hb d_M_limits_5 rfl (lv_at hl 1 rfl) ?_
    refine lv_ldc (v := 40000) hx hb hown (ht _ zm_751) d_M_limits_6 ?_
    refine lv_icmp_gt (tgt := 22) hx hb d_M_limits_8 (by decide) (fun h => absurd h (h2)) (fun _ => ?_)
    refine lv_iload_n hx hb d_M_limits_11 rfl (lv_at hl 2 rfl) ?_
    refine lv_if_lt (tgt := 22) hx hb d_M_limits_12 (by decide) (fun h => absurd h (h3)) (fun _ => ?_)
    refine lv_iload_n hx hb d_M_limits_15 rfl (lv_at hl 2 rfl) ?_
    refine lv_sipush (v := 2000) hx hb d_M_limits_16 (by decide) ?_
    refine lv_icmp_le (tgt := 26) hx hb d_M_limits_19 (by decide) (fun _ => ?_) (fun h => absurd (h4) h)
    refine lv_iconst (v := 0) hx hb d_M_limits_26 (by decide) ?_
    refine lv_iconst (v := 1) hx hb d_M_limits_27 (by decide) ?_
    refine zji (wr := []) (va_runV (As := [.int 0, .int 1]) (rest := []) ⟨hx, hb, hml, hown, ht⟩ (c_M_f0 l D _ h0 m_tape m_methods m_packed m_sizes m_sums m_datas m_locals m_localEnds m_names m_nameSizes m_states m_starts m_counts m_written m_lengths m_small m_codes m_smallCodes n0 op fp bu ra en to w1 w2 w3 w4 w5 th 1 ) (cwV 2 ht (zt_goodV zm_855 zm_856 zm_30 zm_79 zm_857) rfl rfl rfl (by decide +kernel) ⟨Nat.le_of_ble_eq_true rfl, Nat.le_of_ble_eq_true rfl⟩) (zpreV zBlind_t hK hP hD [0] [] rfl (by decide) rfl (fun _ _ _ => trivial) (va_recv (q := ("ZipGuardModel", F_M, 31)) hK hP rfl (q0 := 0) (ci := 8) rfl)) rfl rfl hl.1 rfl (lv_room (Nat.le_of_ble_eq_true rfl)) d_M_limits_28 ⟨Nat.le_of_ble_eq_true rfl, Nat.le_of_ble_eq_true rfl⟩) hK hP hD hS hA [0] [] rfl rfl (by decide) (by decide) (fun r5 u H locs hp6 hP hD hK hS => ?_)
    have hP : va_P D zcl [(h0, .inr (8, [.ref m_tape, .int n0, .int op, .int fp, .int bu, .int ra, .int en, .ref m_methods, .ref m_packed, .ref m_sizes, .ref m_sums, .ref m_datas, .ref m_locals, .ref m_localEnds, .ref m_names, .ref m_nameSizes, .ref m_states, .ref m_starts, .ref m_counts, .ref m_written, .int to, .int w1, .int w2, .int w3, .ref m_lengths, .ref m_small, .ref m_codes, .ref m_smallCodes, .int w4, .int w5, .int 0]))] H := hP
    have hD : va_D A [(h0, .inr (8, [.ref m_tape, .int n0, .int op, .int fp, .int bu, .int ra, .int en, .ref m_methods, .ref m_packed, .ref m_sizes, .ref m_sums, .ref m_datas, .ref m_locals, .ref m_localEnds, .ref m_names, .ref m_nameSizes, .ref m_states, .ref m_starts, .ref m_counts, .ref m_written, .int to, .int w1, .int w2, .int w3, .ref m_lengths, .ref m_small, .ref m_codes, .ref m_smallCodes, .int w4, .int w5, .int 0]))] := hD
    have hK : va_K D zcl [] s := hK
    subst hp6
    refine lv_if_eq (tgt := 35) hx hb d_M_limits_31 (by decide) (fun _ => ?_) (fun h => absurd (by decide) h)
    refine lv_aload_n hx hb d_M_limits_35 rfl (lv_at hl 0 rfl) ?_
    refine lv_iload_n hx hb d_M_limits_36 rfl (lv_at hl 1 rfl) ?_
    refine va_put (ci := 8) (v := .int x) (ty := .int) (C := "ZipGuardModel") (T := F_M) (N := 31) hx hb ht zi_M ty_M tk_M nm_M hown hK hP hD hS 0 rfl rfl 4 (by decide) (ht _ zm_756) (fun _ h9 => h9) rfl (by decide +kernel) rfl rfl (Nat.le_of_ble_eq_true rfl) d_M_limits_37 (fun H locs hP hD hS => ?_)
    have hP : va_P D zcl [(h0, .inr (8, [.ref m_tape, .int n0, .int op, .int fp, .int x, .int ra, .int en, .ref m_methods, .ref m_packed, .ref m_sizes, .ref m_sums, .ref m_datas, .ref m_locals, .ref m_localEnds, .ref m_names, .ref m_nameSizes, .ref m_states, .ref m_starts, .ref m_counts, .ref m_written, .int to, .int w1, .int w2, .int w3, .ref m_lengths, .ref m_small, .ref m_codes, .ref m_smallCodes, .int w4, .int w5, .int 0]))] H := hP
    have hD : va_D A [(h0, .inr (8, [.ref m_tape, .int n0, .int op, .int fp, .int x, .int ra, .int en, .ref m_methods, .ref m_packed, .ref m_sizes, .ref m_sums, .ref m_datas, .ref m_locals, .ref m_localEnds, .ref m_names, .ref m_nameSizes, .ref m_states, .ref m_starts, .ref m_counts, .ref m_written, .int to, .int w1, .int w2, .int w3, .ref m_lengths, .ref m_small, .ref m_codes, .ref m_smallCodes, .int w4, .int w5, .int 0]))] := hD
    refine lv_aload_n hx hb d_M_limits_40 rfl (lv_at hl 0 rfl) ?_
    refine lv_iload_n hx hb d_M_limits_41 rfl (lv_at hl 2 rfl) ?_
    refine va_put (ci := 8) (v := .int y) (ty := .int) (C := "ZipGuardModel") (T := F_M) (N := 31) hx hb ht zi_M ty_M tk_M nm_M hown hK hP hD hS 0 rfl rfl 5 (by decide) (ht _ zm_757) (fun _ h9 => h9) rfl (by decide +kernel) rfl rfl (Nat.le_of_ble_eq_true rfl) d_M_limits_42 (fun H locs hP hD hS => ?_)
    have hP : va_P D zcl [(h0, .inr (8, [.ref m_tape, .int n0, .int op, .int fp, .int x, .int y, .int en, .ref m_methods, .ref m_packed, .ref m_sizes, .ref m_sums, .ref m_datas, .ref m_locals, .ref m_localEnds, .ref m_names, .ref m_nameSizes, .ref m_states, .ref m_starts, .ref m_counts, .ref m_written, .int to, .int w1, .int w2, .int w3, .ref m_lengths, .ref m_small, .ref m_codes, .ref m_smallCodes, .int w4, .int w5, .int 0]))] H := hP
    have hD : va_D A [(h0, .inr (8, [.ref m_tape, .int n0, .int op, .int fp, .int x, .int y, .int en, .ref m_methods, .ref m_packed, .ref m_sizes, .ref m_sums, .ref m_datas, .ref m_locals, .ref m_localEnds, .ref m_names, .ref m_nameSizes, .ref m_states, .ref m_starts, .ref m_counts, .ref m_written, .int to, .int w1, .int w2, .int w3, .ref m_lengths, .ref m_small, .ref m_codes, .ref m_smallCodes, .int w4, .int w5, .int 0]))] := hD
    exact zretv hx hb hr hlk hK hP hD hS () [0] [] rfl (by decide) rfl (trivial) (Nat.le_of_ble_eq_true rfl) (Nat.le_of_ble_eq_true rfl) d_M_limits_45)
set_option maxHeartbeats 4000000 in
set_option maxRecDepth 100000 in
theorem c_M_lim1 (l : Launch) (D : va_G) (sz : Nat) (h0 : Nat) (m_tape : Nat) (m_methods : Nat) (m_packed : Nat) (m_sizes : Nat) (m_sums : Nat) (m_datas : Nat) (m_locals : Nat) (m_localEnds : Nat) (m_names : Nat) (m_nameSizes : Nat) (m_states : Nat) (m_starts : Nat) (m_counts : Nat) (m_written : Nat) (m_lengths : Nat) (m_small : Nat) (m_codes : Nat) (m_smallCodes : Nat) (n0 : Int32) (op : Int32) (fp : Int32) (bu : Int32) (ra : Int32) (en : Int32) (to : Int32) (w1 : Int32) (w2 : Int32) (w3 : Int32) (w4 : Int32) (w5 : Int32) (th : Int32) (x : Int32) (y : Int32) (hbad : x < 0 ∨ 40000 < x ∨ y < 0 ∨ ¬ y ≤ 2000) : Met l y_M_limits (Cond.code y_M_limits prog_10_method_27_code 3 (Option.none : Option Jvm.ClassFile.FieldType) :: zt) { frames := 1, cells := 0, slots := 0, locals := 22 } (zPc [.ref h0, .int x, .int y] D [(h0, .inr (8, [.ref m_tape, .int n0, .int op, .int fp, .int bu, .int ra, .int en, .ref m_methods, .ref m_packed, .ref m_sizes, .ref m_sums, .ref m_datas, .ref m_locals, .ref m_localEnds, .ref m_names, .ref m_nameSizes, .ref m_states, .ref m_starts, .ref m_counts, .ref m_written, .int to, .int w1, .int w2, .int w3, .ref m_lengths, .ref m_small, .ref m_codes, .ref m_smallCodes, .int w4, .int w5, .int th]))] [] sz (fun _ => True)) (va_Qv (fun (_ : Unit) => True) (fun u t => zB D ((fun (_ : Unit) => [(h0, .inr (8, [.ref m_tape, .int n0, .int op, .int fp, .int bu, .int ra, .int en, .ref m_methods, .ref m_packed, .ref m_sizes, .ref m_sums, .ref m_datas, .ref m_locals, .ref m_localEnds, .ref m_names, .ref m_nameSizes, .ref m_states, .ref m_starts, .ref m_counts, .ref m_written, .int to, .int w1, .int w2, .int w3, .ref m_lengths, .ref m_small, .ref m_codes, .ref m_smallCodes, .int w4, .int w5, .int 1]))]) u) ((fun (_ : Unit) => []) u) (va_A [(h0, .inr (8, [.ref m_tape, .int n0, .int op, .int fp, .int bu, .int ra, .int en, .ref m_methods, .ref m_packed, .ref m_sizes, .ref m_sums, .ref m_datas, .ref m_locals, .ref m_localEnds, .ref m_names, .ref m_nameSizes, .ref m_states, .ref m_starts, .ref m_counts, .ref m_written, .int to, .int w1, .int w2, .int w3, .ref m_lengths, .ref m_small, .ref m_codes, .ref m_smallCodes, .int w4, .int w5, .int th]))] sz) t) (va_A [(h0, .inr (8, [.ref m_tape, .int n0, .int op, .int fp, .int bu, .int ra, .int en, .ref m_methods, .ref m_packed, .ref m_sizes, .ref m_sums, .ref m_datas, .ref m_locals, .ref m_localEnds, .ref m_names, .ref m_nameSizes, .ref m_states, .ref m_starts, .ref m_counts, .ref m_written, .int to, .int w1, .int w2, .int w3, .ref m_lengths, .ref m_small, .ref m_codes, .ref m_smallCodes, .int w4, .int w5, .int th]))] sz)) 0 0 (va_A [(h0, .inr (8, [.ref m_tape, .int n0, .int op, .int fp, .int bu, .int ra, .int en, .ref m_methods, .ref m_packed, .ref m_sizes, .ref m_sums, .ref m_datas, .ref m_locals, .ref m_localEnds, .ref m_names, .ref m_nameSizes, .ref m_states, .ref m_starts, .ref m_counts, .ref m_written, .int to, .int w1, .int w2, .int w3, .ref m_lengths, .ref m_small, .ref m_codes, .ref m_smallCodes, .int w4, .int w5, .int th]))] sz) :=
  zMet (Qf := fun A => va_Qv (fun (_ : Unit) => True) (fun u t => zB D ((fun (_ : Unit) => [(h0, .inr (8, [.ref m_tape, .int n0, .int op, .int fp, .int bu, .int ra, .int en, .ref m_methods, .ref m_packed, .ref m_sizes, .ref m_sums, .ref m_datas, .ref m_locals, .ref m_localEnds, .ref m_names, .ref m_nameSizes, .ref m_states, .ref m_starts, .ref m_counts, .ref m_written, .int to, .int w1, .int w2, .int w3, .ref m_lengths, .ref m_small, .ref m_codes, .ref m_smallCodes, .int w4, .int w5, .int 1]))]) u) ((fun (_ : Unit) => []) u) A t) A) (by decide) (Nat.le_of_ble_eq_true rfl) (fun p e s m below meth c A ls hx hb hr hml hown ht hlk hnm hA hK hP hD hX hl => by
    have hS : va_S A s.heap s.heap [] := va_S.rf
    have hl : lv_has ls 3 [(0, .ref h0), (1, .int x), (2, .int y)] := hl
    refine lv_aload_n hx hb d_M_limits_0 rfl (lv_at hl 0 rfl) ?_
    refine lv_iload_n hx hb d_M_limits_1 rfl (lv_at hl 1 rfl) ?_
    refine lv_if_lt (tgt := 22) hx hb d_M_limits_2 (by decide) (fun hc1 => ?_) (fun hc1 => ?_)
    · skip
      refine lv_iconst (v := 1) hx hb d_M_limits_22 (by decide) ?_
      refine lv_goto (tgt := 27) hx hb d_M_limits_23 (by decide) ?_
      refine lv_iconst (v := 1) hx hb d_M_limits_27 (by decide) ?_
      refine zji (wr := []) (va_runV (As := [.int 1, .int 1]) (rest := []) ⟨hx, hb, hml, hown, ht⟩ (c_M_f1 l D _ h0 m_tape m_methods m_packed m_sizes m_sums m_datas m_locals m_localEnds m_names m_nameSizes m_states m_starts m_counts m_written m_lengths m_small m_codes m_smallCodes n0 op fp bu ra en to w1 w2 w3 w4 w5 th 1 ) (cwV 2 ht (zt_goodV zm_855 zm_856 zm_30 zm_79 zm_857) rfl rfl rfl (by decide +kernel) ⟨Nat.le_of_ble_eq_true rfl, Nat.le_of_ble_eq_true rfl⟩) (zpreV zBlind_t hK hP hD [0] [] rfl (by decide) rfl (fun _ _ _ => trivial) (va_recv (q := ("ZipGuardModel", F_M, 31)) hK hP rfl (q0 := 0) (ci := 8) rfl)) rfl rfl hl.1 rfl (lv_room (Nat.le_of_ble_eq_true rfl)) d_M_limits_28 ⟨Nat.le_of_ble_eq_true rfl, Nat.le_of_ble_eq_true rfl⟩) hK hP hD hS hA [0] [] rfl rfl (by decide) (by decide) (fun r2 u H locs hp3 hP hD hK hS => ?_)
      have hP : va_P D zcl [(h0, .inr (8, [.ref m_tape, .int n0, .int op, .int fp, .int bu, .int ra, .int en, .ref m_methods, .ref m_packed, .ref m_sizes, .ref m_sums, .ref m_datas, .ref m_locals, .ref m_localEnds, .ref m_names, .ref m_nameSizes, .ref m_states, .ref m_starts, .ref m_counts, .ref m_written, .int to, .int w1, .int w2, .int w3, .ref m_lengths, .ref m_small, .ref m_codes, .ref m_smallCodes, .int w4, .int w5, .int 1]))] H := hP
      have hD : va_D A [(h0, .inr (8, [.ref m_tape, .int n0, .int op, .int fp, .int bu, .int ra, .int en, .ref m_methods, .ref m_packed, .ref m_sizes, .ref m_sums, .ref m_datas, .ref m_locals, .ref m_localEnds, .ref m_names, .ref m_nameSizes, .ref m_states, .ref m_starts, .ref m_counts, .ref m_written, .int to, .int w1, .int w2, .int w3, .ref m_lengths, .ref m_small, .ref m_codes, .ref m_smallCodes, .int w4, .int w5, .int 1]))] := hD
      have hK : va_K D zcl [] s := hK
      subst hp3
      refine lv_if_eq (tgt := 35) hx hb d_M_limits_31 (by decide) (fun h => absurd h (by decide)) (fun _ => ?_)
      exact zretv hx hb hr hlk hK hP hD hS () [0] [] rfl (by decide) rfl (trivial) (Nat.le_of_ble_eq_true rfl) (Nat.le_of_ble_eq_true rfl) d_M_limits_34
    · skip
      refine lv_iload_n hx hb d_M_limits_5 rfl (lv_at hl 1 rfl) ?_
      refine lv_ldc (v := 40000) hx hb hown (ht _ zm_751) d_M_limits_6 ?_
      refine lv_icmp_gt (tgt := 22) hx hb d_M_limits_8 (by decide) (fun hc5 => ?_) (fun hc5 => ?_)
      · skip
        refine lv_iconst (v := 1) hx hb d_M_limits_22 (by decide) ?_
        refine lv_goto (tgt := 27) hx hb d_M_limits_23 (by decide) ?_
        refine lv_iconst (v := 1) hx hb d_M_limits_27 (by decide) ?_
        refine zji (wr := []) (va_runV (As := [.int 1, .int 1]) (rest := []) ⟨hx, hb, hml, hown, ht⟩ (c_M_f1 l D _ h0 m_tape m_methods m_packed m_sizes m_sums m_datas m_locals m_localEnds m_names m_nameSizes m_states m_starts m_counts m_written m_lengths m_small m_codes m_smallCodes n0 op fp bu ra en to w1 w2 w3 w4 w5 th 1 ) (cwV 2 ht (zt_goodV zm_855 zm_856 zm_30 zm_79 zm_857) rfl rfl rfl (by decide +kernel) ⟨Nat.le_of_ble_eq_true rfl, Nat.le_of_ble_eq_true rfl⟩) (zpreV zBlind_t hK hP hD [0] [] rfl (by decide) rfl (fun _ _ _ => trivial) (va_recv (q := ("ZipGuardModel", F_M, 31)) hK hP rfl (q0 := 0) (ci := 8) rfl)) rfl rfl hl.1 rfl (lv_room (Nat.le_of_ble_eq_true rfl)) d_M_limits_28 ⟨Nat.le_of_ble_eq_true rfl, Nat.le_of_ble_eq_true rfl⟩) hK hP hD hS hA [0] [] rfl rfl (by decide) (by decide) (fun r6 u H locs hp7 hP hD hK hS => ?_)
        have hP : va_P D zcl [(h0, .inr (8, [.ref m_tape, .int n0, .int op, .int fp, .int bu, .int ra, .int en, .ref m_methods, .ref m_packed, .ref m_sizes, .ref m_sums, .ref m_datas, .ref m_locals, .ref m_localEnds, .ref m_names, .ref m_nameSizes, .ref m_states, .ref m_starts, .ref m_counts, .ref m_written, .int to, .int w1, .int w2, .int w3, .ref m_lengths, .ref m_small, .ref m_codes, .ref m_smallCodes, .int w4, .int w5, .int 1]))] H := hP
        have hD : va_D A [(h0, .inr (8, [.ref m_tape, .int n0, .int op, .int fp, .int bu, .int ra, .int en, .ref m_methods, .ref m_packed, .ref m_sizes, .ref m_sums, .ref m_datas, .ref m_locals, .ref m_localEnds, .ref m_names, .ref m_nameSizes, .ref m_states, .ref m_starts, .ref m_counts, .ref m_written, .int to, .int w1, .int w2, .int w3, .ref m_lengths, .ref m_small, .ref m_codes, .ref m_smallCodes, .int w4, .int w5, .int 1]))] := hD
        have hK : va_K D zcl [] s := hK
        subst hp7
        refine lv_if_eq (tgt := 35) hx hb d_M_limits_31 (by decide) (fun h => absurd h (by decide)) (fun _ => ?_)
        exact zretv hx hb hr hlk hK hP hD hS () [0] [] rfl (by decide) rfl (trivial) (Nat.le_of_ble_eq_true rfl) (Nat.le_of_ble_eq_true rfl) d_M_limits_34
      · skip
        refine lv_iload_n hx hb d_M_limits_11 rfl (lv_at hl 2 rfl) ?_
        refine lv_if_lt (tgt := 22) hx hb d_M_limits_12 (by decide) (fun hc9 => ?_) (fun hc9 => ?_)
        · skip
          refine lv_iconst (v := 1) hx hb d_M_limits_22 (by decide) ?_
          refine lv_goto (tgt := 27) hx hb d_M_limits_23 (by decide) ?_
          refine lv_iconst (v := 1) hx hb d_M_limits_27 (by decide) ?_
          refine zji (wr := []) (va_runV (As := [.int 1, .int 1]) (rest := []) ⟨hx, hb, hml, hown, ht⟩ (c_M_f1 l D _ h0 m_tape m_methods m_packed m_sizes m_sums m_datas m_locals m_localEnds m_names m_nameSizes m_states m_starts m_counts m_written m_lengths m_small m_codes m_smallCodes n0 op fp bu ra en to w1 w2 w3 w4 w5 th 1 ) (cwV 2 ht (zt_goodV zm_855 zm_856 zm_30 zm_79 zm_857) rfl rfl rfl (by decide +kernel) ⟨Nat.le_of_ble_eq_true rfl, Nat.le_of_ble_eq_true rfl⟩) (zpreV zBlind_t hK hP hD [0] [] rfl (by decide) rfl (fun _ _ _ => trivial) (va_recv (q := ("ZipGuardModel", F_M, 31)) hK hP rfl (q0 := 0) (ci := 8) rfl)) rfl rfl hl.1 rfl (lv_room (Nat.le_of_ble_eq_true rfl)) d_M_limits_28 ⟨Nat.le_of_ble_eq_true rfl, Nat.le_of_ble_eq_true rfl⟩) hK hP hD hS hA [0] [] rfl rfl (by decide) (by decide) (fun r10 u H locs hp11 hP hD hK hS => ?_)
          have hP : va_P D zcl [(h0, .inr (8, [.ref m_tape, .int n0, .int op, .int fp, .int bu, .int ra, .int en, .ref m_methods, .ref m_packed, .ref m_sizes, .ref m_sums, .ref m_datas, .ref m_locals, .ref m_localEnds, .ref m_names, .ref m_nameSizes, .ref m_states, .ref m_starts, .ref m_counts, .ref m_written, .int to, .int w1, .int w2, .int w3, .ref m_lengths, .ref m_small, .ref m_codes, .ref m_smallCodes, .int w4, .int w5, .int 1]))] H := hP
          have hD : va_D A [(h0, .inr (8, [.ref m_tape, .int n0, .int op, .int fp, .int bu, .int ra, .int en, .ref m_methods, .ref m_packed, .ref m_sizes, .ref m_sums, .ref m_datas, .ref m_locals, .ref m_localEnds, .ref m_names, .ref m_nameSizes, .ref m_states, .ref m_starts, .ref m_counts, .ref m_written, .int to, .int w1, .int w2, .int w3, .ref m_lengths, .ref m_small, .ref m_codes, .ref m_smallCodes, .int w4, .int w5, .int 1]))] := hD
          have hK : va_K D zcl [] s := hK
          subst hp11
          refine lv_if_eq (tgt := 35) hx hb d_M_limits_31 (by decide) (fun h => absurd h (by decide)) (fun _ => ?_)
          exact zretv hx hb hr hlk hK hP hD hS () [0] [] rfl (by decide) rfl (trivial) (Nat.le_of_ble_eq_true rfl) (Nat.le_of_ble_eq_true rfl) d_M_limits_34
        · skip
          refine lv_iload_n hx hb d_M_limits_15 rfl (lv_at hl 2 rfl) ?_
          refine lv_sipush (v := 2000) hx hb d_M_limits_16 (by decide) ?_
          refine lv_icmp_le (tgt := 26) hx hb d_M_limits_19 (by decide) (fun h => absurd h (((hbad.resolve_left hc1).resolve_left hc5).resolve_left hc9)) (fun _ => ?_)
          refine lv_iconst (v := 1) hx hb d_M_limits_22 (by decide) ?_
          refine lv_goto (tgt := 27) hx hb d_M_limits_23 (by decide) ?_
          refine lv_iconst (v := 1) hx hb d_M_limits_27 (by decide) ?_
          refine zji (wr := []) (va_runV (As := [.int 1, .int 1]) (rest := []) ⟨hx, hb, hml, hown, ht⟩ (c_M_f1 l D _ h0 m_tape m_methods m_packed m_sizes m_sums m_datas m_locals m_localEnds m_names m_nameSizes m_states m_starts m_counts m_written m_lengths m_small m_codes m_smallCodes n0 op fp bu ra en to w1 w2 w3 w4 w5 th 1 ) (cwV 2 ht (zt_goodV zm_855 zm_856 zm_30 zm_79 zm_857) rfl rfl rfl (by decide +kernel) ⟨Nat.le_of_ble_eq_true rfl, Nat.le_of_ble_eq_true rfl⟩) (zpreV zBlind_t hK hP hD [0] [] rfl (by decide) rfl (fun _ _ _ => trivial) (va_recv (q := ("ZipGuardModel", F_M, 31)) hK hP rfl (q0 := 0) (ci := 8) rfl)) rfl rfl hl.1 rfl (lv_room (Nat.le_of_ble_eq_true rfl)) d_M_limits_28 ⟨Nat.le_of_ble_eq_true rfl, Nat.le_of_ble_eq_true rfl⟩) hK hP hD hS hA [0] [] rfl rfl (by decide) (by decide) (fun r14 u H locs hp15 hP hD hK hS => ?_)
          have hP : va_P D zcl [(h0, .inr (8, [.ref m_tape, .int n0, .int op, .int fp, .int bu, .int ra, .int en, .ref m_methods, .ref m_packed, .ref m_sizes, .ref m_sums, .ref m_datas, .ref m_locals, .ref m_localEnds, .ref m_names, .ref m_nameSizes, .ref m_states, .ref m_starts, .ref m_counts, .ref m_written, .int to, .int w1, .int w2, .int w3, .ref m_lengths, .ref m_small, .ref m_codes, .ref m_smallCodes, .int w4, .int w5, .int 1]))] H := hP
          have hD : va_D A [(h0, .inr (8, [.ref m_tape, .int n0, .int op, .int fp, .int bu, .int ra, .int en, .ref m_methods, .ref m_packed, .ref m_sizes, .ref m_sums, .ref m_datas, .ref m_locals, .ref m_localEnds, .ref m_names, .ref m_nameSizes, .ref m_states, .ref m_starts, .ref m_counts, .ref m_written, .int to, .int w1, .int w2, .int w3, .ref m_lengths, .ref m_small, .ref m_codes, .ref m_smallCodes, .int w4, .int w5, .int 1]))] := hD
          have hK : va_K D zcl [] s := hK
          subst hp15
          refine lv_if_eq (tgt := 35) hx hb d_M_limits_31 (by decide) (fun h => absurd h (by decide)) (fun _ => ?_)
          exact zretv hx hb hr hlk hK hP hD hS () [0] [] rfl (by decide) rfl (trivial) (Nat.le_of_ble_eq_true rfl) (Nat.le_of_ble_eq_true rfl) d_M_limits_34)
set_option maxHeartbeats 4000000 in
set_option maxRecDepth 100000 in
theorem c_M_take1 (l : Launch) (D : va_G) (sz : Nat) (h0 : Nat) (m_tape : Nat) (m_methods : Nat) (m_packed : Nat) (m_sizes : Nat) (m_sums : Nat) (m_datas : Nat) (m_locals : Nat) (m_localEnds : Nat) (m_names : Nat) (m_nameSizes : Nat) (m_states : Nat) (m_starts : Nat) (m_counts : Nat) (m_written : Nat) (m_lengths : Nat) (m_small : Nat) (m_codes : Nat) (m_smallCodes : Nat) (n0 : Int32) (fp : Int32) (bu : Int32) (ra : Int32) (en : Int32) (to : Int32) (w1 : Int32) (w2 : Int32) (w3 : Int32) (w4 : Int32) (w5 : Int32) (th : Int32) (n : Int32)  : Met l y_M_take (Cond.code y_M_take prog_10_method_47_code 2 (Option.some Jvm.ClassFile.FieldType.int) :: zt) { frames := 1, cells := 0, slots := 0, locals := 22 } (zPc [.ref h0, .int n] D [(h0, .inr (8, [.ref m_tape, .int n0, .int 0, .int fp, .int bu, .int ra, .int en, .ref m_methods, .ref m_packed, .ref m_sizes, .ref m_sums, .ref m_datas, .ref m_locals, .ref m_localEnds, .ref m_names, .ref m_nameSizes, .ref m_states, .ref m_starts, .ref m_counts, .ref m_written, .int to, .int w1, .int w2, .int w3, .ref m_lengths, .ref m_small, .ref m_codes, .ref m_smallCodes, .int w4, .int w5, .int th]))] [] sz (fun _ => True)) (va_Qi (fun (r : Int32) => fun (_ : Unit) => True) (fun u t => zB D ((fun (_ : Unit) => [(h0, .inr (8, [.ref m_tape, .int n0, .int 0, .int fp, .int bu, .int ra, .int en, .ref m_methods, .ref m_packed, .ref m_sizes, .ref m_sums, .ref m_datas, .ref m_locals, .ref m_localEnds, .ref m_names, .ref m_nameSizes, .ref m_states, .ref m_starts, .ref m_counts, .ref m_written, .int to, .int w1, .int w2, .int w3, .ref m_lengths, .ref m_small, .ref m_codes, .ref m_smallCodes, .int w4, .int w5, .int 1]))]) u) ((fun (_ : Unit) => []) u) (va_A [(h0, .inr (8, [.ref m_tape, .int n0, .int 0, .int fp, .int bu, .int ra, .int en, .ref m_methods, .ref m_packed, .ref m_sizes, .ref m_sums, .ref m_datas, .ref m_locals, .ref m_localEnds, .ref m_names, .ref m_nameSizes, .ref m_states, .ref m_starts, .ref m_counts, .ref m_written, .int to, .int w1, .int w2, .int w3, .ref m_lengths, .ref m_small, .ref m_codes, .ref m_smallCodes, .int w4, .int w5, .int th]))] sz) t) (va_A [(h0, .inr (8, [.ref m_tape, .int n0, .int 0, .int fp, .int bu, .int ra, .int en, .ref m_methods, .ref m_packed, .ref m_sizes, .ref m_sums, .ref m_datas, .ref m_locals, .ref m_localEnds, .ref m_names, .ref m_nameSizes, .ref m_states, .ref m_starts, .ref m_counts, .ref m_written, .int to, .int w1, .int w2, .int w3, .ref m_lengths, .ref m_small, .ref m_codes, .ref m_smallCodes, .int w4, .int w5, .int th]))] sz)) 0 0 (va_A [(h0, .inr (8, [.ref m_tape, .int n0, .int 0, .int fp, .int bu, .int ra, .int en, .ref m_methods, .ref m_packed, .ref m_sizes, .ref m_sums, .ref m_datas, .ref m_locals, .ref m_localEnds, .ref m_names, .ref m_nameSizes, .ref m_states, .ref m_starts, .ref m_counts, .ref m_written, .int to, .int w1, .int w2, .int w3, .ref m_lengths, .ref m_small, .ref m_codes, .ref m_smallCodes, .int w4, .int w5, .int th]))] sz) :=
  zMet (Qf := fun A => va_Qi (fun (r : Int32) => fun (_ : Unit) => True) (fun u t => zB D ((fun (_ : Unit) => [(h0, .inr (8, [.ref m_tape, .int n0, .int 0, .int fp, .int bu, .int ra, .int en, .ref m_methods, .ref m_packed, .ref m_sizes, .ref m_sums, .ref m_datas, .ref m_locals, .ref m_localEnds, .ref m_names, .ref m_nameSizes, .ref m_states, .ref m_starts, .ref m_counts, .ref m_written, .int to, .int w1, .int w2, .int w3, .ref m_lengths, .ref m_small, .ref m_codes, .ref m_smallCodes, .int w4, .int w5, .int 1]))]) u) ((fun (_ : Unit) => []) u) A t) A) (by decide) (Nat.le_of_ble_eq_true rfl) (fun p e s m below meth c A ls hx hb hr hml hown ht hlk hnm hA hK hP hD hX hl => by
    have hS : va_S A s.heap s.heap [] := va_S.rf
    have hl : lv_has ls 2 [(0, .ref h0), (1, .int n)] := hl
    refine lv_aload_n hx hb d_M_take_0 rfl (lv_at hl 0 rfl) ?_
    refine lv_aload_n hx hb d_M_take_1 rfl (lv_at hl 0 rfl) ?_
    refine va_get (ci := 8) (C := "ZipGuardModel") (T := F_M) (N := 31) hx hb ht zi_M hown hK hP 0 rfl rfl 2 (by decide) (ht _ zm_754) (fun _ h9 => h9) rfl d_M_take_2 ?_
    refine lv_if_ne (tgt := 12) hx hb d_M_take_5 (by decide) (fun h => absurd (by decide) h) (fun _ => ?_)
    refine lv_iconst (v := 1) hx hb d_M_take_8 (by decide) ?_
    refine lv_goto (tgt := 13) hx hb d_M_take_9 (by decide) ?_
    refine lv_iconst (v := 1) hx hb d_M_take_13 (by decide) ?_
    refine zji (wr := []) (va_runV (As := [.int 1, .int 1]) (rest := []) ⟨hx, hb, hml, hown, ht⟩ (c_M_f1 l D _ h0 m_tape m_methods m_packed m_sizes m_sums m_datas m_locals m_localEnds m_names m_nameSizes m_states m_starts m_counts m_written m_lengths m_small m_codes m_smallCodes n0 0 fp bu ra en to w1 w2 w3 w4 w5 th 1 ) (cwV 2 ht (zt_goodV zm_855 zm_856 zm_30 zm_79 zm_857) rfl rfl rfl (by decide +kernel) ⟨Nat.le_of_ble_eq_true rfl, Nat.le_of_ble_eq_true rfl⟩) (zpreV zBlind_t hK hP hD [0] [] rfl (by decide) rfl (fun _ _ _ => trivial) (va_recv (q := ("ZipGuardModel", F_M, 31)) hK hP rfl (q0 := 0) (ci := 8) rfl)) rfl rfl hl.1 rfl (lv_room (Nat.le_of_ble_eq_true rfl)) d_M_take_14 ⟨Nat.le_of_ble_eq_true rfl, Nat.le_of_ble_eq_true rfl⟩) hK hP hD hS hA [0] [] rfl rfl (by decide) (by decide) (fun r2 u H locs hp3 hP hD hK hS => ?_)
    have hP : va_P D zcl [(h0, .inr (8, [.ref m_tape, .int n0, .int 0, .int fp, .int bu, .int ra, .int en, .ref m_methods, .ref m_packed, .ref m_sizes, .ref m_sums, .ref m_datas, .ref m_locals, .ref m_localEnds, .ref m_names, .ref m_nameSizes, .ref m_states, .ref m_starts, .ref m_counts, .ref m_written, .int to, .int w1, .int w2, .int w3, .ref m_lengths, .ref m_small, .ref m_codes, .ref m_smallCodes, .int w4, .int w5, .int 1]))] H := hP
    have hD : va_D A [(h0, .inr (8, [.ref m_tape, .int n0, .int 0, .int fp, .int bu, .int ra, .int en, .ref m_methods, .ref m_packed, .ref m_sizes, .ref m_sums, .ref m_datas, .ref m_locals, .ref m_localEnds, .ref m_names, .ref m_nameSizes, .ref m_states, .ref m_starts, .ref m_counts, .ref m_written, .int to, .int w1, .int w2, .int w3, .ref m_lengths, .ref m_small, .ref m_codes, .ref m_smallCodes, .int w4, .int w5, .int 1]))] := hD
    have hK : va_K D zcl [] s := hK
    subst hp3
    refine lv_if_ne (tgt := 41) hx hb d_M_take_17 (by decide) (fun _ => ?_) (fun h => absurd h (by decide))
    refine lv_iconst (v := 0) hx hb d_M_take_41 (by decide) ?_
    exact zreti hx hb hr hlk hK hP hD hS () [0] [] rfl (by decide) rfl (trivial) (Nat.le_of_ble_eq_true rfl) (Nat.le_of_ble_eq_true rfl) d_M_take_42)
set_option maxHeartbeats 4000000 in
set_option maxRecDepth 100000 in
theorem c_M_ta1 (l : Launch) (D : va_G) (sz : Nat) (h0 : Nat) (m_tape : Nat) (m_methods : Nat) (m_packed : Nat) (m_sizes : Nat) (m_sums : Nat) (m_datas : Nat) (m_locals : Nat) (m_localEnds : Nat) (m_names : Nat) (m_nameSizes : Nat) (m_states : Nat) (m_starts : Nat) (m_counts : Nat) (m_written : Nat) (m_lengths : Nat) (m_small : Nat) (m_codes : Nat) (m_smallCodes : Nat) (n0 : Int32) (fp : Int32) (bu : Int32) (ra : Int32) (en : Int32) (to : Int32) (w1 : Int32) (w2 : Int32) (w3 : Int32) (w4 : Int32) (w5 : Int32) (th : Int32)  : Met l y_M_takeAll (Cond.code y_M_takeAll prog_10_method_48_code 2 (Option.some Jvm.ClassFile.FieldType.int) :: zt) { frames := 1, cells := 0, slots := 0, locals := 22 } (zPc [.ref h0] D [(h0, .inr (8, [.ref m_tape, .int n0, .int 0, .int fp, .int bu, .int ra, .int en, .ref m_methods, .ref m_packed, .ref m_sizes, .ref m_sums, .ref m_datas, .ref m_locals, .ref m_localEnds, .ref m_names, .ref m_nameSizes, .ref m_states, .ref m_starts, .ref m_counts, .ref m_written, .int to, .int w1, .int w2, .int w3, .ref m_lengths, .ref m_small, .ref m_codes, .ref m_smallCodes, .int w4, .int w5, .int th]))] [] sz (fun _ => True)) (va_Qi (fun (r : Int32) => fun (_ : Unit) => True) (fun u t => zB D ((fun (_ : Unit) => [(h0, .inr (8, [.ref m_tape, .int n0, .int 0, .int fp, .int bu, .int ra, .int en, .ref m_methods, .ref m_packed, .ref m_sizes, .ref m_sums, .ref m_datas, .ref m_locals, .ref m_localEnds, .ref m_names, .ref m_nameSizes, .ref m_states, .ref m_starts, .ref m_counts, .ref m_written, .int to, .int w1, .int w2, .int w3, .ref m_lengths, .ref m_small, .ref m_codes, .ref m_smallCodes, .int w4, .int w5, .int 1]))]) u) ((fun (_ : Unit) => []) u) (va_A [(h0, .inr (8, [.ref m_tape, .int n0, .int 0, .int fp, .int bu, .int ra, .int en, .ref m_methods, .ref m_packed, .ref m_sizes, .ref m_sums, .ref m_datas, .ref m_locals, .ref m_localEnds, .ref m_names, .ref m_nameSizes, .ref m_states, .ref m_starts, .ref m_counts, .ref m_written, .int to, .int w1, .int w2, .int w3, .ref m_lengths, .ref m_small, .ref m_codes, .ref m_smallCodes, .int w4, .int w5, .int th]))] sz) t) (va_A [(h0, .inr (8, [.ref m_tape, .int n0, .int 0, .int fp, .int bu, .int ra, .int en, .ref m_methods, .ref m_packed, .ref m_sizes, .ref m_sums, .ref m_datas, .ref m_locals, .ref m_localEnds, .ref m_names, .ref m_nameSizes, .ref m_states, .ref m_starts, .ref m_counts, .ref m_written, .int to, .int w1, .int w2, .int w3, .ref m_lengths, .ref m_small, .ref m_codes, .ref m_smallCodes, .int w4, .int w5, .int th]))] sz)) 0 0 (va_A [(h0, .inr (8, [.ref m_tape, .int n0, .int 0, .int fp, .int bu, .int ra, .int en, .ref m_methods, .ref m_packed, .ref m_sizes, .ref m_sums, .ref m_datas, .ref m_locals, .ref m_localEnds, .ref m_names, .ref m_nameSizes, .ref m_states, .ref m_starts, .ref m_counts, .ref m_written, .int to, .int w1, .int w2, .int w3, .ref m_lengths, .ref m_small, .ref m_codes, .ref m_smallCodes, .int w4, .int w5, .int th]))] sz) :=
  zMet (Qf := fun A => va_Qi (fun (r : Int32) => fun (_ : Unit) => True) (fun u t => zB D ((fun (_ : Unit) => [(h0, .inr (8, [.ref m_tape, .int n0, .int 0, .int fp, .int bu, .int ra, .int en, .ref m_methods, .ref m_packed, .ref m_sizes, .ref m_sums, .ref m_datas, .ref m_locals, .ref m_localEnds, .ref m_names, .ref m_nameSizes, .ref m_states, .ref m_starts, .ref m_counts, .ref m_written, .int to, .int w1, .int w2, .int w3, .ref m_lengths, .ref m_small, .ref m_codes, .ref m_smallCodes, .int w4, .int w5, .int 1]))]) u) ((fun (_ : Unit) => []) u) A t) A) (by decide) (Nat.le_of_ble_eq_true rfl) (fun p e s m below meth c A ls hx hb hr hml hown ht hlk hnm hA hK hP hD hX hl => by
    have hS : va_S A s.heap s.heap [] := va_S.rf
    have hl : lv_has ls 2 [(0, .ref h0)] := hl
    refine lv_aload_n hx hb d_M_takeAll_0 rfl (lv_at hl 0 rfl) ?_
    refine lv_aload_n hx hb d_M_takeAll_1 rfl (lv_at hl 0 rfl) ?_
    refine va_get (ci := 8) (C := "ZipGuardModel") (T := F_M) (N := 31) hx hb ht zi_M hown hK hP 0 rfl rfl 2 (by decide) (ht _ zm_754) (fun _ h9 => h9) rfl d_M_takeAll_2 ?_
    refine lv_if_ne (tgt := 12) hx hb d_M_takeAll_5 (by decide) (fun h => absurd (by decide) h) (fun _ => ?_)
    refine lv_iconst (v := 1) hx hb d_M_takeAll_8 (by decide) ?_
    refine lv_goto (tgt := 13) hx hb d_M_takeAll_9 (by decide) ?_
    refine lv_iconst (v := 1) hx hb d_M_takeAll_13 (by decide) ?_
    refine zji (wr := []) (va_runV (As := [.int 1, .int 1]) (rest := []) ⟨hx, hb, hml, hown, ht⟩ (c_M_f1 l D _ h0 m_tape m_methods m_packed m_sizes m_sums m_datas m_locals m_localEnds m_names m_nameSizes m_states m_starts m_counts m_written m_lengths m_small m_codes m_smallCodes n0 0 fp bu ra en to w1 w2 w3 w4 w5 th 1 ) (cwV 2 ht (zt_goodV zm_855 zm_856 zm_30 zm_79 zm_857) rfl rfl rfl (by decide +kernel) ⟨Nat.le_of_ble_eq_true rfl, Nat.le_of_ble_eq_true rfl⟩) (zpreV zBlind_t hK hP hD [0] [] rfl (by decide) rfl (fun _ _ _ => trivial) (va_recv (q := ("ZipGuardModel", F_M, 31)) hK hP rfl (q0 := 0) (ci := 8) rfl)) rfl rfl hl.1 rfl (lv_room (Nat.le_of_ble_eq_true rfl)) d_M_takeAll_14 ⟨Nat.le_of_ble_eq_true rfl, Nat.le_of_ble_eq_true rfl⟩) hK hP hD hS hA [0] [] rfl rfl (by decide) (by decide) (fun r2 u H locs hp3 hP hD hK hS => ?_)
    have hP : va_P D zcl [(h0, .inr (8, [.ref m_tape, .int n0, .int 0, .int fp, .int bu, .int ra, .int en, .ref m_methods, .ref m_packed, .ref m_sizes, .ref m_sums, .ref m_datas, .ref m_locals, .ref m_localEnds, .ref m_names, .ref m_nameSizes, .ref m_states, .ref m_starts, .ref m_counts, .ref m_written, .int to, .int w1, .int w2, .int w3, .ref m_lengths, .ref m_small, .ref m_codes, .ref m_smallCodes, .int w4, .int w5, .int 1]))] H := hP
    have hD : va_D A [(h0, .inr (8, [.ref m_tape, .int n0, .int 0, .int fp, .int bu, .int ra, .int en, .ref m_methods, .ref m_packed, .ref m_sizes, .ref m_sums, .ref m_datas, .ref m_locals, .ref m_localEnds, .ref m_names, .ref m_nameSizes, .ref m_states, .ref m_starts, .ref m_counts, .ref m_written, .int to, .int w1, .int w2, .int w3, .ref m_lengths, .ref m_small, .ref m_codes, .ref m_smallCodes, .int w4, .int w5, .int 1]))] := hD
    have hK : va_K D zcl [] s := hK
    subst hp3
    refine lv_if_eq (tgt := 22) hx hb d_M_takeAll_17 (by decide) (fun h => absurd h (by decide)) (fun _ => ?_)
    refine lv_iconst (v := 0) hx hb d_M_takeAll_20 (by decide) ?_
    exact zreti hx hb hr hlk hK hP hD hS () [0] [] rfl (by decide) rfl (trivial) (Nat.le_of_ble_eq_true rfl) (Nat.le_of_ble_eq_true rfl) d_M_takeAll_21)
set_option maxHeartbeats 4000000 in
set_option maxRecDepth 100000 in
theorem c_M_ent1 (l : Launch) (D : va_G) (sz : Nat) (h0 : Nat) (m_tape : Nat) (m_methods : Nat) (m_packed : Nat) (m_sizes : Nat) (m_sums : Nat) (m_datas : Nat) (m_locals : Nat) (m_localEnds : Nat) (m_names : Nat) (m_nameSizes : Nat) (m_states : Nat) (m_starts : Nat) (m_counts : Nat) (m_written : Nat) (m_lengths : Nat) (m_small : Nat) (m_codes : Nat) (m_smallCodes : Nat) (n0 : Int32) (fp : Int32) (bu : Int32) (ra : Int32) (en : Int32) (to : Int32) (w1 : Int32) (w2 : Int32) (w3 : Int32) (w4 : Int32) (w5 : Int32) (th : Int32) (n : Int32) (y : Int32)  : Met l y_M_entry (Cond.code y_M_entry prog_10_method_49_code 3 (Option.some Jvm.ClassFile.FieldType.int) :: zt) { frames := 1, cells := 0, slots := 0, locals := 22 } (zPc [.ref h0, .int n, .int y] D [(h0, .inr (8, [.ref m_tape, .int n0, .int 0, .int fp, .int bu, .int ra, .int en, .ref m_methods, .ref m_packed, .ref m_sizes, .ref m_sums, .ref m_datas, .ref m_locals, .ref m_localEnds, .ref m_names, .ref m_nameSizes, .ref m_states, .ref m_starts, .ref m_counts, .ref m_written, .int to, .int w1, .int w2, .int w3, .ref m_lengths, .ref m_small, .ref m_codes, .ref m_smallCodes, .int w4, .int w5, .int th]))] [] sz (fun _ => True)) (va_Qi (fun (r : Int32) => fun (_ : Unit) => True) (fun u t => zB D ((fun (_ : Unit) => [(h0, .inr (8, [.ref m_tape, .int n0, .int 0, .int fp, .int bu, .int ra, .int en, .ref m_methods, .ref m_packed, .ref m_sizes, .ref m_sums, .ref m_datas, .ref m_locals, .ref m_localEnds, .ref m_names, .ref m_nameSizes, .ref m_states, .ref m_starts, .ref m_counts, .ref m_written, .int to, .int w1, .int w2, .int w3, .ref m_lengths, .ref m_small, .ref m_codes, .ref m_smallCodes, .int w4, .int w5, .int 1]))]) u) ((fun (_ : Unit) => []) u) (va_A [(h0, .inr (8, [.ref m_tape, .int n0, .int 0, .int fp, .int bu, .int ra, .int en, .ref m_methods, .ref m_packed, .ref m_sizes, .ref m_sums, .ref m_datas, .ref m_locals, .ref m_localEnds, .ref m_names, .ref m_nameSizes, .ref m_states, .ref m_starts, .ref m_counts, .ref m_written, .int to, .int w1, .int w2, .int w3, .ref m_lengths, .ref m_small, .ref m_codes, .ref m_smallCodes, .int w4, .int w5, .int th]))] sz) t) (va_A [(h0, .inr (8, [.ref m_tape, .int n0, .int 0, .int fp, .int bu, .int ra, .int en, .ref m_methods, .ref m_packed, .ref m_sizes, .ref m_sums, .ref m_datas, .ref m_locals, .ref m_localEnds, .ref m_names, .ref m_nameSizes, .ref m_states, .ref m_starts, .ref m_counts, .ref m_written, .int to, .int w1, .int w2, .int w3, .ref m_lengths, .ref m_small, .ref m_codes, .ref m_smallCodes, .int w4, .int w5, .int th]))] sz)) 0 0 (va_A [(h0, .inr (8, [.ref m_tape, .int n0, .int 0, .int fp, .int bu, .int ra, .int en, .ref m_methods, .ref m_packed, .ref m_sizes, .ref m_sums, .ref m_datas, .ref m_locals, .ref m_localEnds, .ref m_names, .ref m_nameSizes, .ref m_states, .ref m_starts, .ref m_counts, .ref m_written, .int to, .int w1, .int w2, .int w3, .ref m_lengths, .ref m_small, .ref m_codes, .ref m_smallCodes, .int w4, .int w5, .int th]))] sz) :=
  zMet (Qf := fun A => va_Qi (fun (r : Int32) => fun (_ : Unit) => True) (fun u t => zB D ((fun (_ : Unit) => [(h0, .inr (8, [.ref m_tape, .int n0, .int 0, .int fp, .int bu, .int ra, .int en, .ref m_methods, .ref m_packed, .ref m_sizes, .ref m_sums, .ref m_datas, .ref m_locals, .ref m_localEnds, .ref m_names, .ref m_nameSizes, .ref m_states, .ref m_starts, .ref m_counts, .ref m_written, .int to, .int w1, .int w2, .int w3, .ref m_lengths, .ref m_small, .ref m_codes, .ref m_smallCodes, .int w4, .int w5, .int 1]))]) u) ((fun (_ : Unit) => []) u) A t) A) (by decide) (Nat.le_of_ble_eq_true rfl) (fun p e s m below meth c A ls hx hb hr hml hown ht hlk hnm hA hK hP hD hX hl => by
    have hS : va_S A s.heap s.heap [] := va_S.rf
    have hl : lv_has ls 3 [(0, .ref h0), (1, .int n), (2, .int y)] := hl
    refine lv_aload_n hx hb d_M_entry_0 rfl (lv_at hl 0 rfl) ?_
    refine lv_aload_n hx hb d_M_entry_1 rfl (lv_at hl 0 rfl) ?_
    refine va_get (ci := 8) (C := "ZipGuardModel") (T := F_M) (N := 31) hx hb ht zi_M hown hK hP 0 rfl rfl 2 (by decide) (ht _ zm_754) (fun _ h9 => h9) rfl d_M_entry_2 ?_
    refine lv_if_ne (tgt := 12) hx hb d_M_entry_5 (by decide) (fun h => absurd (by decide) h) (fun _ => ?_)
    refine lv_iconst (v := 1) hx hb d_M_entry_8 (by decide) ?_
    refine lv_goto (tgt := 13) hx hb d_M_entry_9 (by decide) ?_
    refine lv_iconst (v := 1) hx hb d_M_entry_13 (by decide) ?_
    refine zji (wr := []) (va_runV (As := [.int 1, .int 1]) (rest := []) ⟨hx, hb, hml, hown, ht⟩ (c_M_f1 l D _ h0 m_tape m_methods m_packed m_sizes m_sums m_datas m_locals m_localEnds m_names m_nameSizes m_states m_starts m_counts m_written m_lengths m_small m_codes m_smallCodes n0 0 fp bu ra en to w1 w2 w3 w4 w5 th 1 ) (cwV 2 ht (zt_goodV zm_855 zm_856 zm_30 zm_79 zm_857) rfl rfl rfl (by decide +kernel) ⟨Nat.le_of_ble_eq_true rfl, Nat.le_of_ble_eq_true rfl⟩) (zpreV zBlind_t hK hP hD [0] [] rfl (by decide) rfl (fun _ _ _ => trivial) (va_recv (q := ("ZipGuardModel", F_M, 31)) hK hP rfl (q0 := 0) (ci := 8) rfl)) rfl rfl hl.1 rfl (lv_room (Nat.le_of_ble_eq_true rfl)) d_M_entry_14 ⟨Nat.le_of_ble_eq_true rfl, Nat.le_of_ble_eq_true rfl⟩) hK hP hD hS hA [0] [] rfl rfl (by decide) (by decide) (fun r2 u H locs hp3 hP hD hK hS => ?_)
    have hP : va_P D zcl [(h0, .inr (8, [.ref m_tape, .int n0, .int 0, .int fp, .int bu, .int ra, .int en, .ref m_methods, .ref m_packed, .ref m_sizes, .ref m_sums, .ref m_datas, .ref m_locals, .ref m_localEnds, .ref m_names, .ref m_nameSizes, .ref m_states, .ref m_starts, .ref m_counts, .ref m_written, .int to, .int w1, .int w2, .int w3, .ref m_lengths, .ref m_small, .ref m_codes, .ref m_smallCodes, .int w4, .int w5, .int 1]))] H := hP
    have hD : va_D A [(h0, .inr (8, [.ref m_tape, .int n0, .int 0, .int fp, .int bu, .int ra, .int en, .ref m_methods, .ref m_packed, .ref m_sizes, .ref m_sums, .ref m_datas, .ref m_locals, .ref m_localEnds, .ref m_names, .ref m_nameSizes, .ref m_states, .ref m_starts, .ref m_counts, .ref m_written, .int to, .int w1, .int w2, .int w3, .ref m_lengths, .ref m_small, .ref m_codes, .ref m_smallCodes, .int w4, .int w5, .int 1]))] := hD
    have hK : va_K D zcl [] s := hK
    subst hp3
    refine lv_if_ne (tgt := 64) hx hb d_M_entry_17 (by decide) (fun _ => ?_) (fun h => absurd h (by decide))
    refine lv_iconst (v := 0) hx hb d_M_entry_64 (by decide) ?_
    exact zreti hx hb hr hlk hK hP hD hS () [0] [] rfl (by decide) rfl (trivial) (Nat.le_of_ble_eq_true rfl) (Nat.le_of_ble_eq_true rfl) d_M_entry_65)
set_option maxHeartbeats 4000000 in
set_option maxRecDepth 100000 in
theorem c_M_nam1 (l : Launch) (D : va_G) (sz : Nat) (h0 : Nat) (m_tape : Nat) (m_methods : Nat) (m_packed : Nat) (m_sizes : Nat) (m_sums : Nat) (m_datas : Nat) (m_locals : Nat) (m_localEnds : Nat) (m_names : Nat) (m_nameSizes : Nat) (m_states : Nat) (m_starts : Nat) (m_counts : Nat) (m_written : Nat) (m_lengths : Nat) (m_small : Nat) (m_codes : Nat) (m_smallCodes : Nat) (n0 : Int32) (fp : Int32) (bu : Int32) (ra : Int32) (en : Int32) (to : Int32) (w1 : Int32) (w2 : Int32) (w3 : Int32) (w4 : Int32) (w5 : Int32) (th : Int32) (n : Int32) (y : Int32)  : Met l y_M_name (Cond.code y_M_name prog_10_method_50_code 3 (Option.some Jvm.ClassFile.FieldType.int) :: zt) { frames := 1, cells := 0, slots := 0, locals := 22 } (zPc [.ref h0, .int n, .int y] D [(h0, .inr (8, [.ref m_tape, .int n0, .int 0, .int fp, .int bu, .int ra, .int en, .ref m_methods, .ref m_packed, .ref m_sizes, .ref m_sums, .ref m_datas, .ref m_locals, .ref m_localEnds, .ref m_names, .ref m_nameSizes, .ref m_states, .ref m_starts, .ref m_counts, .ref m_written, .int to, .int w1, .int w2, .int w3, .ref m_lengths, .ref m_small, .ref m_codes, .ref m_smallCodes, .int w4, .int w5, .int th]))] [] sz (fun _ => True)) (va_Qi (fun (r : Int32) => fun (_ : Unit) => True) (fun u t => zB D ((fun (_ : Unit) => [(h0, .inr (8, [.ref m_tape, .int n0, .int 0, .int fp, .int bu, .int ra, .int en, .ref m_methods, .ref m_packed, .ref m_sizes, .ref m_sums, .ref m_datas, .ref m_locals, .ref m_localEnds, .ref m_names, .ref m_nameSizes, .ref m_states, .ref m_starts, .ref m_counts, .ref m_written, .int to, .int w1, .int w2, .int w3, .ref m_lengths, .ref m_small, .ref m_codes, .ref m_smallCodes, .int w4, .int w5, .int 1]))]) u) ((fun (_ : Unit) => []) u) (va_A [(h0, .inr (8, [.ref m_tape, .int n0, .int 0, .int fp, .int bu, .int ra, .int en, .ref m_methods, .ref m_packed, .ref m_sizes, .ref m_sums, .ref m_datas, .ref m_locals, .ref m_localEnds, .ref m_names, .ref m_nameSizes, .ref m_states, .ref m_starts, .ref m_counts, .ref m_written, .int to, .int w1, .int w2, .int w3, .ref m_lengths, .ref m_small, .ref m_codes, .ref m_smallCodes, .int w4, .int w5, .int th]))] sz) t) (va_A [(h0, .inr (8, [.ref m_tape, .int n0, .int 0, .int fp, .int bu, .int ra, .int en, .ref m_methods, .ref m_packed, .ref m_sizes, .ref m_sums, .ref m_datas, .ref m_locals, .ref m_localEnds, .ref m_names, .ref m_nameSizes, .ref m_states, .ref m_starts, .ref m_counts, .ref m_written, .int to, .int w1, .int w2, .int w3, .ref m_lengths, .ref m_small, .ref m_codes, .ref m_smallCodes, .int w4, .int w5, .int th]))] sz)) 0 0 (va_A [(h0, .inr (8, [.ref m_tape, .int n0, .int 0, .int fp, .int bu, .int ra, .int en, .ref m_methods, .ref m_packed, .ref m_sizes, .ref m_sums, .ref m_datas, .ref m_locals, .ref m_localEnds, .ref m_names, .ref m_nameSizes, .ref m_states, .ref m_starts, .ref m_counts, .ref m_written, .int to, .int w1, .int w2, .int w3, .ref m_lengths, .ref m_small, .ref m_codes, .ref m_smallCodes, .int w4, .int w5, .int th]))] sz) :=
  zMet (Qf := fun A => va_Qi (fun (r : Int32) => fun (_ : Unit) => True) (fun u t => zB D ((fun (_ : Unit) => [(h0, .inr (8, [.ref m_tape, .int n0, .int 0, .int fp, .int bu, .int ra, .int en, .ref m_methods, .ref m_packed, .ref m_sizes, .ref m_sums, .ref m_datas, .ref m_locals, .ref m_localEnds, .ref m_names, .ref m_nameSizes, .ref m_states, .ref m_starts, .ref m_counts, .ref m_written, .int to, .int w1, .int w2, .int w3, .ref m_lengths, .ref m_small, .ref m_codes, .ref m_smallCodes, .int w4, .int w5, .int 1]))]) u) ((fun (_ : Unit) => []) u) A t) A) (by decide) (Nat.le_of_ble_eq_true rfl) (fun p e s m below meth c A ls hx hb hr hml hown ht hlk hnm hA hK hP hD hX hl => by
    have hS : va_S A s.heap s.heap [] := va_S.rf
    have hl : lv_has ls 3 [(0, .ref h0), (1, .int n), (2, .int y)] := hl
    refine lv_aload_n hx hb d_M_name_0 rfl (lv_at hl 0 rfl) ?_
    refine lv_aload_n hx hb d_M_name_1 rfl (lv_at hl 0 rfl) ?_
    refine va_get (ci := 8) (C := "ZipGuardModel") (T := F_M) (N := 31) hx hb ht zi_M hown hK hP 0 rfl rfl 2 (by decide) (ht _ zm_754) (fun _ h9 => h9) rfl d_M_name_2 ?_
    refine lv_if_ne (tgt := 12) hx hb d_M_name_5 (by decide) (fun h => absurd (by decide) h) (fun _ => ?_)
    refine lv_iconst (v := 1) hx hb d_M_name_8 (by decide) ?_
    refine lv_goto (tgt := 13) hx hb d_M_name_9 (by decide) ?_
    refine lv_iconst (v := 1) hx hb d_M_name_13 (by decide) ?_
    refine zji (wr := []) (va_runV (As := [.int 1, .int 1]) (rest := []) ⟨hx, hb, hml, hown, ht⟩ (c_M_f1 l D _ h0 m_tape m_methods m_packed m_sizes m_sums m_datas m_locals m_localEnds m_names m_nameSizes m_states m_starts m_counts m_written m_lengths m_small m_codes m_smallCodes n0 0 fp bu ra en to w1 w2 w3 w4 w5 th 1 ) (cwV 2 ht (zt_goodV zm_855 zm_856 zm_30 zm_79 zm_857) rfl rfl rfl (by decide +kernel) ⟨Nat.le_of_ble_eq_true rfl, Nat.le_of_ble_eq_true rfl⟩) (zpreV zBlind_t hK hP hD [0] [] rfl (by decide) rfl (fun _ _ _ => trivial) (va_recv (q := ("ZipGuardModel", F_M, 31)) hK hP rfl (q0 := 0) (ci := 8) rfl)) rfl rfl hl.1 rfl (lv_room (Nat.le_of_ble_eq_true rfl)) d_M_name_14 ⟨Nat.le_of_ble_eq_true rfl, Nat.le_of_ble_eq_true rfl⟩) hK hP hD hS hA [0] [] rfl rfl (by decide) (by decide) (fun r2 u H locs hp3 hP hD hK hS => ?_)
    have hP : va_P D zcl [(h0, .inr (8, [.ref m_tape, .int n0, .int 0, .int fp, .int bu, .int ra, .int en, .ref m_methods, .ref m_packed, .ref m_sizes, .ref m_sums, .ref m_datas, .ref m_locals, .ref m_localEnds, .ref m_names, .ref m_nameSizes, .ref m_states, .ref m_starts, .ref m_counts, .ref m_written, .int to, .int w1, .int w2, .int w3, .ref m_lengths, .ref m_small, .ref m_codes, .ref m_smallCodes, .int w4, .int w5, .int 1]))] H := hP
    have hD : va_D A [(h0, .inr (8, [.ref m_tape, .int n0, .int 0, .int fp, .int bu, .int ra, .int en, .ref m_methods, .ref m_packed, .ref m_sizes, .ref m_sums, .ref m_datas, .ref m_locals, .ref m_localEnds, .ref m_names, .ref m_nameSizes, .ref m_states, .ref m_starts, .ref m_counts, .ref m_written, .int to, .int w1, .int w2, .int w3, .ref m_lengths, .ref m_small, .ref m_codes, .ref m_smallCodes, .int w4, .int w5, .int 1]))] := hD
    have hK : va_K D zcl [] s := hK
    subst hp3
    refine lv_if_ne (tgt := 41) hx hb d_M_name_17 (by decide) (fun _ => ?_) (fun h => absurd h (by decide))
    refine lv_iconst (v := 0) hx hb d_M_name_41 (by decide) ?_
    exact zreti hx hb hr hlk hK hP hD hS () [0] [] rfl (by decide) rfl (trivial) (Nat.le_of_ble_eq_true rfl) (Nat.le_of_ble_eq_true rfl) d_M_name_42)
set_option maxHeartbeats 4000000 in
set_option maxRecDepth 100000 in
theorem c_M_wri1 (l : Launch) (D : va_G) (sz : Nat) (h0 : Nat) (m_tape : Nat) (m_methods : Nat) (m_packed : Nat) (m_sizes : Nat) (m_sums : Nat) (m_datas : Nat) (m_locals : Nat) (m_localEnds : Nat) (m_names : Nat) (m_nameSizes : Nat) (m_states : Nat) (m_starts : Nat) (m_counts : Nat) (m_written : Nat) (m_lengths : Nat) (m_small : Nat) (m_codes : Nat) (m_smallCodes : Nat) (n0 : Int32) (fp : Int32) (bu : Int32) (ra : Int32) (en : Int32) (to : Int32) (w1 : Int32) (w2 : Int32) (w3 : Int32) (w4 : Int32) (w5 : Int32) (th : Int32) (n : Int32) (y : Int32)  : Met l y_M_written (Cond.code y_M_written prog_10_method_51_code 3 (Option.some Jvm.ClassFile.FieldType.int) :: zt) { frames := 1, cells := 0, slots := 0, locals := 22 } (zPc [.ref h0, .int n, .int y] D [(h0, .inr (8, [.ref m_tape, .int n0, .int 0, .int fp, .int bu, .int ra, .int en, .ref m_methods, .ref m_packed, .ref m_sizes, .ref m_sums, .ref m_datas, .ref m_locals, .ref m_localEnds, .ref m_names, .ref m_nameSizes, .ref m_states, .ref m_starts, .ref m_counts, .ref m_written, .int to, .int w1, .int w2, .int w3, .ref m_lengths, .ref m_small, .ref m_codes, .ref m_smallCodes, .int w4, .int w5, .int th]))] [] sz (fun _ => True)) (va_Qi (fun (r : Int32) => fun (_ : Unit) => True) (fun u t => zB D ((fun (_ : Unit) => [(h0, .inr (8, [.ref m_tape, .int n0, .int 0, .int fp, .int bu, .int ra, .int en, .ref m_methods, .ref m_packed, .ref m_sizes, .ref m_sums, .ref m_datas, .ref m_locals, .ref m_localEnds, .ref m_names, .ref m_nameSizes, .ref m_states, .ref m_starts, .ref m_counts, .ref m_written, .int to, .int w1, .int w2, .int w3, .ref m_lengths, .ref m_small, .ref m_codes, .ref m_smallCodes, .int w4, .int w5, .int 1]))]) u) ((fun (_ : Unit) => []) u) (va_A [(h0, .inr (8, [.ref m_tape, .int n0, .int 0, .int fp, .int bu, .int ra, .int en, .ref m_methods, .ref m_packed, .ref m_sizes, .ref m_sums, .ref m_datas, .ref m_locals, .ref m_localEnds, .ref m_names, .ref m_nameSizes, .ref m_states, .ref m_starts, .ref m_counts, .ref m_written, .int to, .int w1, .int w2, .int w3, .ref m_lengths, .ref m_small, .ref m_codes, .ref m_smallCodes, .int w4, .int w5, .int th]))] sz) t) (va_A [(h0, .inr (8, [.ref m_tape, .int n0, .int 0, .int fp, .int bu, .int ra, .int en, .ref m_methods, .ref m_packed, .ref m_sizes, .ref m_sums, .ref m_datas, .ref m_locals, .ref m_localEnds, .ref m_names, .ref m_nameSizes, .ref m_states, .ref m_starts, .ref m_counts, .ref m_written, .int to, .int w1, .int w2, .int w3, .ref m_lengths, .ref m_small, .ref m_codes, .ref m_smallCodes, .int w4, .int w5, .int th]))] sz)) 0 0 (va_A [(h0, .inr (8, [.ref m_tape, .int n0, .int 0, .int fp, .int bu, .int ra, .int en, .ref m_methods, .ref m_packed, .ref m_sizes, .ref m_sums, .ref m_datas, .ref m_locals, .ref m_localEnds, .ref m_names, .ref m_nameSizes, .ref m_states, .ref m_starts, .ref m_counts, .ref m_written, .int to, .int w1, .int w2, .int w3, .ref m_lengths, .ref m_small, .ref m_codes, .ref m_smallCodes, .int w4, .int w5, .int th]))] sz) :=
  zMet (Qf := fun A => va_Qi (fun (r : Int32) => fun (_ : Unit) => True) (fun u t => zB D ((fun (_ : Unit) => [(h0, .inr (8, [.ref m_tape, .int n0, .int 0, .int fp, .int bu, .int ra, .int en, .ref m_methods, .ref m_packed, .ref m_sizes, .ref m_sums, .ref m_datas, .ref m_locals, .ref m_localEnds, .ref m_names, .ref m_nameSizes, .ref m_states, .ref m_starts, .ref m_counts, .ref m_written, .int to, .int w1, .int w2, .int w3, .ref m_lengths, .ref m_small, .ref m_codes, .ref m_smallCodes, .int w4, .int w5, .int 1]))]) u) ((fun (_ : Unit) => []) u) A t) A) (by decide) (Nat.le_of_ble_eq_true rfl) (fun p e s m below meth c A ls hx hb hr hml hown ht hlk hnm hA hK hP hD hX hl => by
    have hS : va_S A s.heap s.heap [] := va_S.rf
    have hl : lv_has ls 3 [(0, .ref h0), (1, .int n), (2, .int y)] := hl
    refine lv_aload_n hx hb d_M_written_0 rfl (lv_at hl 0 rfl) ?_
    refine lv_aload_n hx hb d_M_written_1 rfl (lv_at hl 0 rfl) ?_
    refine va_get (ci := 8) (C := "ZipGuardModel") (T := F_M) (N := 31) hx hb ht zi_M hown hK hP 0 rfl rfl 2 (by decide) (ht _ zm_754) (fun _ h9 => h9) rfl d_M_written_2 ?_
    refine lv_if_ne (tgt := 12) hx hb d_M_written_5 (by decide) (fun h => absurd (by decide) h) (fun _ => ?_)
    refine lv_iconst (v := 1) hx hb d_M_written_8 (by decide) ?_
    refine lv_goto (tgt := 13) hx hb d_M_written_9 (by decide) ?_
    refine lv_iconst (v := 1) hx hb d_M_written_13 (by decide) ?_
    refine zji (wr := []) (va_runV (As := [.int 1, .int 1]) (rest := []) ⟨hx, hb, hml, hown, ht⟩ (c_M_f1 l D _ h0 m_tape m_methods m_packed m_sizes m_sums m_datas m_locals m_localEnds m_names m_nameSizes m_states m_starts m_counts m_written m_lengths m_small m_codes m_smallCodes n0 0 fp bu ra en to w1 w2 w3 w4 w5 th 1 ) (cwV 2 ht (zt_goodV zm_855 zm_856 zm_30 zm_79 zm_857) rfl rfl rfl (by decide +kernel) ⟨Nat.le_of_ble_eq_true rfl, Nat.le_of_ble_eq_true rfl⟩) (zpreV zBlind_t hK hP hD [0] [] rfl (by decide) rfl (fun _ _ _ => trivial) (va_recv (q := ("ZipGuardModel", F_M, 31)) hK hP rfl (q0 := 0) (ci := 8) rfl)) rfl rfl hl.1 rfl (lv_room (Nat.le_of_ble_eq_true rfl)) d_M_written_14 ⟨Nat.le_of_ble_eq_true rfl, Nat.le_of_ble_eq_true rfl⟩) hK hP hD hS hA [0] [] rfl rfl (by decide) (by decide) (fun r2 u H locs hp3 hP hD hK hS => ?_)
    have hP : va_P D zcl [(h0, .inr (8, [.ref m_tape, .int n0, .int 0, .int fp, .int bu, .int ra, .int en, .ref m_methods, .ref m_packed, .ref m_sizes, .ref m_sums, .ref m_datas, .ref m_locals, .ref m_localEnds, .ref m_names, .ref m_nameSizes, .ref m_states, .ref m_starts, .ref m_counts, .ref m_written, .int to, .int w1, .int w2, .int w3, .ref m_lengths, .ref m_small, .ref m_codes, .ref m_smallCodes, .int w4, .int w5, .int 1]))] H := hP
    have hD : va_D A [(h0, .inr (8, [.ref m_tape, .int n0, .int 0, .int fp, .int bu, .int ra, .int en, .ref m_methods, .ref m_packed, .ref m_sizes, .ref m_sums, .ref m_datas, .ref m_locals, .ref m_localEnds, .ref m_names, .ref m_nameSizes, .ref m_states, .ref m_starts, .ref m_counts, .ref m_written, .int to, .int w1, .int w2, .int w3, .ref m_lengths, .ref m_small, .ref m_codes, .ref m_smallCodes, .int w4, .int w5, .int 1]))] := hD
    have hK : va_K D zcl [] s := hK
    subst hp3
    refine lv_if_ne (tgt := 41) hx hb d_M_written_17 (by decide) (fun _ => ?_) (fun h => absurd h (by decide))
    refine lv_iconst (v := 0) hx hb d_M_written_41 (by decide) ?_
    exact zreti hx hb hr hlk hK hP hD hS () [0] [] rfl (by decide) rfl (trivial) (Nat.le_of_ble_eq_true rfl) (Nat.le_of_ble_eq_true rfl) d_M_written_42)
set_option maxHeartbeats 4000000 in
set_option maxRecDepth 100000 in
theorem c_M_ab0 (l : Launch) (D : va_G) (sz : Nat) (h0 : Nat) (m_tape : Nat) (m_methods : Nat) (m_packed : Nat) (m_sizes : Nat) (m_sums : Nat) (m_datas : Nat) (m_locals : Nat) (m_localEnds : Nat) (m_names : Nat) (m_nameSizes : Nat) (m_states : Nat) (m_starts : Nat) (m_counts : Nat) (m_written : Nat) (m_lengths : Nat) (m_small : Nat) (m_codes : Nat) (m_smallCodes : Nat) (n0 : Int32) (op : Int32) (fp : Int32) (bu : Int32) (ra : Int32) (en : Int32) (to : Int32) (w1 : Int32) (w2 : Int32) (w3 : Int32) (w4 : Int32) (w5 : Int32) (th : Int32)  : Met l y_M_about (Cond.code y_M_about prog_10_method_52_code 2 (Option.some Jvm.ClassFile.FieldType.int) :: zt) { frames := 1, cells := 0, slots := 0, locals := 22 } (zPc [.ref h0, .int 0] D [(h0, .inr (8, [.ref m_tape, .int n0, .int op, .int fp, .int bu, .int ra, .int en, .ref m_methods, .ref m_packed, .ref m_sizes, .ref m_sums, .ref m_datas, .ref m_locals, .ref m_localEnds, .ref m_names, .ref m_nameSizes, .ref m_states, .ref m_starts, .ref m_counts, .ref m_written, .int to, .int w1, .int w2, .int w3, .ref m_lengths, .ref m_small, .ref m_codes, .ref m_smallCodes, .int w4, .int w5, .int th]))] [] sz (fun _ => True)) (va_Qi (fun (r : Int32) => fun (_ : Unit) => r = n0) (fun u t => zB D ((fun (_ : Unit) => [(h0, .inr (8, [.ref m_tape, .int n0, .int op, .int fp, .int bu, .int ra, .int en, .ref m_methods, .ref m_packed, .ref m_sizes, .ref m_sums, .ref m_datas, .ref m_locals, .ref m_localEnds, .ref m_names, .ref m_nameSizes, .ref m_states, .ref m_starts, .ref m_counts, .ref m_written, .int to, .int w1, .int w2, .int w3, .ref m_lengths, .ref m_small, .ref m_codes, .ref m_smallCodes, .int w4, .int w5, .int 0]))]) u) ((fun (_ : Unit) => []) u) (va_A [(h0, .inr (8, [.ref m_tape, .int n0, .int op, .int fp, .int bu, .int ra, .int en, .ref m_methods, .ref m_packed, .ref m_sizes, .ref m_sums, .ref m_datas, .ref m_locals, .ref m_localEnds, .ref m_names, .ref m_nameSizes, .ref m_states, .ref m_starts, .ref m_counts, .ref m_written, .int to, .int w1, .int w2, .int w3, .ref m_lengths, .ref m_small, .ref m_codes, .ref m_smallCodes, .int w4, .int w5, .int th]))] sz) t) (va_A [(h0, .inr (8, [.ref m_tape, .int n0, .int op, .int fp, .int bu, .int ra, .int en, .ref m_methods, .ref m_packed, .ref m_sizes, .ref m_sums, .ref m_datas, .ref m_locals, .ref m_localEnds, .ref m_names, .ref m_nameSizes, .ref m_states, .ref m_starts, .ref m_counts, .ref m_written, .int to, .int w1, .int w2, .int w3, .ref m_lengths, .ref m_small, .ref m_codes, .ref m_smallCodes, .int w4, .int w5, .int th]))] sz)) 0 0 (va_A [(h0, .inr (8, [.ref m_tape, .int n0, .int op, .int fp, .int bu, .int ra, .int en, .ref m_methods, .ref m_packed, .ref m_sizes, .ref m_sums, .ref m_datas, .ref m_locals, .ref m_localEnds, .ref m_names, .ref m_nameSizes, .ref m_states, .ref m_starts, .ref m_counts, .ref m_written, .int to, .int w1, .int w2, .int w3, .ref m_lengths, .ref m_small, .ref m_codes, .ref m_smallCodes, .int w4, .int w5, .int th]))] sz) :=
  zMet (Qf := fun A => va_Qi (fun (r : Int32) => fun (_ : Unit) => r = n0) (fun u t => zB D ((fun (_ : Unit) => [(h0, .inr (8, [.ref m_tape, .int n0, .int op, .int fp, .int bu, .int ra, .int en, .ref m_methods, .ref m_packed, .ref m_sizes, .ref m_sums, .ref m_datas, .ref m_locals, .ref m_localEnds, .ref m_names, .ref m_nameSizes, .ref m_states, .ref m_starts, .ref m_counts, .ref m_written, .int to, .int w1, .int w2, .int w3, .ref m_lengths, .ref m_small, .ref m_codes, .ref m_smallCodes, .int w4, .int w5, .int 0]))]) u) ((fun (_ : Unit) => []) u) A t) A) (by decide) (Nat.le_of_ble_eq_true rfl) (fun p e s m below meth c A ls hx hb hr hml hown ht hlk hnm hA hK hP hD hX hl => by
    have hS : va_S A s.heap s.heap [] := va_S.rf
    have hl : lv_has ls 2 [(0, .ref h0), (1, .int 0)] := hl
    refine lv_aload_n hx hb d_M_about_0 rfl (lv_at hl 0 rfl) ?_
    refine lv_iload_n hx hb d_M_about_1 rfl (lv_at hl 1 rfl) ?_
    refine lv_if_lt (tgt := 10) hx hb d_M_about_2 (by decide) (fun h => absurd h (by decide)) (fun _ => ?_)
    refine lv_iload_n hx hb d_M_about_5 rfl (lv_at hl 1 rfl) ?_
    refine lv_iconst (v := 4) hx hb d_M_about_6 (by decide) ?_
    refine lv_icmp_le (tgt := 14) hx hb d_M_about_7 (by decide) (fun _ => ?_) (fun h => absurd (by decide) h)
    refine lv_iconst (v := 0) hx hb d_M_about_14 (by decide) ?_
    refine lv_iconst (v := 1) hx hb d_M_about_15 (by decide) ?_
    refine zji (wr := []) (va_runV (As := [.int 0, .int 1]) (rest := []) ⟨hx, hb, hml, hown, ht⟩ (c_M_f0 l D _ h0 m_tape m_methods m_packed m_sizes m_sums m_datas m_locals m_localEnds m_names m_nameSizes m_states m_starts m_counts m_written m_lengths m_small m_codes m_smallCodes n0 op fp bu ra en to w1 w2 w3 w4 w5 th 1 ) (cwV 2 ht (zt_goodV zm_855 zm_856 zm_30 zm_79 zm_857) rfl rfl rfl (by decide +kernel) ⟨Nat.le_of_ble_eq_true rfl, Nat.le_of_ble_eq_true rfl⟩) (zpreV zBlind_t hK hP hD [0] [] rfl (by decide) rfl (fun _ _ _ => trivial) (va_recv (q := ("ZipGuardModel", F_M, 31)) hK hP rfl (q0 := 0) (ci := 8) rfl)) rfl rfl hl.1 rfl (lv_room (Nat.le_of_ble_eq_true rfl)) d_M_about_16 ⟨Nat.le_of_ble_eq_true rfl, Nat.le_of_ble_eq_true rfl⟩) hK hP hD hS hA [0] [] rfl rfl (by decide) (by decide) (fun r3 u H locs hp4 hP hD hK hS => ?_)
    have hP : va_P D zcl [(h0, .inr (8, [.ref m_tape, .int n0, .int op, .int fp, .int bu, .int ra, .int en, .ref m_methods, .ref m_packed, .ref m_sizes, .ref m_sums, .ref m_datas, .ref m_locals, .ref m_localEnds, .ref m_names, .ref m_nameSizes, .ref m_states, .ref m_starts, .ref m_counts, .ref m_written, .int to, .int w1, .int w2, .int w3, .ref m_lengths, .ref m_small, .ref m_codes, .ref m_smallCodes, .int w4, .int w5, .int 0]))] H := hP
    have hD : va_D A [(h0, .inr (8, [.ref m_tape, .int n0, .int op, .int fp, .int bu, .int ra, .int en, .ref m_methods, .ref m_packed, .ref m_sizes, .ref m_sums, .ref m_datas, .ref m_locals, .ref m_localEnds, .ref m_names, .ref m_nameSizes, .ref m_states, .ref m_starts, .ref m_counts, .ref m_written, .int to, .int w1, .int w2, .int w3, .ref m_lengths, .ref m_small, .ref m_codes, .ref m_smallCodes, .int w4, .int w5, .int 0]))] := hD
    have hK : va_K D zcl [] s := hK
    subst hp4
    refine lv_if_eq (tgt := 24) hx hb d_M_about_19 (by decide) (fun _ => ?_) (fun h => absurd (by decide) h)
    refine lv_iload_n hx hb d_M_about_24 rfl (lv_at hl 1 rfl) ?_
    refine lv_if_ne (tgt := 35) hx hb d_M_about_25 (by decide) (fun h => absurd (by decide) h) (fun _ => ?_)
    refine lv_aload_n hx hb d_M_about_28 rfl (lv_at hl 0 rfl) ?_
    refine va_get (ci := 8) (C := "ZipGuardModel") (T := F_M) (N := 31) hx hb ht zi_M hown hK hP 0 rfl rfl 1 (by decide) (ht _ zm_753) (fun _ h9 => h9) rfl d_M_about_29 ?_
    refine lv_goto (tgt := 75) hx hb d_M_about_32 (by decide) ?_
    exact zreti hx hb hr hlk hK hP hD hS () [0] [] rfl (by decide) rfl (rfl) (Nat.le_of_ble_eq_true rfl) (Nat.le_of_ble_eq_true rfl) d_M_about_75)
set_option maxHeartbeats 4000000 in
set_option maxRecDepth 100000 in
theorem c_M_ab1 (l : Launch) (D : va_G) (sz : Nat) (h0 : Nat) (m_tape : Nat) (m_methods : Nat) (m_packed : Nat) (m_sizes : Nat) (m_sums : Nat) (m_datas : Nat) (m_locals : Nat) (m_localEnds : Nat) (m_names : Nat) (m_nameSizes : Nat) (m_states : Nat) (m_starts : Nat) (m_counts : Nat) (m_written : Nat) (m_lengths : Nat) (m_small : Nat) (m_codes : Nat) (m_smallCodes : Nat) (n0 : Int32) (op : Int32) (fp : Int32) (bu : Int32) (ra : Int32) (en : Int32) (to : Int32) (w1 : Int32) (w2 : Int32) (w3 : Int32) (w4 : Int32) (w5 : Int32) (th : Int32)  : Met l y_M_about (Cond.code y_M_about prog_10_method_52_code 2 (Option.some Jvm.ClassFile.FieldType.int) :: zt) { frames := 1, cells := 0, slots := 0, locals := 22 } (zPc [.ref h0, .int 1] D [(h0, .inr (8, [.ref m_tape, .int n0, .int op, .int fp, .int bu, .int ra, .int en, .ref m_methods, .ref m_packed, .ref m_sizes, .ref m_sums, .ref m_datas, .ref m_locals, .ref m_localEnds, .ref m_names, .ref m_nameSizes, .ref m_states, .ref m_starts, .ref m_counts, .ref m_written, .int to, .int w1, .int w2, .int w3, .ref m_lengths, .ref m_small, .ref m_codes, .ref m_smallCodes, .int w4, .int w5, .int th]))] [] sz (fun _ => True)) (va_Qi (fun (r : Int32) => fun (_ : Unit) => r = en) (fun u t => zB D ((fun (_ : Unit) => [(h0, .inr (8, [.ref m_tape, .int n0, .int op, .int fp, .int bu, .int ra, .int en, .ref m_methods, .ref m_packed, .ref m_sizes, .ref m_sums, .ref m_datas, .ref m_locals, .ref m_localEnds, .ref m_names, .ref m_nameSizes, .ref m_states, .ref m_starts, .ref m_counts, .ref m_written, .int to, .int w1, .int w2, .int w3, .ref m_lengths, .ref m_small, .ref m_codes, .ref m_smallCodes, .int w4, .int w5, .int 0]))]) u) ((fun (_ : Unit) => []) u) (va_A [(h0, .inr (8, [.ref m_tape, .int n0, .int op, .int fp, .int bu, .int ra, .int en, .ref m_methods, .ref m_packed, .ref m_sizes, .ref m_sums, .ref m_datas, .ref m_locals, .ref m_localEnds, .ref m_names, .ref m_nameSizes, .ref m_states, .ref m_starts, .ref m_counts, .ref m_written, .int to, .int w1, .int w2, .int w3, .ref m_lengths, .ref m_small, .ref m_codes, .ref m_smallCodes, .int w4, .int w5, .int th]))] sz) t) (va_A [(h0, .inr (8, [.ref m_tape, .int n0, .int op, .int fp, .int bu, .int ra, .int en, .ref m_methods, .ref m_packed, .ref m_sizes, .ref m_sums, .ref m_datas, .ref m_locals, .ref m_localEnds, .ref m_names, .ref m_nameSizes, .ref m_states, .ref m_starts, .ref m_counts, .ref m_written, .int to, .int w1, .int w2, .int w3, .ref m_lengths, .ref m_small, .ref m_codes, .ref m_smallCodes, .int w4, .int w5, .int th]))] sz)) 0 0 (va_A [(h0, .inr (8, [.ref m_tape, .int n0, .int op, .int fp, .int bu, .int ra, .int en, .ref m_methods, .ref m_packed, .ref m_sizes, .ref m_sums, .ref m_datas, .ref m_locals, .ref m_localEnds, .ref m_names, .ref m_nameSizes, .ref m_states, .ref m_starts, .ref m_counts, .ref m_written, .int to, .int w1, .int w2, .int w3, .ref m_lengths, .ref m_small, .ref m_codes, .ref m_smallCodes, .int w4, .int w5, .int th]))] sz) :=
  zMet (Qf := fun A => va_Qi (fun (r : Int32) => fun (_ : Unit) => r = en) (fun u t => zB D ((fun (_ : Unit) => [(h0, .inr (8, [.ref m_tape, .int n0, .int op, .int fp, .int bu, .int ra, .int en, .ref m_methods, .ref m_packed, .ref m_sizes, .ref m_sums, .ref m_datas, .ref m_locals, .ref m_localEnds, .ref m_names, .ref m_nameSizes, .ref m_states, .ref m_starts, .ref m_counts, .ref m_written, .int to, .int w1, .int w2, .int w3, .ref m_lengths, .ref m_small, .ref m_codes, .ref m_smallCodes, .int w4, .int w5, .int 0]))]) u) ((fun (_ : Unit) => []) u) A t) A) (by decide) (Nat.le_of_ble_eq_true rfl) (fun p e s m below meth c A ls hx hb hr hml hown ht hlk hnm hA hK hP hD hX hl => by
    have hS : va_S A s.heap s.heap [] := va_S.rf
    have hl : lv_has ls 2 [(0, .ref h0), (1, .int 1)] := hl
    refine lv_aload_n hx hb d_M_about_0 rfl (lv_at hl 0 rfl) ?_
    refine lv_iload_n hx hb d_M_about_1 rfl (lv_at hl 1 rfl) ?_
    refine lv_if_lt (tgt := 10) hx hb d_M_about_2 (by decide) (fun h => absurd h (by decide)) (fun _ => ?_)
    refine lv_iload_n hx hb d_M_about_5 rfl (lv_at hl 1 rfl) ?_
    refine lv_iconst (v := 4) hx hb d_M_about_6 (by decide) ?_
    refine lv_icmp_le (tgt := 14) hx hb d_M_about_7 (by decide) (fun _ => ?_) (fun h => absurd (by decide) h)
    refine lv_iconst (v := 0) hx hb d_M_about_14 (by decide) ?_
    refine lv_iconst (v := 1) hx hb d_M_about_15 (by decide) ?_
    refine zji (wr := []) (va_runV (As := [.int 0, .int 1]) (rest := []) ⟨hx, hb, hml, hown, ht⟩ (c_M_f0 l D _ h0 m_tape m_methods m_packed m_sizes m_sums m_datas m_locals m_localEnds m_names m_nameSizes m_states m_starts m_counts m_written m_lengths m_small m_codes m_smallCodes n0 op fp bu ra en to w1 w2 w3 w4 w5 th 1 ) (cwV 2 ht (zt_goodV zm_855 zm_856 zm_30 zm_79 zm_857) rfl rfl rfl (by decide +kernel) ⟨Nat.le_of_ble_eq_true rfl, Nat.le_of_ble_eq_true rfl⟩) (zpreV zBlind_t hK hP hD [0] [] rfl (by decide) rfl (fun _ _ _ => trivial) (va_recv (q := ("ZipGuardModel", F_M, 31)) hK hP rfl (q0 := 0) (ci := 8) rfl)) rfl rfl hl.1 rfl (lv_room (Nat.le_of_ble_eq_true rfl)) d_M_about_16 ⟨Nat.le_of_ble_eq_true rfl, Nat.le_of_ble_eq_true rfl⟩) hK hP hD hS hA [0] [] rfl rfl (by decide) (by decide) (fun r3 u H locs hp4 hP hD hK hS => ?_)
    have hP : va_P D zcl [(h0, .inr (8, [.ref m_tape, .int n0, .int op, .int fp, .int bu, .int ra, .int en, .ref m_methods, .ref m_packed, .ref m_sizes, .ref m_sums, .ref m_datas, .ref m_locals, .ref m_localEnds, .ref m_names, .ref m_nameSizes, .ref m_states, .ref m_starts, .ref m_counts, .ref m_written, .int to, .int w1, .int w2, .int w3, .ref m_lengths, .ref m_small, .ref m_codes, .ref m_smallCodes, .int w4, .int w5, .int 0]))] H := hP
    have hD : va_D A [(h0, .inr (8, [.ref m_tape, .int n0, .int op, .int fp, .int bu, .int ra, .int en, .ref m_methods, .ref m_packed, .ref m_sizes, .ref m_sums, .ref m_datas, .ref m_locals, .ref m_localEnds, .ref m_names, .ref m_nameSizes, .ref m_states, .ref m_starts, .ref m_counts, .ref m_written, .int to, .int w1, .int w2, .int w3, .ref m_lengths, .ref m_small, .ref m_codes, .ref m_smallCodes, .int w4, .int w5, .int 0]))] := hD
    have hK : va_K D zcl [] s := hK
    subst hp4
    refine lv_if_eq (tgt := 24) hx hb d_M_about_19 (by decide) (fun _ => ?_) (fun h => absurd (by decide) h)
    refine lv_iload_n hx hb d_M_about_24 rfl (lv_at hl 1 rfl) ?_
    refine lv_if_ne (tgt := 35) hx hb d_M_about_25 (by decide) (fun _ => ?_) (fun h => absurd h (by decide))
    refine lv_iload_n hx hb d_M_about_35 rfl (lv_at hl 1 rfl) ?_
    refine lv_iconst (v := 1) hx hb d_M_about_36 (by decide) ?_
    refine lv_icmp_ne (tgt := 47) hx hb d_M_about_37 (by decide) (fun h => absurd (by decide) h) (fun _ => ?_)
    refine lv_aload_n hx hb d_M_about_40 rfl (lv_at hl 0 rfl) ?_
    refine va_get (ci := 8) (C := "ZipGuardModel") (T := F_M) (N := 31) hx hb ht zi_M hown hK hP 0 rfl rfl 6 (by decide) (ht _ zm_758) (fun _ h9 => h9) rfl d_M_about_41 ?_
    refine lv_goto (tgt := 75) hx hb d_M_about_44 (by decide) ?_
    exact zreti hx hb hr hlk hK hP hD hS () [0] [] rfl (by decide) rfl (rfl) (Nat.le_of_ble_eq_true rfl) (Nat.le_of_ble_eq_true rfl) d_M_about_75)
set_option maxHeartbeats 4000000 in
set_option maxRecDepth 100000 in
theorem c_M_ab2 (l : Launch) (D : va_G) (sz : Nat) (h0 : Nat) (m_tape : Nat) (m_methods : Nat) (m_packed : Nat) (m_sizes : Nat) (m_sums : Nat) (m_datas : Nat) (m_locals : Nat) (m_localEnds : Nat) (m_names : Nat) (m_nameSizes : Nat) (m_states : Nat) (m_starts : Nat) (m_counts : Nat) (m_written : Nat) (m_lengths : Nat) (m_small : Nat) (m_codes : Nat) (m_smallCodes : Nat) (n0 : Int32) (op : Int32) (fp : Int32) (bu : Int32) (ra : Int32) (en : Int32) (to : Int32) (w1 : Int32) (w2 : Int32) (w3 : Int32) (w4 : Int32) (w5 : Int32) (th : Int32)  : Met l y_M_about (Cond.code y_M_about prog_10_method_52_code 2 (Option.some Jvm.ClassFile.FieldType.int) :: zt) { frames := 1, cells := 0, slots := 0, locals := 22 } (zPc [.ref h0, .int 2] D [(h0, .inr (8, [.ref m_tape, .int n0, .int op, .int fp, .int bu, .int ra, .int en, .ref m_methods, .ref m_packed, .ref m_sizes, .ref m_sums, .ref m_datas, .ref m_locals, .ref m_localEnds, .ref m_names, .ref m_nameSizes, .ref m_states, .ref m_starts, .ref m_counts, .ref m_written, .int to, .int w1, .int w2, .int w3, .ref m_lengths, .ref m_small, .ref m_codes, .ref m_smallCodes, .int w4, .int w5, .int th]))] [] sz (fun _ => True)) (va_Qi (fun (r : Int32) => fun (_ : Unit) => r = to) (fun u t => zB D ((fun (_ : Unit) => [(h0, .inr (8, [.ref m_tape, .int n0, .int op, .int fp, .int bu, .int ra, .int en, .ref m_methods, .ref m_packed, .ref m_sizes, .ref m_sums, .ref m_datas, .ref m_locals, .ref m_localEnds, .ref m_names, .ref m_nameSizes, .ref m_states, .ref m_starts, .ref m_counts, .ref m_written, .int to, .int w1, .int w2, .int w3, .ref m_lengths, .ref m_small, .ref m_codes, .ref m_smallCodes, .int w4, .int w5, .int 0]))]) u) ((fun (_ : Unit) => []) u) (va_A [(h0, .inr (8, [.ref m_tape, .int n0, .int op, .int fp, .int bu, .int ra, .int en, .ref m_methods, .ref m_packed, .ref m_sizes, .ref m_sums, .ref m_datas, .ref m_locals, .ref m_localEnds, .ref m_names, .ref m_nameSizes, .ref m_states, .ref m_starts, .ref m_counts, .ref m_written, .int to, .int w1, .int w2, .int w3, .ref m_lengths, .ref m_small, .ref m_codes, .ref m_smallCodes, .int w4, .int w5, .int th]))] sz) t) (va_A [(h0, .inr (8, [.ref m_tape, .int n0, .int op, .int fp, .int bu, .int ra, .int en, .ref m_methods, .ref m_packed, .ref m_sizes, .ref m_sums, .ref m_datas, .ref m_locals, .ref m_localEnds, .ref m_names, .ref m_nameSizes, .ref m_states, .ref m_starts, .ref m_counts, .ref m_written, .int to, .int w1, .int w2, .int w3, .ref m_lengths, .ref m_small, .ref m_codes, .ref m_smallCodes, .int w4, .int w5, .int th]))] sz)) 0 0 (va_A [(h0, .inr (8, [.ref m_tape, .int n0, .int op, .int fp, .int bu, .int ra, .int en, .ref m_methods, .ref m_packed, .ref m_sizes, .ref m_sums, .ref m_datas, .ref m_locals, .ref m_localEnds, .ref m_names, .ref m_nameSizes, .ref m_states, .ref m_starts, .ref m_counts, .ref m_written, .int to, .int w1, .int w2, .int w3, .ref m_lengths, .ref m_small, .ref m_codes, .ref m_smallCodes, .int w4, .int w5, .int th]))] sz) :=
  zMet (Qf := fun A => va_Qi (fun (r : Int32) => fun (_ : Unit) => r = to) (fun u t => zB D ((fun (_ : Unit) => [(h0, .inr (8, [.ref m_tape, .int n0, .int op, .int fp, .int bu, .int ra, .int en, .ref m_methods, .ref m_packed, .ref m_sizes, .ref m_sums, .ref m_datas, .ref m_locals, .ref m_localEnds, .ref m_names, .ref m_nameSizes, .ref m_states, .ref m_starts, .ref m_counts, .ref m_written, .int to, .int w1, .int w2, .int w3, .ref m_lengths, .ref m_small, .ref m_codes, .ref m_smallCodes, .int w4, .int w5, .int 0]))]) u) ((fun (_ : Unit) => []) u) A t) A) (by decide) (Nat.le_of_ble_eq_true rfl) (fun p e s m below meth c A ls hx hb hr hml hown ht hlk hnm hA hK hP hD hX hl => by
    have hS : va_S A s.heap s.heap [] := va_S.rf
    have hl : lv_has ls 2 [(0, .ref h0), (1, .int 2)] := hl
    refine lv_aload_n hx hb d_M_about_0 rfl (lv_at hl 0 rfl) ?_
    refine lv_iload_n hx hb d_M_about_1 rfl (lv_at hl 1 rfl) ?_
    refine lv_if_lt (tgt := 10) hx hb d_M_about_2 (by decide) (fun h => absurd h (by decide)) (fun _ => ?_)
    refine lv_iload_n hx hb d_M_about_5 rfl (lv_at hl 1 rfl) ?_
    refine lv_iconst (v := 4) hx hb d_M_about_6 (by decide) ?_
    refine lv_icmp_le (tgt := 14) hx hb d_M_about_7 (by decide) (fun _ => ?_) (fun h => absurd (by decide) h)
    refine lv_iconst (v := 0) hx hb d_M_about_14 (by decide) ?_
    refine lv_iconst (v := 1) hx hb d_M_about_15 (by decide) ?_
    refine zji (wr := []) (va_runV (As := [.int 0, .int 1]) (rest := []) ⟨hx, hb, hml, hown, ht⟩ (c_M_f0 l D _ h0 m_tape m_methods m_packed m_sizes m_sums m_datas m_locals m_localEnds m_names m_nameSizes m_states m_starts m_counts m_written m_lengths m_small m_codes m_smallCodes n0 op fp bu ra en to w1 w2 w3 w4 w5 th 1 ) (cwV 2 ht (zt_goodV zm_855 zm_856 zm_30 zm_79 zm_857) rfl rfl rfl (by decide +kernel) ⟨Nat.le_of_ble_eq_true rfl, Nat.le_of_ble_eq_true rfl⟩) (zpreV zBlind_t hK hP hD [0] [] rfl (by decide) rfl (fun _ _ _ => trivial) (va_recv (q := ("ZipGuardModel", F_M, 31)) hK hP rfl (q0 := 0) (ci := 8) rfl)) rfl rfl hl.1 rfl (lv_room (Nat.le_of_ble_eq_true rfl)) d_M_about_16 ⟨Nat.le_of_ble_eq_true rfl, Nat.le_of_ble_eq_true rfl⟩) hK hP hD hS hA [0] [] rfl rfl (by decide) (by decide) (fun r3 u H locs hp4 hP hD hK hS => ?_)
    have hP : va_P D zcl [(h0, .inr (8, [.ref m_tape, .int n0, .int op, .int fp, .int bu, .int ra, .int en, .ref m_methods, .ref m_packed, .ref m_sizes, .ref m_sums, .ref m_datas, .ref m_locals, .ref m_localEnds, .ref m_names, .ref m_nameSizes, .ref m_states, .ref m_starts, .ref m_counts, .ref m_written, .int to, .int w1, .int w2, .int w3, .ref m_lengths, .ref m_small, .ref m_codes, .ref m_smallCodes, .int w4, .int w5, .int 0]))] H := hP
    have hD : va_D A [(h0, .inr (8, [.ref m_tape, .int n0, .int op, .int fp, .int bu, .int ra, .int en, .ref m_methods, .ref m_packed, .ref m_sizes, .ref m_sums, .ref m_datas, .ref m_locals, .ref m_localEnds, .ref m_names, .ref m_nameSizes, .ref m_states, .ref m_starts, .ref m_counts, .ref m_written, .int to, .int w1, .int w2, .int w3, .ref m_lengths, .ref m_small, .ref m_codes, .ref m_smallCodes, .int w4, .int w5, .int 0]))] := hD
    have hK : va_K D zcl [] s := hK
    subst hp4
    refine lv_if_eq (tgt := 24) hx hb d_M_about_19 (by decide) (fun _ => ?_) (fun h => absurd (by decide) h)
    refine lv_iload_n hx hb d_M_about_24 rfl (lv_at hl 1 rfl) ?_
    refine lv_if_ne (tgt := 35) hx hb d_M_about_25 (by decide) (fun _ => ?_) (fun h => absurd h (by decide))
    refine lv_iload_n hx hb d_M_about_35 rfl (lv_at hl 1 rfl) ?_
    refine lv_iconst (v := 1) hx hb d_M_about_36 (by decide) ?_
    refine lv_icmp_ne (tgt := 47) hx hb d_M_about_37 (by decide) (fun _ => ?_) (fun h => absurd h (by decide))
    refine lv_iload_n hx hb d_M_about_47 rfl (lv_at hl 1 rfl) ?_
    refine lv_iconst (v := 2) hx hb d_M_about_48 (by decide) ?_
    refine lv_icmp_ne (tgt := 59) hx hb d_M_about_49 (by decide) (fun h => absurd (by decide) h) (fun _ => ?_)
    refine lv_aload_n hx hb d_M_about_52 rfl (lv_at hl 0 rfl) ?_
    refine va_get (ci := 8) (C := "ZipGuardModel") (T := F_M) (N := 31) hx hb ht zi_M hown hK hP 0 rfl rfl 20 (by decide) (ht _ zm_772) (fun _ h9 => h9) rfl d_M_about_53 ?_
    refine lv_goto (tgt := 75) hx hb d_M_about_56 (by decide) ?_
    exact zreti hx hb hr hlk hK hP hD hS () [0] [] rfl (by decide) rfl (rfl) (Nat.le_of_ble_eq_true rfl) (Nat.le_of_ble_eq_true rfl) d_M_about_75)
set_option maxHeartbeats 4000000 in
set_option maxRecDepth 100000 in
theorem c_M_ab3 (l : Launch) (D : va_G) (sz : Nat) (h0 : Nat) (m_tape : Nat) (m_methods : Nat) (m_packed : Nat) (m_sizes : Nat) (m_sums : Nat) (m_datas : Nat) (m_locals : Nat) (m_localEnds : Nat) (m_names : Nat) (m_nameSizes : Nat) (m_states : Nat) (m_starts : Nat) (m_counts : Nat) (m_written : Nat) (m_lengths : Nat) (m_small : Nat) (m_codes : Nat) (m_smallCodes : Nat) (n0 : Int32) (op : Int32) (fp : Int32) (bu : Int32) (ra : Int32) (en : Int32) (to : Int32) (w1 : Int32) (w2 : Int32) (w3 : Int32) (w4 : Int32) (w5 : Int32) (th : Int32)  : Met l y_M_about (Cond.code y_M_about prog_10_method_52_code 2 (Option.some Jvm.ClassFile.FieldType.int) :: zt) { frames := 1, cells := 0, slots := 0, locals := 22 } (zPc [.ref h0, .int 3] D [(h0, .inr (8, [.ref m_tape, .int n0, .int op, .int fp, .int bu, .int ra, .int en, .ref m_methods, .ref m_packed, .ref m_sizes, .ref m_sums, .ref m_datas, .ref m_locals, .ref m_localEnds, .ref m_names, .ref m_nameSizes, .ref m_states, .ref m_starts, .ref m_counts, .ref m_written, .int to, .int w1, .int w2, .int w3, .ref m_lengths, .ref m_small, .ref m_codes, .ref m_smallCodes, .int w4, .int w5, .int th]))] [] sz (fun _ => True)) (va_Qi (fun (r : Int32) => fun (_ : Unit) => r = bu) (fun u t => zB D ((fun (_ : Unit) => [(h0, .inr (8, [.ref m_tape, .int n0, .int op, .int fp, .int bu, .int ra, .int en, .ref m_methods, .ref m_packed, .ref m_sizes, .ref m_sums, .ref m_datas, .ref m_locals, .ref m_localEnds, .ref m_names, .ref m_nameSizes, .ref m_states, .ref m_starts, .ref m_counts, .ref m_written, .int to, .int w1, .int w2, .int w3, .ref m_lengths, .ref m_small, .ref m_codes, .ref m_smallCodes, .int w4, .int w5, .int 0]))]) u) ((fun (_ : Unit) => []) u) (va_A [(h0, .inr (8, [.ref m_tape, .int n0, .int op, .int fp, .int bu, .int ra, .int en, .ref m_methods, .ref m_packed, .ref m_sizes, .ref m_sums, .ref m_datas, .ref m_locals, .ref m_localEnds, .ref m_names, .ref m_nameSizes, .ref m_states, .ref m_starts, .ref m_counts, .ref m_written, .int to, .int w1, .int w2, .int w3, .ref m_lengths, .ref m_small, .ref m_codes, .ref m_smallCodes, .int w4, .int w5, .int th]))] sz) t) (va_A [(h0, .inr (8, [.ref m_tape, .int n0, .int op, .int fp, .int bu, .int ra, .int en, .ref m_methods, .ref m_packed, .ref m_sizes, .ref m_sums, .ref m_datas, .ref m_locals, .ref m_localEnds, .ref m_names, .ref m_nameSizes, .ref m_states, .ref m_starts, .ref m_counts, .ref m_written, .int to, .int w1, .int w2, .int w3, .ref m_lengths, .ref m_small, .ref m_codes, .ref m_smallCodes, .int w4, .int w5, .int th]))] sz)) 0 0 (va_A [(h0, .inr (8, [.ref m_tape, .int n0, .int op, .int fp, .int bu, .int ra, .int en, .ref m_methods, .ref m_packed, .ref m_sizes, .ref m_sums, .ref m_datas, .ref m_locals, .ref m_localEnds, .ref m_names, .ref m_nameSizes, .ref m_states, .ref m_starts, .ref m_counts, .ref m_written, .int to, .int w1, .int w2, .int w3, .ref m_lengths, .ref m_small, .ref m_codes, .ref m_smallCodes, .int w4, .int w5, .int th]))] sz) :=
  zMet (Qf := fun A => va_Qi (fun (r : Int32) => fun (_ : Unit) => r = bu) (fun u t => zB D ((fun (_ : Unit) => [(h0, .inr (8, [.ref m_tape, .int n0, .int op, .int fp, .int bu, .int ra, .int en, .ref m_methods, .ref m_packed, .ref m_sizes, .ref m_sums, .ref m_datas, .ref m_locals, .ref m_localEnds, .ref m_names, .ref m_nameSizes, .ref m_states, .ref m_starts, .ref m_counts, .ref m_written, .int to, .int w1, .int w2, .int w3, .ref m_lengths, .ref m_small, .ref m_codes, .ref m_smallCodes, .int w4, .int w5, .int 0]))]) u) ((fun (_ : Unit) => []) u) A t) A) (by decide) (Nat.le_of_ble_eq_true rfl) (fun p e s m below meth c A ls hx hb hr hml hown ht hlk hnm hA hK hP hD hX hl => by
    have hS : va_S A s.heap s.heap [] := va_S.rf
    have hl : lv_has ls 2 [(0, .ref h0), (1, .int 3)] := hl
    refine lv_aload_n hx hb d_M_about_0 rfl (lv_at hl 0 rfl) ?_
    refine lv_iload_n hx hb d_M_about_1 rfl (lv_at hl 1 rfl) ?_
    refine lv_if_lt (tgt := 10) hx hb d_M_about_2 (by decide) (fun h => absurd h (by decide)) (fun _ => ?_)
    refine lv_iload_n hx hb d_M_about_5 rfl (lv_at hl 1 rfl) ?_
    refine lv_iconst (v := 4) hx hb d_M_about_6 (by decide) ?_
    refine lv_icmp_le (tgt := 14) hx hb d_M_about_7 (by decide) (fun _ => ?_) (fun h => absurd (by decide) h)
    refine lv_iconst (v := 0) hx hb d_M_about_14 (by decide) ?_
    refine lv_iconst (v := 1) hx hb d_M_about_15 (by decide) ?_
    refine zji (wr := []) (va_runV (As := [.int 0, .int 1]) (rest := []) ⟨hx, hb, hml, hown, ht⟩ (c_M_f0 l D _ h0 m_tape m_methods m_packed m_sizes m_sums m_datas m_locals m_localEnds m_names m_nameSizes m_states m_starts m_counts m_written m_lengths m_small m_codes m_smallCodes n0 op fp bu ra en to w1 w2 w3 w4 w5 th 1 ) (cwV 2 ht (zt_goodV zm_855 zm_856 zm_30 zm_79 zm_857) rfl rfl rfl (by decide +kernel) ⟨Nat.le_of_ble_eq_true rfl, Nat.le_of_ble_eq_true rfl⟩) (zpreV zBlind_t hK hP hD [0] [] rfl (by decide) rfl (fun _ _ _ => trivial) (va_recv (q := ("ZipGuardModel", F_M, 31)) hK hP rfl (q0 := 0) (ci := 8) rfl)) rfl rfl hl.1 rfl (lv_room (Nat.le_of_ble_eq_true rfl)) d_M_about_16 ⟨Nat.le_of_ble_eq_true rfl, Nat.le_of_ble_eq_true rfl⟩) hK hP hD hS hA [0] [] rfl rfl (by decide) (by decide) (fun r3 u H locs hp4 hP hD hK hS => ?_)
    have hP : va_P D zcl [(h0, .inr (8, [.ref m_tape, .int n0, .int op, .int fp, .int bu, .int ra, .int en, .ref m_methods, .ref m_packed, .ref m_sizes, .ref m_sums, .ref m_datas, .ref m_locals, .ref m_localEnds, .ref m_names, .ref m_nameSizes, .ref m_states, .ref m_starts, .ref m_counts, .ref m_written, .int to, .int w1, .int w2, .int w3, .ref m_lengths, .ref m_small, .ref m_codes, .ref m_smallCodes, .int w4, .int w5, .int 0]))] H := hP
    have hD : va_D A [(h0, .inr (8, [.ref m_tape, .int n0, .int op, .int fp, .int bu, .int ra, .int en, .ref m_methods, .ref m_packed, .ref m_sizes, .ref m_sums, .ref m_datas, .ref m_locals, .ref m_localEnds, .ref m_names, .ref m_nameSizes, .ref m_states, .ref m_starts, .ref m_counts, .ref m_written, .int to, .int w1, .int w2, .int w3, .ref m_lengths, .ref m_small, .ref m_codes, .ref m_smallCodes, .int w4, .int w5, .int 0]))] := hD
    have hK : va_K D zcl [] s := hK
    subst hp4
    refine lv_if_eq (tgt := 24) hx hb d_M_about_19 (by decide) (fun _ => ?_) (fun h => absurd (by decide) h)
    refine lv_iload_n hx hb d_M_about_24 rfl (lv_at hl 1 rfl) ?_
    refine lv_if_ne (tgt := 35) hx hb d_M_about_25 (by decide) (fun _ => ?_) (fun h => absurd h (by decide))
    refine lv_iload_n hx hb d_M_about_35 rfl (lv_at hl 1 rfl) ?_
    refine lv_iconst (v := 1) hx hb d_M_about_36 (by decide) ?_
    refine lv_icmp_ne (tgt := 47) hx hb d_M_about_37 (by decide) (fun _ => ?_) (fun h => absurd h (by decide))
    refine lv_iload_n hx hb d_M_about_47 rfl (lv_at hl 1 rfl) ?_
    refine lv_iconst (v := 2) hx hb d_M_about_48 (by decide) ?_
    refine lv_icmp_ne (tgt := 59) hx hb d_M_about_49 (by decide) (fun _ => ?_) (fun h => absurd h (by decide))
    refine lv_iload_n hx hb d_M_about_59 rfl (lv_at hl 1 rfl) ?_
    refine lv_iconst (v := 3) hx hb d_M_about_60 (by decide) ?_
    refine lv_icmp_ne (tgt := 71) hx hb d_M_about_61 (by decide) (fun h => absurd (by decide) h) (fun _ => ?_)
    refine lv_aload_n hx hb d_M_about_64 rfl (lv_at hl 0 rfl) ?_
    refine va_get (ci := 8) (C := "ZipGuardModel") (T := F_M) (N := 31) hx hb ht zi_M hown hK hP 0 rfl rfl 4 (by decide) (ht _ zm_756) (fun _ h9 => h9) rfl d_M_about_65 ?_
    refine lv_goto (tgt := 75) hx hb d_M_about_68 (by decide) ?_
    exact zreti hx hb hr hlk hK hP hD hS () [0] [] rfl (by decide) rfl (rfl) (Nat.le_of_ble_eq_true rfl) (Nat.le_of_ble_eq_true rfl) d_M_about_75)
set_option maxHeartbeats 4000000 in
set_option maxRecDepth 100000 in
theorem c_M_ab4 (l : Launch) (D : va_G) (sz : Nat) (h0 : Nat) (m_tape : Nat) (m_methods : Nat) (m_packed : Nat) (m_sizes : Nat) (m_sums : Nat) (m_datas : Nat) (m_locals : Nat) (m_localEnds : Nat) (m_names : Nat) (m_nameSizes : Nat) (m_states : Nat) (m_starts : Nat) (m_counts : Nat) (m_written : Nat) (m_lengths : Nat) (m_small : Nat) (m_codes : Nat) (m_smallCodes : Nat) (n0 : Int32) (op : Int32) (fp : Int32) (bu : Int32) (ra : Int32) (en : Int32) (to : Int32) (w1 : Int32) (w2 : Int32) (w3 : Int32) (w4 : Int32) (w5 : Int32) (th : Int32)  : Met l y_M_about (Cond.code y_M_about prog_10_method_52_code 2 (Option.some Jvm.ClassFile.FieldType.int) :: zt) { frames := 1, cells := 0, slots := 0, locals := 22 } (zPc [.ref h0, .int 4] D [(h0, .inr (8, [.ref m_tape, .int n0, .int op, .int fp, .int bu, .int ra, .int en, .ref m_methods, .ref m_packed, .ref m_sizes, .ref m_sums, .ref m_datas, .ref m_locals, .ref m_localEnds, .ref m_names, .ref m_nameSizes, .ref m_states, .ref m_starts, .ref m_counts, .ref m_written, .int to, .int w1, .int w2, .int w3, .ref m_lengths, .ref m_small, .ref m_codes, .ref m_smallCodes, .int w4, .int w5, .int th]))] [] sz (fun _ => True)) (va_Qi (fun (r : Int32) => fun (_ : Unit) => r = ra) (fun u t => zB D ((fun (_ : Unit) => [(h0, .inr (8, [.ref m_tape, .int n0, .int op, .int fp, .int bu, .int ra, .int en, .ref m_methods, .ref m_packed, .ref m_sizes, .ref m_sums, .ref m_datas, .ref m_locals, .ref m_localEnds, .ref m_names, .ref m_nameSizes, .ref m_states, .ref m_starts, .ref m_counts, .ref m_written, .int to, .int w1, .int w2, .int w3, .ref m_lengths, .ref m_small, .ref m_codes, .ref m_smallCodes, .int w4, .int w5, .int 0]))]) u) ((fun (_ : Unit) => []) u) (va_A [(h0, .inr (8, [.ref m_tape, .int n0, .int op, .int fp, .int bu, .int ra, .int en, .ref m_methods, .ref m_packed, .ref m_sizes, .ref m_sums, .ref m_datas, .ref m_locals, .ref m_localEnds, .ref m_names, .ref m_nameSizes, .ref m_states, .ref m_starts, .ref m_counts, .ref m_written, .int to, .int w1, .int w2, .int w3, .ref m_lengths, .ref m_small, .ref m_codes, .ref m_smallCodes, .int w4, .int w5, .int th]))] sz) t) (va_A [(h0, .inr (8, [.ref m_tape, .int n0, .int op, .int fp, .int bu, .int ra, .int en, .ref m_methods, .ref m_packed, .ref m_sizes, .ref m_sums, .ref m_datas, .ref m_locals, .ref m_localEnds, .ref m_names, .ref m_nameSizes, .ref m_states, .ref m_starts, .ref m_counts, .ref m_written, .int to, .int w1, .int w2, .int w3, .ref m_lengths, .ref m_small, .ref m_codes, .ref m_smallCodes, .int w4, .int w5, .int th]))] sz)) 0 0 (va_A [(h0, .inr (8, [.ref m_tape, .int n0, .int op, .int fp, .int bu, .int ra, .int en, .ref m_methods, .ref m_packed, .ref m_sizes, .ref m_sums, .ref m_datas, .ref m_locals, .ref m_localEnds, .ref m_names, .ref m_nameSizes, .ref m_states, .ref m_starts, .ref m_counts, .ref m_written, .int to, .int w1, .int w2, .int w3, .ref m_lengths, .ref m_small, .ref m_codes, .ref m_smallCodes, .int w4, .int w5, .int th]))] sz) :=
  zMet (Qf := fun A => va_Qi (fun (r : Int32) => fun (_ : Unit) => r = ra) (fun u t => zB D ((fun (_ : Unit) => [(h0, .inr (8, [.ref m_tape, .int n0, .int op, .int fp, .int bu, .int ra, .int en, .ref m_methods, .ref m_packed, .ref m_sizes, .ref m_sums, .ref m_datas, .ref m_locals, .ref m_localEnds, .ref m_names, .ref m_nameSizes, .ref m_states, .ref m_starts, .ref m_counts, .ref m_written, .int to, .int w1, .int w2, .int w3, .ref m_lengths, .ref m_small, .ref m_codes, .ref m_smallCodes, .int w4, .int w5, .int 0]))]) u) ((fun (_ : Unit) => []) u) A t) A) (by decide) (Nat.le_of_ble_eq_true rfl) (fun p e s m below meth c A ls hx hb hr hml hown ht hlk hnm hA hK hP hD hX hl => by
    have hS : va_S A s.heap s.heap [] := va_S.rf
    have hl : lv_has ls 2 [(0, .ref h0), (1, .int 4)] := hl
    refine lv_aload_n hx hb d_M_about_0 rfl (lv_at hl 0 rfl) ?_
    refine lv_iload_n hx hb d_M_about_1 rfl (lv_at hl 1 rfl) ?_
    refine lv_if_lt (tgt := 10) hx hb d_M_about_2 (by decide) (fun h => absurd h (by decide)) (fun _ => ?_)
    refine lv_iload_n hx hb d_M_about_5 rfl (lv_at hl 1 rfl) ?_
    refine lv_iconst (v := 4) hx hb d_M_about_6 (by decide) ?_
    refine lv_icmp_le (tgt := 14) hx hb d_M_about_7 (by decide) (fun _ => ?_) (fun h => absurd (by decide) h)
    refine lv_iconst (v := 0) hx hb d_M_about_14 (by decide) ?_
    refine lv_iconst (v := 1) hx hb d_M_about_15 (by decide) ?_
    refine zji (wr := []) (va_runV (As := [.int 0, .int 1]) (rest := []) ⟨hx, hb, hml, hown, ht⟩ (c_M_f0 l D _ h0 m_tape m_methods m_packed m_sizes m_sums m_datas m_locals m_localEnds m_names m_nameSizes m_states m_starts m_counts m_written m_lengths m_small m_codes m_smallCodes n0 op fp bu ra en to w1 w2 w3 w4 w5 th 1 ) (cwV 2 ht (zt_goodV zm_855 zm_856 zm_30 zm_79 zm_857) rfl rfl rfl (by decide +kernel) ⟨Nat.le_of_ble_eq_true rfl, Nat.le_of_ble_eq_true rfl⟩) (zpreV zBlind_t hK hP hD [0] [] rfl (by decide) rfl (fun _ _ _ => trivial) (va_recv (q := ("ZipGuardModel", F_M, 31)) hK hP rfl (q0 := 0) (ci := 8) rfl)) rfl rfl hl.1 rfl (lv_room (Nat.le_of_ble_eq_true rfl)) d_M_about_16 ⟨Nat.le_of_ble_eq_true rfl, Nat.le_of_ble_eq_true rfl⟩) hK hP hD hS hA [0] [] rfl rfl (by decide) (by decide) (fun r3 u H locs hp4 hP hD hK hS => ?_)
    have hP : va_P D zcl [(h0, .inr (8, [.ref m_tape, .int n0, .int op, .int fp, .int bu, .int ra, .int en, .ref m_methods, .ref m_packed, .ref m_sizes, .ref m_sums, .ref m_datas, .ref m_locals, .ref m_localEnds, .ref m_names, .ref m_nameSizes, .ref m_states, .ref m_starts, .ref m_counts, .ref m_written, .int to, .int w1, .int w2, .int w3, .ref m_lengths, .ref m_small, .ref m_codes, .ref m_smallCodes, .int w4, .int w5, .int 0]))] H := hP
    have hD : va_D A [(h0, .inr (8, [.ref m_tape, .int n0, .int op, .int fp, .int bu, .int ra, .int en, .ref m_methods, .ref m_packed, .ref m_sizes, .ref m_sums, .ref m_datas, .ref m_locals, .ref m_localEnds, .ref m_names, .ref m_nameSizes, .ref m_states, .ref m_starts, .ref m_counts, .ref m_written, .int to, .int w1, .int w2, .int w3, .ref m_lengths, .ref m_small, .ref m_codes, .ref m_smallCodes, .int w4, .int w5, .int 0]))] := hD
    have hK : va_K D zcl [] s := hK
    subst hp4
    refine lv_if_eq (tgt := 24) hx hb d_M_about_19 (by decide) (fun _ => ?_) (fun h => absurd (by decide) h)
    refine lv_iload_n hx hb d_M_about_24 rfl (lv_at hl 1 rfl) ?_
    refine lv_if_ne (tgt := 35) hx hb d_M_about_25 (by decide) (fun _ => ?_) (fun h => absurd h (by decide))
    refine lv_iload_n hx hb d_M_about_35 rfl (lv_at hl 1 rfl) ?_
    refine lv_iconst (v := 1) hx hb d_M_about_36 (by decide) ?_
    refine lv_icmp_ne (tgt := 47) hx hb d_M_about_37 (by decide) (fun _ => ?_) (fun h => absurd h (by decide))
    refine lv_iload_n hx hb d_M_about_47 rfl (lv_at hl 1 rfl) ?_
    refine lv_iconst (v := 2) hx hb d_M_about_48 (by decide) ?_
    refine lv_icmp_ne (tgt := 59) hx hb d_M_about_49 (by decide) (fun _ => ?_) (fun h => absurd h (by decide))
    refine lv_iload_n hx hb d_M_about_59 rfl (lv_at hl 1 rfl) ?_
    refine lv_iconst (v := 3) hx hb d_M_about_60 (by decide) ?_
    refine lv_icmp_ne (tgt := 71) hx hb d_M_about_61 (by decide) (fun _ => ?_) (fun h => absurd h (by decide))
    refine lv_aload_n hx hb d_M_about_71 rfl (lv_at hl 0 rfl) ?_
    refine va_get (ci := 8) (C := "ZipGuardModel") (T := F_M) (N := 31) hx hb ht zi_M hown hK hP 0 rfl rfl 5 (by decide) (ht _ zm_757) (fun _ h9 => h9) rfl d_M_about_72 ?_
    exact zreti hx hb hr hlk hK hP hD hS () [0] [] rfl (by decide) rfl (rfl) (Nat.le_of_ble_eq_true rfl) (Nat.le_of_ble_eq_true rfl) d_M_about_75)
set_option maxHeartbeats 4000000 in
set_option maxRecDepth 100000 in
theorem c_M_abX (l : Launch) (D : va_G) (sz : Nat) (h0 : Nat) (m_tape : Nat) (m_methods : Nat) (m_packed : Nat) (m_sizes : Nat) (m_sums : Nat) (m_datas : Nat) (m_locals : Nat) (m_localEnds : Nat) (m_names : Nat) (m_nameSizes : Nat) (m_states : Nat) (m_starts : Nat) (m_counts : Nat) (m_written : Nat) (m_lengths : Nat) (m_small : Nat) (m_codes : Nat) (m_smallCodes : Nat) (n0 : Int32) (op : Int32) (fp : Int32) (bu : Int32) (ra : Int32) (en : Int32) (to : Int32) (w1 : Int32) (w2 : Int32) (w3 : Int32) (w4 : Int32) (w5 : Int32) (th : Int32) (n : Int32) (hbad : n < 0 ∨ ¬ n ≤ 4) : Met l y_M_about (Cond.code y_M_about prog_10_method_52_code 2 (Option.some Jvm.ClassFile.FieldType.int) :: zt) { frames := 1, cells := 0, slots := 0, locals := 22 } (zPc [.ref h0, .int n] D [(h0, .inr (8, [.ref m_tape, .int n0, .int op, .int fp, .int bu, .int ra, .int en, .ref m_methods, .ref m_packed, .ref m_sizes, .ref m_sums, .ref m_datas, .ref m_locals, .ref m_localEnds, .ref m_names, .ref m_nameSizes, .ref m_states, .ref m_starts, .ref m_counts, .ref m_written, .int to, .int w1, .int w2, .int w3, .ref m_lengths, .ref m_small, .ref m_codes, .ref m_smallCodes, .int w4, .int w5, .int th]))] [] sz (fun _ => True)) (va_Qi (fun (r : Int32) => fun (_ : Unit) => True) (fun u t => zB D ((fun (_ : Unit) => [(h0, .inr (8, [.ref m_tape, .int n0, .int op, .int fp, .int bu, .int ra, .int en, .ref m_methods, .ref m_packed, .ref m_sizes, .ref m_sums, .ref m_datas, .ref m_locals, .ref m_localEnds, .ref m_names, .ref m_nameSizes, .ref m_states, .ref m_starts, .ref m_counts, .ref m_written, .int to, .int w1, .int w2, .int w3, .ref m_lengths, .ref m_small, .ref m_codes, .ref m_smallCodes, .int w4, .int w5, .int 1]))]) u) ((fun (_ : Unit) => []) u) (va_A [(h0, .inr (8, [.ref m_tape, .int n0, .int op, .int fp, .int bu, .int ra, .int en, .ref m_methods, .ref m_packed, .ref m_sizes, .ref m_sums, .ref m_datas, .ref m_locals, .ref m_localEnds, .ref m_names, .ref m_nameSizes, .ref m_states, .ref m_starts, .ref m_counts, .ref m_written, .int to, .int w1, .int w2, .int w3, .ref m_lengths, .ref m_small, .ref m_codes, .ref m_smallCodes, .int w4, .int w5, .int th]))] sz) t) (va_A [(h0, .inr (8, [.ref m_tape, .int n0, .int op, .int fp, .int bu, .int ra, .int en, .ref m_methods, .ref m_packed, .ref m_sizes, .ref m_sums, .ref m_datas, .ref m_locals, .ref m_localEnds, .ref m_names, .ref m_nameSizes, .ref m_states, .ref m_starts, .ref m_counts, .ref m_written, .int to, .int w1, .int w2, .int w3, .ref m_lengths, .ref m_small, .ref m_codes, .ref m_smallCodes, .int w4, .int w5, .int th]))] sz)) 0 0 (va_A [(h0, .inr (8, [.ref m_tape, .int n0, .int op, .int fp, .int bu, .int ra, .int en, .ref m_methods, .ref m_packed, .ref m_sizes, .ref m_sums, .ref m_datas, .ref m_locals, .ref m_localEnds, .ref m_names, .ref m_nameSizes, .ref m_states, .ref m_starts, .ref m_counts, .ref m_written, .int to, .int w1, .int w2, .int w3, .ref m_lengths, .ref m_small, .ref m_codes, .ref m_smallCodes, .int w4, .int w5, .int th]))] sz) :=
  zMet (Qf := fun A => va_Qi (fun (r : Int32) => fun (_ : Unit) => True) (fun u t => zB D ((fun (_ : Unit) => [(h0, .inr (8, [.ref m_tape, .int n0, .int op, .int fp, .int bu, .int ra, .int en, .ref m_methods, .ref m_packed, .ref m_sizes, .ref m_sums, .ref m_datas, .ref m_locals, .ref m_localEnds, .ref m_names, .ref m_nameSizes, .ref m_states, .ref m_starts, .ref m_counts, .ref m_written, .int to, .int w1, .int w2, .int w3, .ref m_lengths, .ref m_small, .ref m_codes, .ref m_smallCodes, .int w4, .int w5, .int 1]))]) u) ((fun (_ : Unit) => []) u) A t) A) (by decide) (Nat.le_of_ble_eq_true rfl) (fun p e s m below meth c A ls hx hb hr hml hown ht hlk hnm hA hK hP hD hX hl => by
    have hS : va_S A s.heap s.heap [] := va_S.rf
    have hl : lv_has ls 2 [(0, .ref h0), (1, .int n)] := hl
    refine lv_aload_n hx hb d_M_about_0 rfl (lv_at hl 0 rfl) ?_
    refine lv_iload_n hx hb d_M_about_1 rfl (lv_at hl 1 rfl) ?_
    refine lv_if_lt (tgt := 10) hx hb d_M_about_2 (by decide) (fun hc1 => ?_) (fun hc1 => ?_)
    · skip
      refine lv_iconst (v := 1) hx hb d_M_about_10 (by decide) ?_
      refine lv_goto (tgt := 15) hx hb d_M_about_11 (by decide) ?_
      refine lv_iconst (v := 1) hx hb d_M_about_15 (by decide) ?_
      refine zji (wr := []) (va_runV (As := [.int 1, .int 1]) (rest := []) ⟨hx, hb, hml, hown, ht⟩ (c_M_f1 l D _ h0 m_tape m_methods m_packed m_sizes m_sums m_datas m_locals m_localEnds m_names m_nameSizes m_states m_starts m_counts m_written m_lengths m_small m_codes m_smallCodes n0 op fp bu ra en to w1 w2 w3 w4 w5 th 1 ) (cwV 2 ht (zt_goodV zm_855 zm_856 zm_30 zm_79 zm_857) rfl rfl rfl (by decide +kernel) ⟨Nat.le_of_ble_eq_true rfl, Nat.le_of_ble_eq_true rfl⟩) (zpreV zBlind_t hK hP hD [0] [] rfl (by decide) rfl (fun _ _ _ => trivial) (va_recv (q := ("ZipGuardModel", F_M, 31)) hK hP rfl (q0 := 0) (ci := 8) rfl)) rfl rfl hl.1 rfl (lv_room (Nat.le_of_ble_eq_true rfl)) d_M_about_16 ⟨Nat.le_of_ble_eq_true rfl, Nat.le_of_ble_eq_true rfl⟩) hK hP hD hS hA [0] [] rfl rfl (by decide) (by decide) (fun r2 u H locs hp3 hP hD hK hS => ?_)
      have hP : va_P D zcl [(h0, .inr (8, [.ref m_tape, .int n0, .int op, .int fp, .int bu, .int ra, .int en, .ref m_methods, .ref m_packed, .ref m_sizes, .ref m_sums, .ref m_datas, .ref m_locals, .ref m_localEnds, .ref m_names, .ref m_nameSizes, .ref m_states, .ref m_starts, .ref m_counts, .ref m_written, .int to, .int w1, .int w2, .int w3, .ref m_lengths, .ref m_small, .ref m_codes, .ref m_smallCodes, .int w4, .int w5, .int 1]))] H := hP
      have hD : va_D A [(h0, .inr (8, [.ref m_tape, .int n0, .int op, .int fp, .int bu, .int ra, .int en, .ref m_methods, .ref m_packed, .ref m_sizes, .ref m_sums, .ref m_datas, .ref m_locals, .ref m_localEnds, .ref m_names, .ref m_nameSizes, .ref m_states, .ref m_starts, .ref m_counts, .ref m_written, .int to, .int w1, .int w2, .int w3, .ref m_lengths, .ref m_small, .ref m_codes, .ref m_smallCodes, .int w4, .int w5, .int 1]))] := hD
      have hK : va_K D zcl [] s := hK
      subst hp3
      refine lv_if_eq (tgt := 24) hx hb d_M_about_19 (by decide) (fun h => absurd h (by decide)) (fun _ => ?_)
      refine lv_iconst (v := 0) hx hb d_M_about_22 (by decide) ?_
      exact zreti hx hb hr hlk hK hP hD hS () [0] [] rfl (by decide) rfl (trivial) (Nat.le_of_ble_eq_true rfl) (Nat.le_of_ble_eq_true rfl) d_M_about_23
    · skip
      refine lv_iload_n hx hb d_M_about_5 rfl (lv_at hl 1 rfl) ?_
      refine lv_iconst (v := 4) hx hb d_M_about_6 (by decide) ?_
      refine lv_icmp_le (tgt := 14) hx hb d_M_about_7 (by decide) (fun h => absurd h (hbad.resolve_left hc1)) (fun _ => ?_)
      refine lv_iconst (v := 1) hx hb d_M_about_10 (by decide) ?_
      refine lv_goto (tgt := 15) hx hb d_M_about_11 (by decide) ?_
      refine lv_iconst (v := 1) hx hb d_M_about_15 (by decide) ?_
      refine zji (wr := []) (va_runV (As := [.int 1, .int 1]) (rest := []) ⟨hx, hb, hml, hown, ht⟩ (c_M_f1 l D _ h0 m_tape m_methods m_packed m_sizes m_sums m_datas m_locals m_localEnds m_names m_nameSizes m_states m_starts m_counts m_written m_lengths m_small m_codes m_smallCodes n0 op fp bu ra en to w1 w2 w3 w4 w5 th 1 ) (cwV 2 ht (zt_goodV zm_855 zm_856 zm_30 zm_79 zm_857) rfl rfl rfl (by decide +kernel) ⟨Nat.le_of_ble_eq_true rfl, Nat.le_of_ble_eq_true rfl⟩) (zpreV zBlind_t hK hP hD [0] [] rfl (by decide) rfl (fun _ _ _ => trivial) (va_recv (q := ("ZipGuardModel", F_M, 31)) hK hP rfl (q0 := 0) (ci := 8) rfl)) rfl rfl hl.1 rfl (lv_room (Nat.le_of_ble_eq_true rfl)) d_M_about_16 ⟨Nat.le_of_ble_eq_true rfl, Nat.le_of_ble_eq_true rfl⟩) hK hP hD hS hA [0] [] rfl rfl (by decide) (by decide) (fun r6 u H locs hp7 hP hD hK hS => ?_)
      have hP : va_P D zcl [(h0, .inr (8, [.ref m_tape, .int n0, .int op, .int fp, .int bu, .int ra, .int en, .ref m_methods, .ref m_packed, .ref m_sizes, .ref m_sums, .ref m_datas, .ref m_locals, .ref m_localEnds, .ref m_names, .ref m_nameSizes, .ref m_states, .ref m_starts, .ref m_counts, .ref m_written, .int to, .int w1, .int w2, .int w3, .ref m_lengths, .ref m_small, .ref m_codes, .ref m_smallCodes, .int w4, .int w5, .int 1]))] H := hP
      have hD : va_D A [(h0, .inr (8, [.ref m_tape, .int n0, .int op, .int fp, .int bu, .int ra, .int en, .ref m_methods, .ref m_packed, .ref m_sizes, .ref m_sums, .ref m_datas, .ref m_locals, .ref m_localEnds, .ref m_names, .ref m_nameSizes, .ref m_states, .ref m_starts, .ref m_counts, .ref m_written, .int to, .int w1, .int w2, .int w3, .ref m_lengths, .ref m_small, .ref m_codes, .ref m_smallCodes, .int w4, .int w5, .int 1]))] := hD
      have hK : va_K D zcl [] s := hK
      subst hp7
      refine lv_if_eq (tgt := 24) hx hb d_M_about_19 (by decide) (fun h => absurd h (by decide)) (fun _ => ?_)
      refine lv_iconst (v := 0) hx hb d_M_about_22 (by decide) ?_
      exact zreti hx hb hr hlk hK hP hD hS () [0] [] rfl (by decide) rfl (trivial) (Nat.le_of_ble_eq_true rfl) (Nat.le_of_ble_eq_true rfl) d_M_about_23)
