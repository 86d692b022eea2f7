set_option maxRecDepth 100000 in
theorem zm_64 : Jvm.Cond.initialized "ZipGuardLaw" ∈ zt := zt_m1 (List.mem_of_getElem? (i := 0) rfl)
set_option maxRecDepth 100000 in
theorem zm_408 : Jvm.Cond.methodLink "ZipGuardLaw" (72 : Nat) ({ cls := "ZipGuard", name := "open", desc := "()I" } : Jvm.MethodName) ∈ zt := zt_m3 (List.mem_of_getElem? (i := 80) rfl)
set_option maxRecDepth 100000 in
theorem zm_409 : Jvm.Cond.instanceMethod ({ cls := "ZipGuard", name := "open", desc := "()I" } : Jvm.MethodName) ∈ zt := zt_m3 (List.mem_of_getElem? (i := 81) rfl)
set_option maxRecDepth 100000 in
theorem zm_410 : Jvm.Cond.selects "ZipGuard" ({ cls := "ZipGuard", name := "open", desc := "()I" } : Jvm.MethodName) ({ cls := "ZipGuard", name := "open", desc := "()I" } : Jvm.MethodName) ∈ zt := zt_m3 (List.mem_of_getElem? (i := 82) rfl)
set_option maxRecDepth 100000 in
theorem zm_411 : Jvm.Cond.code ({ cls := "ZipGuard", name := "open", desc := "()I" } : Jvm.MethodName) prog_1_method_5_code (1 : Nat) (Option.some Jvm.ClassFile.FieldType.int) ∈ zt := zt_m3 (List.mem_of_getElem? (i := 83) rfl)
set_option maxRecDepth 100000 in
theorem zm_508 : Jvm.Cond.methodLink "ZipGuardLaw" (76 : Nat) ({ cls := "ZipGuard", name := "place", desc := "()I" } : Jvm.MethodName) ∈ zt := zt_m3 (List.mem_of_getElem? (i := 180) rfl)
set_option maxRecDepth 100000 in
theorem zm_509 : Jvm.Cond.instanceMethod ({ cls := "ZipGuard", name := "place", desc := "()I" } : Jvm.MethodName) ∈ zt := zt_m3 (List.mem_of_getElem? (i := 181) rfl)
set_option maxRecDepth 100000 in
theorem zm_510 : Jvm.Cond.selects "ZipGuard" ({ cls := "ZipGuard", name := "place", desc := "()I" } : Jvm.MethodName) ({ cls := "ZipGuard", name := "place", desc := "()I" } : Jvm.MethodName) ∈ zt := zt_m3 (List.mem_of_getElem? (i := 182) rfl)
set_option maxRecDepth 100000 in
theorem zm_511 : Jvm.Cond.code ({ cls := "ZipGuard", name := "place", desc := "()I" } : Jvm.MethodName) prog_1_method_6_code (1 : Nat) (Option.some Jvm.ClassFile.FieldType.int) ∈ zt := zt_m4 (List.mem_of_getElem? (i := 0) rfl)
set_option maxRecDepth 100000 in
theorem zm_512 : Jvm.Cond.methodLink "ZipGuardLaw" (55 : Nat) ({ cls := "ZipGuardLaw", name := "feed", desc := "(LZipGuard;IIIII[J)I" } : Jvm.MethodName) ∈ zt := zt_m4 (List.mem_of_getElem? (i := 1) rfl)
set_option maxRecDepth 100000 in
theorem zm_513 : Jvm.Cond.static ({ cls := "ZipGuardLaw", name := "feed", desc := "(LZipGuard;IIIII[J)I" } : Jvm.MethodName) ∈ zt := zt_m4 (List.mem_of_getElem? (i := 2) rfl)
set_option maxRecDepth 100000 in
theorem zm_514 : Jvm.Cond.codeWith ({ cls := "ZipGuardLaw", name := "feed", desc := "(LZipGuard;IIIII[J)I" } : Jvm.MethodName) method_3_code (8 : Nat) (Option.some Jvm.ClassFile.FieldType.int) [((0 : Nat), (16 : Nat), (19 : Nat), (13 : Nat))] ∈ zt := zt_m4 (List.mem_of_getElem? (i := 3) rfl)
set_option maxRecDepth 100000 in
theorem zm_553 : Jvm.Cond.methodLink "ZipGuardLaw" (64 : Nat) ({ cls := "ZipGuardLaw", name := "end", desc := "(LZipGuard;I)I" } : Jvm.MethodName) ∈ zt := zt_m4 (List.mem_of_getElem? (i := 42) rfl)
set_option maxRecDepth 100000 in
theorem zm_554 : Jvm.Cond.static ({ cls := "ZipGuardLaw", name := "end", desc := "(LZipGuard;I)I" } : Jvm.MethodName) ∈ zt := zt_m4 (List.mem_of_getElem? (i := 43) rfl)
set_option maxRecDepth 100000 in
theorem zm_555 : Jvm.Cond.codeWith ({ cls := "ZipGuardLaw", name := "end", desc := "(LZipGuard;I)I" } : Jvm.MethodName) method_4_code (3 : Nat) (Option.some Jvm.ClassFile.FieldType.int) [((0 : Nat), (5 : Nat), (8 : Nat), (19 : Nat))] ∈ zt := zt_m4 (List.mem_of_getElem? (i := 44) rfl)
set_option maxRecDepth 100000 in
theorem zm_570 : Jvm.Cond.methodLink "ZipGuardLaw" (68 : Nat) ({ cls := "ZipGuardLaw", name := "alter", desc := "(LZipGuard;II[J)I" } : Jvm.MethodName) ∈ zt := zt_m4 (List.mem_of_getElem? (i := 59) rfl)
set_option maxRecDepth 100000 in
theorem zm_571 : Jvm.Cond.static ({ cls := "ZipGuardLaw", name := "alter", desc := "(LZipGuard;II[J)I" } : Jvm.MethodName) ∈ zt := zt_m4 (List.mem_of_getElem? (i := 60) rfl)
set_option maxRecDepth 100000 in
theorem zm_572 : Jvm.Cond.codeWith ({ cls := "ZipGuardLaw", name := "alter", desc := "(LZipGuard;II[J)I" } : Jvm.MethodName) method_5_code (5 : Nat) (Option.some Jvm.ClassFile.FieldType.int) [((0 : Nat), (10 : Nat), (13 : Nat), (25 : Nat))] ∈ zt := zt_m4 (List.mem_of_getElem? (i := 61) rfl)
set_option maxRecDepth 100000 in
theorem zm_596 : Jvm.Cond.methodLink "ZipGuardLaw" (80 : Nat) ({ cls := "ZipGuardLaw", name := "limits", desc := "(LZipGuard;II)I" } : Jvm.MethodName) ∈ zt := zt_m4 (List.mem_of_getElem? (i := 85) rfl)
set_option maxRecDepth 100000 in
theorem zm_597 : Jvm.Cond.static ({ cls := "ZipGuardLaw", name := "limits", desc := "(LZipGuard;II)I" } : Jvm.MethodName) ∈ zt := zt_m4 (List.mem_of_getElem? (i := 86) rfl)
set_option maxRecDepth 100000 in
theorem zm_598 : Jvm.Cond.codeWith ({ cls := "ZipGuardLaw", name := "limits", desc := "(LZipGuard;II)I" } : Jvm.MethodName) method_6_code (4 : Nat) (Option.some Jvm.ClassFile.FieldType.int) [((0 : Nat), (6 : Nat), (9 : Nat), (19 : Nat))] ∈ zt := zt_m4 (List.mem_of_getElem? (i := 87) rfl)
set_option maxRecDepth 100000 in
theorem zm_604 : Jvm.Cond.methodLink "ZipGuardLaw" (84 : Nat) ({ cls := "ZipGuardLaw", name := "take", desc := "(LZipGuard;I[J)I" } : Jvm.MethodName) ∈ zt := zt_m4 (List.mem_of_getElem? (i := 93) rfl)
set_option maxRecDepth 100000 in
theorem zm_605 : Jvm.Cond.static ({ cls := "ZipGuardLaw", name := "take", desc := "(LZipGuard;I[J)I" } : Jvm.MethodName) ∈ zt := zt_m4 (List.mem_of_getElem? (i := 94) rfl)
set_option maxRecDepth 100000 in
theorem zm_606 : Jvm.Cond.codeWith ({ cls := "ZipGuardLaw", name := "take", desc := "(LZipGuard;I[J)I" } : Jvm.MethodName) method_7_code (4 : Nat) (Option.some Jvm.ClassFile.FieldType.int) [((0 : Nat), (9 : Nat), (12 : Nat), (13 : Nat)), ((0 : Nat), (9 : Nat), (15 : Nat), (25 : Nat))] ∈ zt := zt_m4 (List.mem_of_getElem? (i := 95) rfl)
set_option maxRecDepth 100000 in
theorem zm_709 : Jvm.Cond.methodLink "ZipGuardLaw" (88 : Nat) ({ cls := "ZipGuardLaw", name := "takeAll", desc := "(LZipGuard;[J)I" } : Jvm.MethodName) ∈ zt := zt_m4 (List.mem_of_getElem? (i := 198) rfl)
set_option maxRecDepth 100000 in
theorem zm_710 : Jvm.Cond.static ({ cls := "ZipGuardLaw", name := "takeAll", desc := "(LZipGuard;[J)I" } : Jvm.MethodName) ∈ zt := zt_m4 (List.mem_of_getElem? (i := 199) rfl)
set_option maxRecDepth 100000 in
theorem zm_711 : Jvm.Cond.codeWith ({ cls := "ZipGuardLaw", name := "takeAll", desc := "(LZipGuard;[J)I" } : Jvm.MethodName) method_8_code (3 : Nat) (Option.some Jvm.ClassFile.FieldType.int) [((0 : Nat), (8 : Nat), (11 : Nat), (13 : Nat))] ∈ zt := zt_m4 (List.mem_of_getElem? (i := 200) rfl)
set_option maxRecDepth 100000 in
theorem zm_716 : Jvm.Cond.methodLink "ZipGuardLaw" (92 : Nat) ({ cls := "ZipGuardLaw", name := "entry", desc := "(LZipGuard;II[J)I" } : Jvm.MethodName) ∈ zt := zt_m4 (List.mem_of_getElem? (i := 205) rfl)
set_option maxRecDepth 100000 in
theorem zm_717 : Jvm.Cond.static ({ cls := "ZipGuardLaw", name := "entry", desc := "(LZipGuard;II[J)I" } : Jvm.MethodName) ∈ zt := zt_m4 (List.mem_of_getElem? (i := 206) rfl)
set_option maxRecDepth 100000 in
theorem zm_718 : Jvm.Cond.codeWith ({ cls := "ZipGuardLaw", name := "entry", desc := "(LZipGuard;II[J)I" } : Jvm.MethodName) method_9_code (5 : Nat) (Option.some Jvm.ClassFile.FieldType.int) [((0 : Nat), (10 : Nat), (13 : Nat), (13 : Nat)), ((0 : Nat), (10 : Nat), (17 : Nat), (25 : Nat)), ((0 : Nat), (10 : Nat), (21 : Nat), (19 : Nat))] ∈ zt := zt_m4 (List.mem_of_getElem? (i := 207) rfl)
set_option maxRecDepth 100000 in
theorem zm_723 : Jvm.Cond.methodLink "ZipGuardLaw" (95 : Nat) ({ cls := "ZipGuardLaw", name := "name", desc := "(LZipGuard;II[J)I" } : Jvm.MethodName) ∈ zt := zt_m4 (List.mem_of_getElem? (i := 212) rfl)
set_option maxRecDepth 100000 in
theorem zm_724 : Jvm.Cond.static ({ cls := "ZipGuardLaw", name := "name", desc := "(LZipGuard;II[J)I" } : Jvm.MethodName) ∈ zt := zt_m4 (List.mem_of_getElem? (i := 213) rfl)
set_option maxRecDepth 100000 in
theorem zm_725 : Jvm.Cond.codeWith ({ cls := "ZipGuardLaw", name := "name", desc := "(LZipGuard;II[J)I" } : Jvm.MethodName) method_10_code (5 : Nat) (Option.some Jvm.ClassFile.FieldType.int) [((0 : Nat), (10 : Nat), (13 : Nat), (13 : Nat)), ((0 : Nat), (10 : Nat), (17 : Nat), (25 : Nat))] ∈ zt := zt_m4 (List.mem_of_getElem? (i := 214) rfl)
set_option maxRecDepth 100000 in
theorem zm_730 : Jvm.Cond.methodLink "ZipGuardLaw" (98 : Nat) ({ cls := "ZipGuardLaw", name := "written", desc := "(LZipGuard;II[J)I" } : Jvm.MethodName) ∈ zt := zt_m5 (List.mem_of_getElem? (i := 0) rfl)
set_option maxRecDepth 100000 in
theorem zm_731 : Jvm.Cond.static ({ cls := "ZipGuardLaw", name := "written", desc := "(LZipGuard;II[J)I" } : Jvm.MethodName) ∈ zt := zt_m5 (List.mem_of_getElem? (i := 1) rfl)
set_option maxRecDepth 100000 in
theorem zm_732 : Jvm.Cond.codeWith ({ cls := "ZipGuardLaw", name := "written", desc := "(LZipGuard;II[J)I" } : Jvm.MethodName) method_11_code (5 : Nat) (Option.some Jvm.ClassFile.FieldType.int) [((0 : Nat), (10 : Nat), (13 : Nat), (13 : Nat)), ((0 : Nat), (10 : Nat), (17 : Nat), (25 : Nat))] ∈ zt := zt_m5 (List.mem_of_getElem? (i := 2) rfl)
set_option maxRecDepth 100000 in
theorem zm_738 : Jvm.Cond.methodLink "ZipGuardLaw" (101 : Nat) ({ cls := "ZipGuardLaw", name := "about", desc := "(LZipGuard;I[J)I" } : Jvm.MethodName) ∈ zt := zt_m5 (List.mem_of_getElem? (i := 8) rfl)
set_option maxRecDepth 100000 in
theorem zm_739 : Jvm.Cond.static ({ cls := "ZipGuardLaw", name := "about", desc := "(LZipGuard;I[J)I" } : Jvm.MethodName) ∈ zt := zt_m5 (List.mem_of_getElem? (i := 9) rfl)
set_option maxRecDepth 100000 in
theorem zm_740 : Jvm.Cond.codeWith ({ cls := "ZipGuardLaw", name := "about", desc := "(LZipGuard;I[J)I" } : Jvm.MethodName) method_12_code (4 : Nat) (Option.some Jvm.ClassFile.FieldType.int) [((0 : Nat), (9 : Nat), (12 : Nat), (19 : Nat))] ∈ zt := zt_m5 (List.mem_of_getElem? (i := 10) rfl)
set_option maxRecDepth 100000 in
theorem zm_847 : Jvm.Cond.methodLink "ZipGuardLaw" (61 : Nat) ({ cls := "ZipGuardModel", name := "thrown", desc := "()I" } : Jvm.MethodName) ∈ zt := zt_m5 (List.mem_of_getElem? (i := 117) rfl)
set_option maxRecDepth 100000 in
theorem zm_848 : Jvm.Cond.instanceMethod ({ cls := "ZipGuardModel", name := "thrown", desc := "()I" } : Jvm.MethodName) ∈ zt := zt_m5 (List.mem_of_getElem? (i := 118) rfl)
set_option maxRecDepth 100000 in
theorem zm_849 : Jvm.Cond.selects "ZipGuardModel" ({ cls := "ZipGuardModel", name := "thrown", desc := "()I" } : Jvm.MethodName) ({ cls := "ZipGuardModel", name := "thrown", desc := "()I" } : Jvm.MethodName) ∈ zt := zt_m5 (List.mem_of_getElem? (i := 119) rfl)
set_option maxRecDepth 100000 in
theorem zm_850 : Jvm.Cond.code ({ cls := "ZipGuardModel", name := "thrown", desc := "()I" } : Jvm.MethodName) prog_10_method_2_code (1 : Nat) (Option.some Jvm.ClassFile.FieldType.int) ∈ zt := zt_m5 (List.mem_of_getElem? (i := 120) rfl)
set_option maxRecDepth 100000 in
theorem zm_851 : Jvm.Cond.methodLink "ZipGuardLaw" (60 : Nat) ({ cls := "ZipGuardModel", name := "feed", desc := "(IIIII)I" } : Jvm.MethodName) ∈ zt := zt_m5 (List.mem_of_getElem? (i := 121) rfl)
set_option maxRecDepth 100000 in
theorem zm_852 : Jvm.Cond.instanceMethod ({ cls := "ZipGuardModel", name := "feed", desc := "(IIIII)I" } : Jvm.MethodName) ∈ zt := zt_m5 (List.mem_of_getElem? (i := 122) rfl)
set_option maxRecDepth 100000 in
theorem zm_853 : Jvm.Cond.selects "ZipGuardModel" ({ cls := "ZipGuardModel", name := "feed", desc := "(IIIII)I" } : Jvm.MethodName) ({ cls := "ZipGuardModel", name := "feed", desc := "(IIIII)I" } : Jvm.MethodName) ∈ zt := zt_m5 (List.mem_of_getElem? (i := 123) rfl)
set_option maxRecDepth 100000 in
theorem zm_854 : Jvm.Cond.code ({ cls := "ZipGuardModel", name := "feed", desc := "(IIIII)I" } : Jvm.MethodName) prog_10_method_5_code (8 : Nat) (Option.some Jvm.ClassFile.FieldType.int) ∈ zt := zt_m5 (List.mem_of_getElem? (i := 124) rfl)
set_option maxRecDepth 100000 in
theorem zm_861 : Jvm.Cond.methodLink "ZipGuardLaw" (67 : Nat) ({ cls := "ZipGuardModel", name := "end", desc := "(I)V" } : Jvm.MethodName) ∈ zt := zt_m5 (List.mem_of_getElem? (i := 131) rfl)
set_option maxRecDepth 100000 in
theorem zm_862 : Jvm.Cond.instanceMethod ({ cls := "ZipGuardModel", name := "end", desc := "(I)V" } : Jvm.MethodName) ∈ zt := zt_m5 (List.mem_of_getElem? (i := 132) rfl)
set_option maxRecDepth 100000 in
theorem zm_863 : Jvm.Cond.selects "ZipGuardModel" ({ cls := "ZipGuardModel", name := "end", desc := "(I)V" } : Jvm.MethodName) ({ cls := "ZipGuardModel", name := "end", desc := "(I)V" } : Jvm.MethodName) ∈ zt := zt_m5 (List.mem_of_getElem? (i := 133) rfl)
set_option maxRecDepth 100000 in
theorem zm_864 : Jvm.Cond.code ({ cls := "ZipGuardModel", name := "end", desc := "(I)V" } : Jvm.MethodName) prog_10_method_6_code (2 : Nat) (Option.none : Option Jvm.ClassFile.FieldType) ∈ zt := zt_m5 (List.mem_of_getElem? (i := 134) rfl)
set_option maxRecDepth 100000 in
theorem zm_865 : Jvm.Cond.methodLink "ZipGuardLaw" (71 : Nat) ({ cls := "ZipGuardModel", name := "alter", desc := "(II)I" } : Jvm.MethodName) ∈ zt := zt_m5 (List.mem_of_getElem? (i := 135) rfl)
set_option maxRecDepth 100000 in
theorem zm_866 : Jvm.Cond.instanceMethod ({ cls := "ZipGuardModel", name := "alter", desc := "(II)I" } : Jvm.MethodName) ∈ zt := zt_m5 (List.mem_of_getElem? (i := 136) rfl)
set_option maxRecDepth 100000 in
theorem zm_867 : Jvm.Cond.selects "ZipGuardModel" ({ cls := "ZipGuardModel", name := "alter", desc := "(II)I" } : Jvm.MethodName) ({ cls := "ZipGuardModel", name := "alter", desc := "(II)I" } : Jvm.MethodName) ∈ zt := zt_m5 (List.mem_of_getElem? (i := 137) rfl)
set_option maxRecDepth 100000 in
theorem zm_868 : Jvm.Cond.code ({ cls := "ZipGuardModel", name := "alter", desc := "(II)I" } : Jvm.MethodName) prog_10_method_7_code (4 : Nat) (Option.some Jvm.ClassFile.FieldType.int) ∈ zt := zt_m5 (List.mem_of_getElem? (i := 138) rfl)
set_option maxRecDepth 100000 in
theorem zm_869 : Jvm.Cond.methodLink "ZipGuardLaw" (75 : Nat) ({ cls := "ZipGuardModel", name := "open", desc := "()I" } : Jvm.MethodName) ∈ zt := zt_m5 (List.mem_of_getElem? (i := 139) rfl)
set_option maxRecDepth 100000 in
theorem zm_870 : Jvm.Cond.instanceMethod ({ cls := "ZipGuardModel", name := "open", desc := "()I" } : Jvm.MethodName) ∈ zt := zt_m5 (List.mem_of_getElem? (i := 140) rfl)
set_option maxRecDepth 100000 in
theorem zm_871 : Jvm.Cond.selects "ZipGuardModel" ({ cls := "ZipGuardModel", name := "open", desc := "()I" } : Jvm.MethodName) ({ cls := "ZipGuardModel", name := "open", desc := "()I" } : Jvm.MethodName) ∈ zt := zt_m5 (List.mem_of_getElem? (i := 141) rfl)
set_option maxRecDepth 100000 in
theorem zm_872 : Jvm.Cond.code ({ cls := "ZipGuardModel", name := "open", desc := "()I" } : Jvm.MethodName) prog_10_method_25_code (2 : Nat) (Option.some Jvm.ClassFile.FieldType.int) ∈ zt := zt_m5 (List.mem_of_getElem? (i := 142) rfl)
set_option maxRecDepth 100000 in
theorem zm_941 : Jvm.Cond.methodLink "ZipGuardLaw" (79 : Nat) ({ cls := "ZipGuardModel", name := "place", desc := "()I" } : Jvm.MethodName) ∈ zt := zt_m5 (List.mem_of_getElem? (i := 211) rfl)
set_option maxRecDepth 100000 in
theorem zm_942 : Jvm.Cond.instanceMethod ({ cls := "ZipGuardModel", name := "place", desc := "()I" } : Jvm.MethodName) ∈ zt := zt_m5 (List.mem_of_getElem? (i := 212) rfl)
set_option maxRecDepth 100000 in
theorem zm_943 : Jvm.Cond.selects "ZipGuardModel" ({ cls := "ZipGuardModel", name := "place", desc := "()I" } : Jvm.MethodName) ({ cls := "ZipGuardModel", name := "place", desc := "()I" } : Jvm.MethodName) ∈ zt := zt_m5 (List.mem_of_getElem? (i := 213) rfl)
set_option maxRecDepth 100000 in
theorem zm_944 : Jvm.Cond.code ({ cls := "ZipGuardModel", name := "place", desc := "()I" } : Jvm.MethodName) prog_10_method_26_code (1 : Nat) (Option.some Jvm.ClassFile.FieldType.int) ∈ zt := zt_m5 (List.mem_of_getElem? (i := 214) rfl)
set_option maxRecDepth 100000 in
theorem zm_945 : Jvm.Cond.methodLink "ZipGuardLaw" (83 : Nat) ({ cls := "ZipGuardModel", name := "limits", desc := "(II)V" } : Jvm.MethodName) ∈ zt := zt_m5 (List.mem_of_getElem? (i := 215) rfl)
set_option maxRecDepth 100000 in
theorem zm_946 : Jvm.Cond.instanceMethod ({ cls := "ZipGuardModel", name := "limits", desc := "(II)V" } : Jvm.MethodName) ∈ zt := zt_m5 (List.mem_of_getElem? (i := 216) rfl)
set_option maxRecDepth 100000 in
theorem zm_947 : Jvm.Cond.selects "ZipGuardModel" ({ cls := "ZipGuardModel", name := "limits", desc := "(II)V" } : Jvm.MethodName) ({ cls := "ZipGuardModel", name := "limits", desc := "(II)V" } : Jvm.MethodName) ∈ zt := zt_m5 (List.mem_of_getElem? (i := 217) rfl)
set_option maxRecDepth 100000 in
theorem zm_948 : Jvm.Cond.code ({ cls := "ZipGuardModel", name := "limits", desc := "(II)V" } : Jvm.MethodName) prog_10_method_27_code (3 : Nat) (Option.none : Option Jvm.ClassFile.FieldType) ∈ zt := zt_m5 (List.mem_of_getElem? (i := 218) rfl)
set_option maxRecDepth 100000 in
theorem zm_949 : Jvm.Cond.methodLink "ZipGuardLaw" (87 : Nat) ({ cls := "ZipGuardModel", name := "take", desc := "(I)I" } : Jvm.MethodName) ∈ zt := zt_m5 (List.mem_of_getElem? (i := 219) rfl)
set_option maxRecDepth 100000 in
theorem zm_950 : Jvm.Cond.instanceMethod ({ cls := "ZipGuardModel", name := "take", desc := "(I)I" } : Jvm.MethodName) ∈ zt := zt_m5 (List.mem_of_getElem? (i := 220) rfl)
set_option maxRecDepth 100000 in
theorem zm_951 : Jvm.Cond.selects "ZipGuardModel" ({ cls := "ZipGuardModel", name := "take", desc := "(I)I" } : Jvm.MethodName) ({ cls := "ZipGuardModel", name := "take", desc := "(I)I" } : Jvm.MethodName) ∈ zt := zt_m5 (List.mem_of_getElem? (i := 221) rfl)
set_option maxRecDepth 100000 in
theorem zm_952 : Jvm.Cond.code ({ cls := "ZipGuardModel", name := "take", desc := "(I)I" } : Jvm.MethodName) prog_10_method_47_code (2 : Nat) (Option.some Jvm.ClassFile.FieldType.int) ∈ zt := zt_m6 (List.mem_of_getElem? (i := 0) rfl)
set_option maxRecDepth 100000 in
theorem zm_1013 : Jvm.Cond.methodLink "ZipGuardLaw" (91 : Nat) ({ cls := "ZipGuardModel", name := "takeAll", desc := "()I" } : Jvm.MethodName) ∈ zt := zt_m6 (List.mem_of_getElem? (i := 61) rfl)
set_option maxRecDepth 100000 in
theorem zm_1014 : Jvm.Cond.instanceMethod ({ cls := "ZipGuardModel", name := "takeAll", desc := "()I" } : Jvm.MethodName) ∈ zt := zt_m6 (List.mem_of_getElem? (i := 62) rfl)
set_option maxRecDepth 100000 in
theorem zm_1015 : Jvm.Cond.selects "ZipGuardModel" ({ cls := "ZipGuardModel", name := "takeAll", desc := "()I" } : Jvm.MethodName) ({ cls := "ZipGuardModel", name := "takeAll", desc := "()I" } : Jvm.MethodName) ∈ zt := zt_m6 (List.mem_of_getElem? (i := 63) rfl)
set_option maxRecDepth 100000 in
theorem zm_1016 : Jvm.Cond.code ({ cls := "ZipGuardModel", name := "takeAll", desc := "()I" } : Jvm.MethodName) prog_10_method_48_code (2 : Nat) (Option.some Jvm.ClassFile.FieldType.int) ∈ zt := zt_m6 (List.mem_of_getElem? (i := 64) rfl)
set_option maxRecDepth 100000 in
theorem zm_1017 : Jvm.Cond.methodLink "ZipGuardLaw" (94 : Nat) ({ cls := "ZipGuardModel", name := "entry", desc := "(II)I" } : Jvm.MethodName) ∈ zt := zt_m6 (List.mem_of_getElem? (i := 65) rfl)
set_option maxRecDepth 100000 in
theorem zm_1018 : Jvm.Cond.instanceMethod ({ cls := "ZipGuardModel", name := "entry", desc := "(II)I" } : Jvm.MethodName) ∈ zt := zt_m6 (List.mem_of_getElem? (i := 66) rfl)
set_option maxRecDepth 100000 in
theorem zm_1019 : Jvm.Cond.selects "ZipGuardModel" ({ cls := "ZipGuardModel", name := "entry", desc := "(II)I" } : Jvm.MethodName) ({ cls := "ZipGuardModel", name := "entry", desc := "(II)I" } : Jvm.MethodName) ∈ zt := zt_m6 (List.mem_of_getElem? (i := 67) rfl)
set_option maxRecDepth 100000 in
theorem zm_1020 : Jvm.Cond.code ({ cls := "ZipGuardModel", name := "entry", desc := "(II)I" } : Jvm.MethodName) prog_10_method_49_code (3 : Nat) (Option.some Jvm.ClassFile.FieldType.int) ∈ zt := zt_m6 (List.mem_of_getElem? (i := 68) rfl)
set_option maxRecDepth 100000 in
theorem zm_1021 : Jvm.Cond.methodLink "ZipGuardLaw" (97 : Nat) ({ cls := "ZipGuardModel", name := "name", desc := "(II)I" } : Jvm.MethodName) ∈ zt := zt_m6 (List.mem_of_getElem? (i := 69) rfl)
set_option maxRecDepth 100000 in
theorem zm_1022 : Jvm.Cond.instanceMethod ({ cls := "ZipGuardModel", name := "name", desc := "(II)I" } : Jvm.MethodName) ∈ zt := zt_m6 (List.mem_of_getElem? (i := 70) rfl)
set_option maxRecDepth 100000 in
theorem zm_1023 : Jvm.Cond.selects "ZipGuardModel" ({ cls := "ZipGuardModel", name := "name", desc := "(II)I" } : Jvm.MethodName) ({ cls := "ZipGuardModel", name := "name", desc := "(II)I" } : Jvm.MethodName) ∈ zt := zt_m6 (List.mem_of_getElem? (i := 71) rfl)
set_option maxRecDepth 100000 in
theorem zm_1024 : Jvm.Cond.code ({ cls := "ZipGuardModel", name := "name", desc := "(II)I" } : Jvm.MethodName) prog_10_method_50_code (3 : Nat) (Option.some Jvm.ClassFile.FieldType.int) ∈ zt := zt_m6 (List.mem_of_getElem? (i := 72) rfl)
set_option maxRecDepth 100000 in
theorem zm_1025 : Jvm.Cond.methodLink "ZipGuardLaw" (100 : Nat) ({ cls := "ZipGuardModel", name := "written", desc := "(II)I" } : Jvm.MethodName) ∈ zt := zt_m6 (List.mem_of_getElem? (i := 73) rfl)
set_option maxRecDepth 100000 in
theorem zm_1026 : Jvm.Cond.instanceMethod ({ cls := "ZipGuardModel", name := "written", desc := "(II)I" } : Jvm.MethodName) ∈ zt := zt_m6 (List.mem_of_getElem? (i := 74) rfl)
set_option maxRecDepth 100000 in
theorem zm_1027 : Jvm.Cond.selects "ZipGuardModel" ({ cls := "ZipGuardModel", name := "written", desc := "(II)I" } : Jvm.MethodName) ({ cls := "ZipGuardModel", name := "written", desc := "(II)I" } : Jvm.MethodName) ∈ zt := zt_m6 (List.mem_of_getElem? (i := 75) rfl)
set_option maxRecDepth 100000 in
theorem zm_1028 : Jvm.Cond.code ({ cls := "ZipGuardModel", name := "written", desc := "(II)I" } : Jvm.MethodName) prog_10_method_51_code (3 : Nat) (Option.some Jvm.ClassFile.FieldType.int) ∈ zt := zt_m6 (List.mem_of_getElem? (i := 76) rfl)
set_option maxRecDepth 100000 in
theorem zm_1029 : Jvm.Cond.methodLink "ZipGuardLaw" (103 : Nat) ({ cls := "ZipGuardModel", name := "about", desc := "(I)I" } : Jvm.MethodName) ∈ zt := zt_m6 (List.mem_of_getElem? (i := 77) rfl)
set_option maxRecDepth 100000 in
theorem zm_1030 : Jvm.Cond.instanceMethod ({ cls := "ZipGuardModel", name := "about", desc := "(I)I" } : Jvm.MethodName) ∈ zt := zt_m6 (List.mem_of_getElem? (i := 78) rfl)
set_option maxRecDepth 100000 in
theorem zm_1031 : Jvm.Cond.selects "ZipGuardModel" ({ cls := "ZipGuardModel", name := "about", desc := "(I)I" } : Jvm.MethodName) ({ cls := "ZipGuardModel", name := "about", desc := "(I)I" } : Jvm.MethodName) ∈ zt := zt_m6 (List.mem_of_getElem? (i := 79) rfl)
set_option maxRecDepth 100000 in
theorem zm_1032 : Jvm.Cond.code ({ cls := "ZipGuardModel", name := "about", desc := "(I)I" } : Jvm.MethodName) prog_10_method_52_code (2 : Nat) (Option.some Jvm.ClassFile.FieldType.int) ∈ zt := zt_m6 (List.mem_of_getElem? (i := 80) rfl)
theorem d_L_law_23 : decode code 23 = .ok (.iload 4, 2) := by decide +kernel
theorem d_L_law_25 : decode code 25 = .ok (.aload_n 0, 1) := by decide +kernel
theorem d_L_law_26 : decode code 26 = .ok (.arraylength, 1) := by decide +kernel
theorem d_L_law_27 : decode code 27 = .ok (.bipush 6, 2) := by decide +kernel
theorem d_L_law_29 : decode code 29 = .ok (.isub, 1) := by decide +kernel
theorem d_L_law_30 : decode code 30 = .ok (.if_icmp .gt 722, 3) := by decide +kernel
theorem d_L_law_104 : decode code 104 = .ok (.aload_n 1, 1) := by decide +kernel
theorem d_L_law_105 : decode code 105 = .ok (.aload_n 0, 1) := by decide +kernel
theorem d_L_law_106 : decode code 106 = .ok (.iload 4, 2) := by decide +kernel
theorem d_L_law_108 : decode code 108 = .ok (.iconst 1, 1) := by decide +kernel
theorem d_L_law_109 : decode code 109 = .ok (.iadd, 1) := by decide +kernel
theorem d_L_law_110 : decode code 110 = .ok (.iaload, 1) := by decide +kernel
theorem d_L_law_111 : decode code 111 = .ok (.aload_n 0, 1) := by decide +kernel
theorem d_L_law_112 : decode code 112 = .ok (.iload 4, 2) := by decide +kernel
theorem d_L_law_114 : decode code 114 = .ok (.iconst 2, 1) := by decide +kernel
theorem d_L_law_115 : decode code 115 = .ok (.iadd, 1) := by decide +kernel
theorem d_L_law_116 : decode code 116 = .ok (.iaload, 1) := by decide +kernel
theorem d_L_law_117 : decode code 117 = .ok (.aload_n 0, 1) := by decide +kernel
theorem d_L_law_118 : decode code 118 = .ok (.iload 4, 2) := by decide +kernel
theorem d_L_law_120 : decode code 120 = .ok (.iconst 3, 1) := by decide +kernel
theorem d_L_law_121 : decode code 121 = .ok (.iadd, 1) := by decide +kernel
theorem d_L_law_122 : decode code 122 = .ok (.iaload, 1) := by decide +kernel
theorem d_L_law_123 : decode code 123 = .ok (.aload_n 0, 1) := by decide +kernel
theorem d_L_law_124 : decode code 124 = .ok (.iload 4, 2) := by decide +kernel
theorem d_L_law_126 : decode code 126 = .ok (.iconst 4, 1) := by decide +kernel
theorem d_L_law_127 : decode code 127 = .ok (.iadd, 1) := by decide +kernel
theorem d_L_law_128 : decode code 128 = .ok (.iaload, 1) := by decide +kernel
theorem d_L_law_129 : decode code 129 = .ok (.aload_n 0, 1) := by decide +kernel
theorem d_L_law_130 : decode code 130 = .ok (.iload 4, 2) := by decide +kernel
theorem d_L_law_132 : decode code 132 = .ok (.iconst 5, 1) := by decide +kernel
theorem d_L_law_133 : decode code 133 = .ok (.iadd, 1) := by decide +kernel
theorem d_L_law_134 : decode code 134 = .ok (.iaload, 1) := by decide +kernel
theorem d_L_law_135 : decode code 135 = .ok (.aload_n 3, 1) := by decide +kernel
theorem d_L_law_136 : decode code 136 = .ok (.invokestatic 55, 3) := by decide +kernel
theorem d_L_law_139 : decode code 139 = .ok (.istore 5, 2) := by decide +kernel
theorem d_L_law_141 : decode code 141 = .ok (.aload_n 2, 1) := by decide +kernel
theorem d_L_law_142 : decode code 142 = .ok (.aload_n 0, 1) := by decide +kernel
theorem d_L_law_143 : decode code 143 = .ok (.iload 4, 2) := by decide +kernel
theorem d_L_law_145 : decode code 145 = .ok (.iconst 1, 1) := by decide +kernel
theorem d_L_law_146 : decode code 146 = .ok (.iadd, 1) := by decide +kernel
theorem d_L_law_147 : decode code 147 = .ok (.iaload, 1) := by decide +kernel
theorem d_L_law_148 : decode code 148 = .ok (.aload_n 0, 1) := by decide +kernel
theorem d_L_law_149 : decode code 149 = .ok (.iload 4, 2) := by decide +kernel
theorem d_L_law_151 : decode code 151 = .ok (.iconst 2, 1) := by decide +kernel
theorem d_L_law_152 : decode code 152 = .ok (.iadd, 1) := by decide +kernel
theorem d_L_law_153 : decode code 153 = .ok (.iaload, 1) := by decide +kernel
theorem d_L_law_154 : decode code 154 = .ok (.aload_n 0, 1) := by decide +kernel
theorem d_L_law_155 : decode code 155 = .ok (.iload 4, 2) := by decide +kernel
theorem d_L_law_157 : decode code 157 = .ok (.iconst 3, 1) := by decide +kernel
theorem d_L_law_158 : decode code 158 = .ok (.iadd, 1) := by decide +kernel
theorem d_L_law_159 : decode code 159 = .ok (.iaload, 1) := by decide +kernel
theorem d_L_law_160 : decode code 160 = .ok (.aload_n 0, 1) := by decide +kernel
theorem d_L_law_161 : decode code 161 = .ok (.iload 4, 2) := by decide +kernel
theorem d_L_law_163 : decode code 163 = .ok (.iconst 4, 1) := by decide +kernel
theorem d_L_law_164 : decode code 164 = .ok (.iadd, 1) := by decide +kernel
theorem d_L_law_165 : decode code 165 = .ok (.iaload, 1) := by decide +kernel
theorem d_L_law_166 : decode code 166 = .ok (.aload_n 0, 1) := by decide +kernel
theorem d_L_law_167 : decode code 167 = .ok (.iload 4, 2) := by decide +kernel
theorem d_L_law_169 : decode code 169 = .ok (.iconst 5, 1) := by decide +kernel
theorem d_L_law_170 : decode code 170 = .ok (.iadd, 1) := by decide +kernel
theorem d_L_law_171 : decode code 171 = .ok (.iaload, 1) := by decide +kernel
theorem d_L_law_172 : decode code 172 = .ok (.invokevirtual 60, 3) := by decide +kernel
theorem d_L_law_175 : decode code 175 = .ok (.istore 6, 2) := by decide +kernel
theorem d_L_law_177 : decode code 177 = .ok (.aload_n 2, 1) := by decide +kernel
theorem d_L_law_178 : decode code 178 = .ok (.invokevirtual 61, 3) := by decide +kernel
theorem d_L_law_181 : decode code 181 = .ok (.iload 5, 2) := by decide +kernel
theorem d_L_law_183 : decode code 183 = .ok (.if_icmp .eq 5, 3) := by decide +kernel
theorem d_L_law_188 : decode code 188 = .ok (.iload 5, 2) := by decide +kernel
theorem d_L_law_190 : decode code 190 = .ok (.ifCond .ne 15, 3) := by decide +kernel
theorem d_L_law_193 : decode code 193 = .ok (.aload_n 3, 1) := by decide +kernel
theorem d_L_law_194 : decode code 194 = .ok (.iconst 0, 1) := by decide +kernel
theorem d_L_law_195 : decode code 195 = .ok (.laload, 1) := by decide +kernel
theorem d_L_law_196 : decode code 196 = .ok (.iload 6, 2) := by decide +kernel
theorem d_L_law_198 : decode code 198 = .ok (.i2l, 1) := by decide +kernel
theorem d_L_law_199 : decode code 199 = .ok (.lcmp, 1) := by decide +kernel
theorem d_L_law_200 : decode code 200 = .ok (.ifCond .eq 5, 3) := by decide +kernel
theorem d_L_law_205 : decode code 205 = .ok (.goto 541, 3) := by decide +kernel
theorem d_L_law_208 : decode code 208 = .ok (.aload_n 1, 1) := by decide +kernel
theorem d_L_law_209 : decode code 209 = .ok (.aload_n 0, 1) := by decide +kernel
theorem d_L_law_210 : decode code 210 = .ok (.iload 4, 2) := by decide +kernel
theorem d_L_law_212 : decode code 212 = .ok (.iconst 1, 1) := by decide +kernel
theorem d_L_law_213 : decode code 213 = .ok (.iadd, 1) := by decide +kernel
theorem d_L_law_214 : decode code 214 = .ok (.iaload, 1) := by decide +kernel
theorem d_L_law_215 : decode code 215 = .ok (.invokestatic 64, 3) := by decide +kernel
theorem d_L_law_218 : decode code 218 = .ok (.istore 5, 2) := by decide +kernel
theorem d_L_law_220 : decode code 220 = .ok (.aload_n 2, 1) := by decide +kernel
theorem d_L_law_221 : decode code 221 = .ok (.aload_n 0, 1) := by decide +kernel
theorem d_L_law_222 : decode code 222 = .ok (.iload 4, 2) := by decide +kernel
theorem d_L_law_224 : decode code 224 = .ok (.iconst 1, 1) := by decide +kernel
theorem d_L_law_225 : decode code 225 = .ok (.iadd, 1) := by decide +kernel
theorem d_L_law_226 : decode code 226 = .ok (.iaload, 1) := by decide +kernel
theorem d_L_law_227 : decode code 227 = .ok (.invokevirtual 67, 3) := by decide +kernel
theorem d_L_law_230 : decode code 230 = .ok (.aload_n 2, 1) := by decide +kernel
theorem d_L_law_231 : decode code 231 = .ok (.invokevirtual 61, 3) := by decide +kernel
theorem d_L_law_234 : decode code 234 = .ok (.iload 5, 2) := by decide +kernel
theorem d_L_law_236 : decode code 236 = .ok (.if_icmp .eq 5, 3) := by decide +kernel
theorem d_L_law_241 : decode code 241 = .ok (.goto 505, 3) := by decide +kernel
theorem d_L_law_244 : decode code 244 = .ok (.aload_n 1, 1) := by decide +kernel
theorem d_L_law_245 : decode code 245 = .ok (.aload_n 0, 1) := by decide +kernel
theorem d_L_law_246 : decode code 246 = .ok (.iload 4, 2) := by decide +kernel
theorem d_L_law_248 : decode code 248 = .ok (.iconst 1, 1) := by decide +kernel
theorem d_L_law_249 : decode code 249 = .ok (.iadd, 1) := by decide +kernel
theorem d_L_law_250 : decode code 250 = .ok (.iaload, 1) := by decide +kernel
theorem d_L_law_251 : decode code 251 = .ok (.aload_n 0, 1) := by decide +kernel
theorem d_L_law_252 : decode code 252 = .ok (.iload 4, 2) := by decide +kernel
theorem d_L_law_254 : decode code 254 = .ok (.iconst 2, 1) := by decide +kernel
theorem d_L_law_255 : decode code 255 = .ok (.iadd, 1) := by decide +kernel
theorem d_L_law_256 : decode code 256 = .ok (.iaload, 1) := by decide +kernel
theorem d_L_law_257 : decode code 257 = .ok (.aload_n 3, 1) := by decide +kernel
theorem d_L_law_258 : decode code 258 = .ok (.invokestatic 68, 3) := by decide +kernel
theorem d_L_law_261 : decode code 261 = .ok (.istore 5, 2) := by decide +kernel
theorem d_L_law_263 : decode code 263 = .ok (.aload_n 2, 1) := by decide +kernel
theorem d_L_law_264 : decode code 264 = .ok (.aload_n 0, 1) := by decide +kernel
theorem d_L_law_265 : decode code 265 = .ok (.iload 4, 2) := by decide +kernel
theorem d_L_law_267 : decode code 267 = .ok (.iconst 1, 1) := by decide +kernel
theorem d_L_law_268 : decode code 268 = .ok (.iadd, 1) := by decide +kernel
theorem d_L_law_269 : decode code 269 = .ok (.iaload, 1) := by decide +kernel
theorem d_L_law_270 : decode code 270 = .ok (.aload_n 0, 1) := by decide +kernel
theorem d_L_law_271 : decode code 271 = .ok (.iload 4, 2) := by decide +kernel
theorem d_L_law_273 : decode code 273 = .ok (.iconst 2, 1) := by decide +kernel
theorem d_L_law_274 : decode code 274 = .ok (.iadd, 1) := by decide +kernel
theorem d_L_law_275 : decode code 275 = .ok (.iaload, 1) := by decide +kernel
theorem d_L_law_276 : decode code 276 = .ok (.invokevirtual 71, 3) := by decide +kernel
theorem d_L_law_279 : decode code 279 = .ok (.istore 6, 2) := by decide +kernel
theorem d_L_law_281 : decode code 281 = .ok (.aload_n 2, 1) := by decide +kernel
theorem d_L_law_282 : decode code 282 = .ok (.invokevirtual 61, 3) := by decide +kernel
theorem d_L_law_285 : decode code 285 = .ok (.iload 5, 2) := by decide +kernel
theorem d_L_law_287 : decode code 287 = .ok (.if_icmp .eq 5, 3) := by decide +kernel
theorem d_L_law_292 : decode code 292 = .ok (.iload 5, 2) := by decide +kernel
theorem d_L_law_294 : decode code 294 = .ok (.ifCond .ne 15, 3) := by decide +kernel
theorem d_L_law_309 : decode code 309 = .ok (.goto 437, 3) := by decide +kernel
theorem d_L_law_312 : decode code 312 = .ok (.aload_n 1, 1) := by decide +kernel
theorem d_L_law_313 : decode code 313 = .ok (.invokevirtual 72, 3) := by decide +kernel
theorem d_L_law_316 : decode code 316 = .ok (.aload_n 2, 1) := by decide +kernel
theorem d_L_law_317 : decode code 317 = .ok (.invokevirtual 75, 3) := by decide +kernel
theorem d_L_law_320 : decode code 320 = .ok (.if_icmp .eq 426, 3) := by decide +kernel
theorem d_L_law_325 : decode code 325 = .ok (.aload_n 1, 1) := by decide +kernel
theorem d_L_law_326 : decode code 326 = .ok (.invokevirtual 76, 3) := by decide +kernel
theorem d_L_law_329 : decode code 329 = .ok (.aload_n 2, 1) := by decide +kernel
theorem d_L_law_330 : decode code 330 = .ok (.invokevirtual 79, 3) := by decide +kernel
theorem d_L_law_333 : decode code 333 = .ok (.if_icmp .eq 413, 3) := by decide +kernel
theorem d_L_law_338 : decode code 338 = .ok (.aload_n 1, 1) := by decide +kernel
theorem d_L_law_339 : decode code 339 = .ok (.aload_n 0, 1) := by decide +kernel
theorem d_L_law_340 : decode code 340 = .ok (.iload 4, 2) := by decide +kernel
theorem d_L_law_342 : decode code 342 = .ok (.iconst 1, 1) := by decide +kernel
theorem d_L_law_343 : decode code 343 = .ok (.iadd, 1) := by decide +kernel
theorem d_L_law_344 : decode code 344 = .ok (.iaload, 1) := by decide +kernel
theorem d_L_law_345 : decode code 345 = .ok (.aload_n 0, 1) := by decide +kernel
theorem d_L_law_346 : decode code 346 = .ok (.iload 4, 2) := by decide +kernel
theorem d_L_law_348 : decode code 348 = .ok (.iconst 2, 1) := by decide +kernel
theorem d_L_law_349 : decode code 349 = .ok (.iadd, 1) := by decide +kernel
theorem d_L_law_350 : decode code 350 = .ok (.iaload, 1) := by decide +kernel
theorem d_L_law_351 : decode code 351 = .ok (.invokestatic 80, 3) := by decide +kernel
theorem d_L_law_354 : decode code 354 = .ok (.istore 5, 2) := by decide +kernel
theorem d_L_law_356 : decode code 356 = .ok (.aload_n 2, 1) := by decide +kernel
theorem d_L_law_357 : decode code 357 = .ok (.aload_n 0, 1) := by decide +kernel
theorem d_L_law_358 : decode code 358 = .ok (.iload 4, 2) := by decide +kernel
theorem d_L_law_360 : decode code 360 = .ok (.iconst 1, 1) := by decide +kernel
theorem d_L_law_361 : decode code 361 = .ok (.iadd, 1) := by decide +kernel
theorem d_L_law_362 : decode code 362 = .ok (.iaload, 1) := by decide +kernel
theorem d_L_law_363 : decode code 363 = .ok (.aload_n 0, 1) := by decide +kernel
theorem d_L_law_364 : decode code 364 = .ok (.iload 4, 2) := by decide +kernel
theorem d_L_law_366 : decode code 366 = .ok (.iconst 2, 1) := by decide +kernel
theorem d_L_law_367 : decode code 367 = .ok (.iadd, 1) := by decide +kernel
theorem d_L_law_368 : decode code 368 = .ok (.iaload, 1) := by decide +kernel
theorem d_L_law_369 : decode code 369 = .ok (.invokevirtual 83, 3) := by decide +kernel
theorem d_L_law_372 : decode code 372 = .ok (.aload_n 2, 1) := by decide +kernel
theorem d_L_law_373 : decode code 373 = .ok (.invokevirtual 61, 3) := by decide +kernel
theorem d_L_law_376 : decode code 376 = .ok (.iload 5, 2) := by decide +kernel
theorem d_L_law_378 : decode code 378 = .ok (.if_icmp .eq 5, 3) := by decide +kernel
theorem d_L_law_383 : decode code 383 = .ok (.goto 363, 3) := by decide +kernel
theorem d_L_law_386 : decode code 386 = .ok (.aload_n 1, 1) := by decide +kernel
theorem d_L_law_387 : decode code 387 = .ok (.aload_n 0, 1) := by decide +kernel
theorem d_L_law_388 : decode code 388 = .ok (.iload 4, 2) := by decide +kernel
theorem d_L_law_390 : decode code 390 = .ok (.iconst 1, 1) := by decide +kernel
theorem d_L_law_391 : decode code 391 = .ok (.iadd, 1) := by decide +kernel
theorem d_L_law_392 : decode code 392 = .ok (.iaload, 1) := by decide +kernel
theorem d_L_law_393 : decode code 393 = .ok (.aload_n 3, 1) := by decide +kernel
theorem d_L_law_394 : decode code 394 = .ok (.invokestatic 84, 3) := by decide +kernel
theorem d_L_law_397 : decode code 397 = .ok (.istore 5, 2) := by decide +kernel
theorem d_L_law_399 : decode code 399 = .ok (.aload_n 2, 1) := by decide +kernel
theorem d_L_law_400 : decode code 400 = .ok (.aload_n 0, 1) := by decide +kernel
theorem d_L_law_401 : decode code 401 = .ok (.iload 4, 2) := by decide +kernel
theorem d_L_law_403 : decode code 403 = .ok (.iconst 1, 1) := by decide +kernel
theorem d_L_law_404 : decode code 404 = .ok (.iadd, 1) := by decide +kernel
theorem d_L_law_405 : decode code 405 = .ok (.iaload, 1) := by decide +kernel
theorem d_L_law_406 : decode code 406 = .ok (.invokevirtual 87, 3) := by decide +kernel
theorem d_L_law_409 : decode code 409 = .ok (.istore 6, 2) := by decide +kernel
theorem d_L_law_411 : decode code 411 = .ok (.aload_n 2, 1) := by decide +kernel
theorem d_L_law_412 : decode code 412 = .ok (.invokevirtual 61, 3) := by decide +kernel
theorem d_L_law_415 : decode code 415 = .ok (.iload 5, 2) := by decide +kernel
theorem d_L_law_417 : decode code 417 = .ok (.if_icmp .eq 5, 3) := by decide +kernel
theorem d_L_law_422 : decode code 422 = .ok (.iload 5, 2) := by decide +kernel
theorem d_L_law_424 : decode code 424 = .ok (.ifCond .ne 15, 3) := by decide +kernel
theorem d_L_law_439 : decode code 439 = .ok (.goto 307, 3) := by decide +kernel
theorem d_L_law_442 : decode code 442 = .ok (.aload_n 1, 1) := by decide +kernel
theorem d_L_law_443 : decode code 443 = .ok (.aload_n 3, 1) := by decide +kernel
theorem d_L_law_444 : decode code 444 = .ok (.invokestatic 88, 3) := by decide +kernel
theorem d_L_law_447 : decode code 447 = .ok (.istore 5, 2) := by decide +kernel
theorem d_L_law_449 : decode code 449 = .ok (.aload_n 2, 1) := by decide +kernel
theorem d_L_law_450 : decode code 450 = .ok (.invokevirtual 91, 3) := by decide +kernel
theorem d_L_law_453 : decode code 453 = .ok (.istore 6, 2) := by decide +kernel
theorem d_L_law_455 : decode code 455 = .ok (.aload_n 2, 1) := by decide +kernel
theorem d_L_law_456 : decode code 456 = .ok (.invokevirtual 61, 3) := by decide +kernel
theorem d_L_law_459 : decode code 459 = .ok (.iload 5, 2) := by decide +kernel
theorem d_L_law_461 : decode code 461 = .ok (.if_icmp .eq 5, 3) := by decide +kernel
theorem d_L_law_466 : decode code 466 = .ok (.iload 5, 2) := by decide +kernel
theorem d_L_law_468 : decode code 468 = .ok (.ifCond .ne 15, 3) := by decide +kernel
theorem d_L_law_483 : decode code 483 = .ok (.goto 263, 3) := by decide +kernel
theorem d_L_law_486 : decode code 486 = .ok (.aload_n 1, 1) := by decide +kernel
theorem d_L_law_487 : decode code 487 = .ok (.aload_n 0, 1) := by decide +kernel
theorem d_L_law_488 : decode code 488 = .ok (.iload 4, 2) := by decide +kernel
theorem d_L_law_490 : decode code 490 = .ok (.iconst 1, 1) := by decide +kernel
theorem d_L_law_491 : decode code 491 = .ok (.iadd, 1) := by decide +kernel
theorem d_L_law_492 : decode code 492 = .ok (.iaload, 1) := by decide +kernel
theorem d_L_law_493 : decode code 493 = .ok (.aload_n 0, 1) := by decide +kernel
theorem d_L_law_494 : decode code 494 = .ok (.iload 4, 2) := by decide +kernel
theorem d_L_law_496 : decode code 496 = .ok (.iconst 2, 1) := by decide +kernel
theorem d_L_law_497 : decode code 497 = .ok (.iadd, 1) := by decide +kernel
theorem d_L_law_498 : decode code 498 = .ok (.iaload, 1) := by decide +kernel
theorem d_L_law_499 : decode code 499 = .ok (.aload_n 3, 1) := by decide +kernel
theorem d_L_law_500 : decode code 500 = .ok (.invokestatic 92, 3) := by decide +kernel
theorem d_L_law_503 : decode code 503 = .ok (.istore 5, 2) := by decide +kernel
theorem d_L_law_505 : decode code 505 = .ok (.aload_n 2, 1) := by decide +kernel
theorem d_L_law_506 : decode code 506 = .ok (.aload_n 0, 1) := by decide +kernel
theorem d_L_law_507 : decode code 507 = .ok (.iload 4, 2) := by decide +kernel
theorem d_L_law_509 : decode code 509 = .ok (.iconst 1, 1) := by decide +kernel
theorem d_L_law_510 : decode code 510 = .ok (.iadd, 1) := by decide +kernel
theorem d_L_law_511 : decode code 511 = .ok (.iaload, 1) := by decide +kernel
theorem d_L_law_512 : decode code 512 = .ok (.aload_n 0, 1) := by decide +kernel
theorem d_L_law_513 : decode code 513 = .ok (.iload 4, 2) := by decide +kernel
theorem d_L_law_515 : decode code 515 = .ok (.iconst 2, 1) := by decide +kernel
theorem d_L_law_516 : decode code 516 = .ok (.iadd, 1) := by decide +kernel
theorem d_L_law_517 : decode code 517 = .ok (.iaload, 1) := by decide +kernel
theorem d_L_law_518 : decode code 518 = .ok (.invokevirtual 94, 3) := by decide +kernel
theorem d_L_law_521 : decode code 521 = .ok (.istore 6, 2) := by decide +kernel
theorem d_L_law_523 : decode code 523 = .ok (.aload_n 2, 1) := by decide +kernel
theorem d_L_law_524 : decode code 524 = .ok (.invokevirtual 61, 3) := by decide +kernel
theorem d_L_law_527 : decode code 527 = .ok (.iload 5, 2) := by decide +kernel
theorem d_L_law_529 : decode code 529 = .ok (.if_icmp .eq 5, 3) := by decide +kernel
theorem d_L_law_534 : decode code 534 = .ok (.iload 5, 2) := by decide +kernel
theorem d_L_law_536 : decode code 536 = .ok (.ifCond .ne 15, 3) := by decide +kernel
theorem d_L_law_551 : decode code 551 = .ok (.goto 195, 3) := by decide +kernel
theorem d_L_law_554 : decode code 554 = .ok (.aload_n 1, 1) := by decide +kernel
theorem d_L_law_555 : decode code 555 = .ok (.aload_n 0, 1) := by decide +kernel
theorem d_L_law_556 : decode code 556 = .ok (.iload 4, 2) := by decide +kernel
theorem d_L_law_558 : decode code 558 = .ok (.iconst 1, 1) := by decide +kernel
theorem d_L_law_559 : decode code 559 = .ok (.iadd, 1) := by decide +kernel
theorem d_L_law_560 : decode code 560 = .ok (.iaload, 1) := by decide +kernel
theorem d_L_law_561 : decode code 561 = .ok (.aload_n 0, 1) := by decide +kernel
theorem d_L_law_562 : decode code 562 = .ok (.iload 4, 2) := by decide +kernel
theorem d_L_law_564 : decode code 564 = .ok (.iconst 2, 1) := by decide +kernel
theorem d_L_law_565 : decode code 565 = .ok (.iadd, 1) := by decide +kernel
theorem d_L_law_566 : decode code 566 = .ok (.iaload, 1) := by decide +kernel
theorem d_L_law_567 : decode code 567 = .ok (.aload_n 3, 1) := by decide +kernel
theorem d_L_law_568 : decode code 568 = .ok (.invokestatic 95, 3) := by decide +kernel
theorem d_L_law_571 : decode code 571 = .ok (.istore 5, 2) := by decide +kernel
theorem d_L_law_573 : decode code 573 = .ok (.aload_n 2, 1) := by decide +kernel
theorem d_L_law_574 : decode code 574 = .ok (.aload_n 0, 1) := by decide +kernel
theorem d_L_law_575 : decode code 575 = .ok (.iload 4, 2) := by decide +kernel
theorem d_L_law_577 : decode code 577 = .ok (.iconst 1, 1) := by decide +kernel
theorem d_L_law_578 : decode code 578 = .ok (.iadd, 1) := by decide +kernel
theorem d_L_law_579 : decode code 579 = .ok (.iaload, 1) := by decide +kernel
theorem d_L_law_580 : decode code 580 = .ok (.aload_n 0, 1) := by decide +kernel
theorem d_L_law_581 : decode code 581 = .ok (.iload 4, 2) := by decide +kernel
theorem d_L_law_583 : decode code 583 = .ok (.iconst 2, 1) := by decide +kernel
theorem d_L_law_584 : decode code 584 = .ok (.iadd, 1) := by decide +kernel
theorem d_L_law_585 : decode code 585 = .ok (.iaload, 1) := by decide +kernel
theorem d_L_law_586 : decode code 586 = .ok (.invokevirtual 97, 3) := by decide +kernel
theorem d_L_law_589 : decode code 589 = .ok (.istore 6, 2) := by decide +kernel
theorem d_L_law_591 : decode code 591 = .ok (.aload_n 2, 1) := by decide +kernel
theorem d_L_law_592 : decode code 592 = .ok (.invokevirtual 61, 3) := by decide +kernel
theorem d_L_law_595 : decode code 595 = .ok (.iload 5, 2) := by decide +kernel
theorem d_L_law_597 : decode code 597 = .ok (.if_icmp .eq 5, 3) := by decide +kernel
theorem d_L_law_602 : decode code 602 = .ok (.iload 5, 2) := by decide +kernel
theorem d_L_law_604 : decode code 604 = .ok (.ifCond .ne 15, 3) := by decide +kernel
theorem d_L_law_619 : decode code 619 = .ok (.goto 127, 3) := by decide +kernel
theorem d_L_law_622 : decode code 622 = .ok (.aload_n 1, 1) := by decide +kernel
theorem d_L_law_623 : decode code 623 = .ok (.aload_n 0, 1) := by decide +kernel
theorem d_L_law_624 : decode code 624 = .ok (.iload 4, 2) := by decide +kernel
theorem d_L_law_626 : decode code 626 = .ok (.iconst 1, 1) := by decide +kernel
theorem d_L_law_627 : decode code 627 = .ok (.iadd, 1) := by decide +kernel
theorem d_L_law_628 : decode code 628 = .ok (.iaload, 1) := by decide +kernel
theorem d_L_law_629 : decode code 629 = .ok (.aload_n 0, 1) := by decide +kernel
theorem d_L_law_630 : decode code 630 = .ok (.iload 4, 2) := by decide +kernel
theorem d_L_law_632 : decode code 632 = .ok (.iconst 2, 1) := by decide +kernel
theorem d_L_law_633 : decode code 633 = .ok (.iadd, 1) := by decide +kernel
theorem d_L_law_634 : decode code 634 = .ok (.iaload, 1) := by decide +kernel
theorem d_L_law_635 : decode code 635 = .ok (.aload_n 3, 1) := by decide +kernel
theorem d_L_law_636 : decode code 636 = .ok (.invokestatic 98, 3) := by decide +kernel
theorem d_L_law_639 : decode code 639 = .ok (.istore 5, 2) := by decide +kernel
theorem d_L_law_641 : decode code 641 = .ok (.aload_n 2, 1) := by decide +kernel
theorem d_L_law_642 : decode code 642 = .ok (.aload_n 0, 1) := by decide +kernel
theorem d_L_law_643 : decode code 643 = .ok (.iload 4, 2) := by decide +kernel
theorem d_L_law_645 : decode code 645 = .ok (.iconst 1, 1) := by decide +kernel
theorem d_L_law_646 : decode code 646 = .ok (.iadd, 1) := by decide +kernel
theorem d_L_law_647 : decode code 647 = .ok (.iaload, 1) := by decide +kernel
theorem d_L_law_648 : decode code 648 = .ok (.aload_n 0, 1) := by decide +kernel
theorem d_L_law_649 : decode code 649 = .ok (.iload 4, 2) := by decide +kernel
theorem d_L_law_651 : decode code 651 = .ok (.iconst 2, 1) := by decide +kernel
theorem d_L_law_652 : decode code 652 = .ok (.iadd, 1) := by decide +kernel
theorem d_L_law_653 : decode code 653 = .ok (.iaload, 1) := by decide +kernel
theorem d_L_law_654 : decode code 654 = .ok (.invokevirtual 100, 3) := by decide +kernel
theorem d_L_law_657 : decode code 657 = .ok (.istore 6, 2) := by decide +kernel
theorem d_L_law_659 : decode code 659 = .ok (.aload_n 2, 1) := by decide +kernel
theorem d_L_law_660 : decode code 660 = .ok (.invokevirtual 61, 3) := by decide +kernel
theorem d_L_law_663 : decode code 663 = .ok (.iload 5, 2) := by decide +kernel
theorem d_L_law_665 : decode code 665 = .ok (.if_icmp .eq 5, 3) := by decide +kernel
theorem d_L_law_670 : decode code 670 = .ok (.iload 5, 2) := by decide +kernel
theorem d_L_law_672 : decode code 672 = .ok (.ifCond .ne 15, 3) := by decide +kernel
theorem d_L_law_687 : decode code 687 = .ok (.goto 59, 3) := by decide +kernel
theorem d_L_law_690 : decode code 690 = .ok (.aload_n 1, 1) := by decide +kernel
theorem d_L_law_691 : decode code 691 = .ok (.aload_n 0, 1) := by decide +kernel
theorem d_L_law_692 : decode code 692 = .ok (.iload 4, 2) := by decide +kernel
theorem d_L_law_694 : decode code 694 = .ok (.iconst 1, 1) := by decide +kernel
theorem d_L_law_695 : decode code 695 = .ok (.iadd, 1) := by decide +kernel
theorem d_L_law_696 : decode code 696 = .ok (.iaload, 1) := by decide +kernel
theorem d_L_law_697 : decode code 697 = .ok (.aload_n 3, 1) := by decide +kernel
theorem d_L_law_698 : decode code 698 = .ok (.invokestatic 101, 3) := by decide +kernel
theorem d_L_law_701 : decode code 701 = .ok (.istore 5, 2) := by decide +kernel
theorem d_L_law_703 : decode code 703 = .ok (.aload_n 2, 1) := by decide +kernel
theorem d_L_law_704 : decode code 704 = .ok (.aload_n 0, 1) := by decide +kernel
theorem d_L_law_705 : decode code 705 = .ok (.iload 4, 2) := by decide +kernel
theorem d_L_law_707 : decode code 707 = .ok (.iconst 1, 1) := by decide +kernel
theorem d_L_law_708 : decode code 708 = .ok (.iadd, 1) := by decide +kernel
theorem d_L_law_709 : decode code 709 = .ok (.iaload, 1) := by decide +kernel
theorem d_L_law_710 : decode code 710 = .ok (.invokevirtual 103, 3) := by decide +kernel
theorem d_L_law_713 : decode code 713 = .ok (.istore 6, 2) := by decide +kernel
theorem d_L_law_715 : decode code 715 = .ok (.aload_n 2, 1) := by decide +kernel
theorem d_L_law_716 : decode code 716 = .ok (.invokevirtual 61, 3) := by decide +kernel
theorem d_L_law_719 : decode code 719 = .ok (.iload 5, 2) := by decide +kernel
theorem d_L_law_721 : decode code 721 = .ok (.if_icmp .eq 5, 3) := by decide +kernel
theorem d_L_law_726 : decode code 726 = .ok (.iload 5, 2) := by decide +kernel
theorem d_L_law_728 : decode code 728 = .ok (.ifCond .ne 15, 3) := by decide +kernel
theorem d_L_law_731 : decode code 731 = .ok (.aload_n 3, 1) := by decide +kernel
theorem d_L_law_732 : decode code 732 = .ok (.iconst 0, 1) := by decide +kernel
theorem d_L_law_733 : decode code 733 = .ok (.laload, 1) := by decide +kernel
theorem d_L_law_734 : decode code 734 = .ok (.iload 6, 2) := by decide +kernel
theorem d_L_law_736 : decode code 736 = .ok (.i2l, 1) := by decide +kernel
theorem d_L_law_737 : decode code 737 = .ok (.lcmp, 1) := by decide +kernel
theorem d_L_law_738 : decode code 738 = .ok (.ifCond .eq 5, 3) := by decide +kernel
theorem d_L_law_743 : decode code 743 = .ok (.goto 3, 3) := by decide +kernel
theorem d_L_law_746 : decode code 746 = .ok (.iinc 4 6, 3) := by decide +kernel
theorem d_L_law_749 : decode code 749 = .ok (.goto (-726), 3) := by decide +kernel
theorem d_L_law_752 : decode code 752 = .ok (.iconst 1, 1) := by decide +kernel
theorem d_L_law_753 : decode code 753 = .ok (.ireturn, 1) := by decide +kernel
def R_law : String := "ZipGuardLaw"
def lw_P (b : Addr) (xs : List Int32) (args : Array Value) (s : State) : Prop := args = #[.ref b] ∧ s.IntsAt b xs ∧ xs.length ≤ 6 ∧ (Jvm.Cond.and given_1 narrow_1).before args s = true
def lw_Q (_ : Array Value) (s : State) (o : Outcome) (t : State) : Prop := o = .returned (some (.int 1)) ∧ Framed s o t [] 600002 7302232
def lw_Z (below : List Frame) (a : Array Value) (s : State) : State → Prop := fun t => ∃ o, t.status = .running ∧ Ended t below o ∧ lw_Q a s o t
/-- the law's own end, with 1 on the stack, nothing written that was there before, its room as the claim has it -/
theorem lw_ret {p : Program} {l : Launch} {e : Env} {s : State} {m : MethodId} {below : List Frame} {meth : Method} {c : Code} {b : Nat} (hx : p.tables.exec = Jvm.exec) (hb : c.code = code) (hr : meth.sig.returnType = ret) (hlocks : meth.locks = false) {pc : Nat} {H : Heap} {ls : Array Slot} (hdg : decode code pc = .ok (.ireturn, 1)) : W p l e room_1 s m #[Value.ref b] below meth c H [] 600002 7302232 (lw_Z below #[Value.ref b] s) (F0 m pc ls [.int 1]) := by
  intro T hT X
  obtain ⟨fs, hret, hrun, hended, hW, hframe⟩ := X.leave (v := some (.int 1)) (hlocks := hlocks) (fun h => by rw [hr] at h; cases h)
  have hmeth' : T.vm.method? m = some meth := X.method'
  refine ⟨T.setFrames fs, ?_, .returned (some (.int 1)), hrun, hended, rfl, ⟨_, rfl⟩, hW, hframe⟩
  jvm_step X.here [X.here.top, hx, hb, hdg, hmeth', hr, ret, narrow_b1]
  (try refine ⟨rfl, ?_⟩); (try refine ⟨rfl, ?_⟩)
  first | (intro acts; rw [hret _ acts rfl rfl rfl]) | rw [hret _ _ rfl rfl rfl]
  exact Steps.refl _
set_option maxHeartbeats 4000000 in
set_option maxRecDepth 100000 in
theorem zl_tail {p : Program} {l : Launch} {e : Env} {s : State} {m : MethodId} {below : List Frame} {meth : Method} {c : Code} {b : Nat} {xs : Nat → Int32} {A : Nat → Prop} {H : Heap} {locs : List Loc} {ls : Array Slot} {cells slots : Nat} (hx : p.tables.exec = Jvm.exec) (hb : c.code = code) (hr : meth.sig.returnType = ret) (hml : c.maxLocals = 7) (hown : s.vm.findClass "ZipGuardLaw" = some m.cls) (ht : ∀ w ∈ zt, w.before #[Value.ref b] s = true) (hX : va_X b 6 xs s s.heap) (hbl : b < s.heap.size) (hlk : meth.locks = false) (hl9 : l.stackTraces = false) (hG : zG s) (hA : ∀ q, s.heap.size ≤ q → A q) (hAe : ∀ q, A q → s.heap.size ≤ q)   (hS : va_S A s.heap H locs) (hl : lv_has ls 7 [(4, .int 0), (0, .ref b)]) (hcc : cells ≤ 600002) (hss : slots ≤ 7302232) : W p l e room_1 s m #[Value.ref b] below meth c H locs cells slots (lw_Z below #[Value.ref b] s) (F0 m 746 ls []) := by
  have hbA : ¬ A b := fun h => absurd (hAe b h) (Nat.not_le.mpr hbl)
  refine lv_iinc (k := 0) (v := 6) (lv' := [(4, .int 6), (0, .ref b)]) hx hb d_L_law_746 hl rfl (by decide) (by decide) rfl (fun ls hl => ?_)
  refine lv_goto (tgt := 23) hx hb d_L_law_749 (by decide) ?_
  refine lv_iload hx hb d_L_law_23 (lv_at hl 0 rfl) ?_
  refine lv_aload_n hx hb d_L_law_25 rfl (lv_at hl 1 rfl) ?_
  refine va_slen hx hb hX hbl hbA hS d_L_law_26 ?_
  refine lv_bipush (v := 6) hx hb d_L_law_27 (by decide) ?_
  refine lv_isub hx hb d_L_law_29 ?_
  refine lv_topi (fun z1 e_z1 => ?_)
  have e_z1 : z1 = 0 := e_z1.trans (by decide)
  subst e_z1
  refine lv_icmp_gt (tgt := 752) hx hb d_L_law_30 (by decide) (fun _ => ?_) (fun h => absurd (by decide) h)
  refine lv_iconst (v := 1) hx hb d_L_law_752 (by decide) ?_
  exact va_forget (fun q hq => hAe _ (hS.2.2 q hq)) (W.widen hcc hss (lw_ret hx hb hr hlk d_L_law_753))
set_option maxHeartbeats 4000000 in
set_option maxRecDepth 100000 in
theorem zl_0 {p : Program} {l : Launch} {e : Env} {s : State} {m : MethodId} {below : List Frame} {meth : Method} {c : Code} {b : Nat} {xs : Nat → Int32} {A : Nat → Prop} {D : va_G} {H : Heap} {locs : List Loc} {ls : Array Slot} (hx : p.tables.exec = Jvm.exec) (hb : c.code = code) (hr : meth.sig.returnType = ret) (hml : c.maxLocals = 7) (hown : s.vm.findClass "ZipGuardLaw" = some m.cls) (ht : ∀ w ∈ zt, w.before #[Value.ref b] s = true) (hX : va_X b 6 xs s s.heap) (hbl : b < s.heap.size) (hlk : meth.locks = false) (hl9 : l.stackTraces = false) (hG : zG s) (hA : ∀ q, s.heap.size ≤ q → A q) (hAe : ∀ q, A q → s.heap.size ≤ q) (h0 : Nat) (qt : Nat) (qd : Nat) (qa : Nat) (qu : Nat) (qb : Nat) (qe : Nat) (qo : Nat) (cB : ClassId) (mm : Nat) (m_tape : Nat) (m_methods : Nat) (m_packed : Nat) (m_sizes : Nat) (m_sums : Nat) (m_datas : Nat) (m_locals : Nat) (m_localEnds : Nat) (m_names : Nat) (m_nameSizes : Nat) (m_states : Nat) (m_starts : Nat) (m_counts : Nat) (m_written : Nat) (m_lengths : Nat) (m_small : Nat) (m_codes : Nat) (m_smallCodes : Nat) (cM : ClassId) (qz : Nat) (cZ : ClassId) (v1 : Int32) (v2 : Int32) (v3 : Int32) (v4 : Int32) (v5 : Int32) (hv1 : xs (1 : Int32).toNatClampNeg = v1) (hv2 : xs (2 : Int32).toNatClampNeg = v2) (hv3 : xs (3 : Int32).toNatClampNeg = v3) (hv4 : xs (4 : Int32).toNatClampNeg = v4) (hv5 : xs (5 : Int32).toNatClampNeg = v5) (hK : va_K D zcl [(cB, .byte), (cM, .byte), (cZ, .long)] s) (hP : va_P D zcl [(h0, .inr (0, [.ref qt, .ref qd, .ref qa, .ref qu])), (qt, .inr (1, [.ref qb, .int 0])), (qb, .inl (cB, 20000, .inl (fun _ => 0))), (qd, .inr (2, [.ref qe, .int 0, .int 0, .int (-1), .ref qt])), (qa, .inr (3, [.int 20000, .int 100, .int 0, .ref qo, .int (-1)])), (mm, .inr (8, [.ref m_tape, .int 0, .int 0, .int (-1), .int 20000, .int 100, .int 0, .ref m_methods, .ref m_packed, .ref m_sizes, .ref m_sums, .ref m_datas, .ref m_locals, .ref m_localEnds, .ref m_names, .ref m_nameSizes, .ref m_states, .ref m_starts, .ref m_counts, .ref m_written, .int 0, .int 0, .int 0, .int 0, .ref m_lengths, .ref m_small, .ref m_codes, .ref m_smallCodes, .int 0, .int 0, .int 0])), (m_tape, .inl (cM, 20000, .inl (fun _ => 0))), (qz, .inl (cZ, 1, .inr (.inl (fun _ => 0))))] H) (hD : va_D A [(h0, .inr (0, [.ref qt, .ref qd, .ref qa, .ref qu])), (qt, .inr (1, [.ref qb, .int 0])), (qb, .inl (cB, 20000, .inl (fun _ => 0))), (qd, .inr (2, [.ref qe, .int 0, .int 0, .int (-1), .ref qt])), (qa, .inr (3, [.int 20000, .int 100, .int 0, .ref qo, .int (-1)])), (mm, .inr (8, [.ref m_tape, .int 0, .int 0, .int (-1), .int 20000, .int 100, .int 0, .ref m_methods, .ref m_packed, .ref m_sizes, .ref m_sums, .ref m_datas, .ref m_locals, .ref m_localEnds, .ref m_names, .ref m_nameSizes, .ref m_states, .ref m_starts, .ref m_counts, .ref m_written, .int 0, .int 0, .int 0, .int 0, .ref m_lengths, .ref m_small, .ref m_codes, .ref m_smallCodes, .int 0, .int 0, .int 0])), (m_tape, .inl (cM, 20000, .inl (fun _ => 0))), (qz, .inl (cZ, 1, .inr (.inl (fun _ => 0))))]) (hS : va_S A s.heap H locs) (hl : lv_has ls 7 [(4, .int 0), (3, .ref qz), (2, .ref mm), (1, .ref h0), (0, .ref b)]) : W p l e room_1 s m #[Value.ref b] below meth c H locs 178 131109 (lw_Z below #[Value.ref b] s) (F0 m 104 ls []) := by
  have hbA : ¬ A b := fun h => absurd (hAe b h) (Nat.not_le.mpr hbl)
  refine lv_aload_n hx hb d_L_law_104 rfl (lv_at hl 3 rfl) ?_
  refine lv_aload_n hx hb d_L_law_105 rfl (lv_at hl 4 rfl) ?_
  refine lv_iload hx hb d_L_law_106 (lv_at hl 0 rfl) ?_
  refine lv_iconst (v := 1) hx hb d_L_law_108 (by decide) ?_
  refine lv_iadd hx hb d_L_law_109 ?_
  refine lv_topi (fun z1 e_z1 => ?_)
  have e_z1 : z1 = 1 := e_z1.trans (by decide)
  subst e_z1
  refine va_sld hx hb hX hbl hbA hS (by unfold vp_in; decide) d_L_law_110 ?_
  rw [hv1]
  refine lv_aload_n hx hb d_L_law_111 rfl (lv_at hl 4 rfl) ?_
  refine lv_iload hx hb d_L_law_112 (lv_at hl 0 rfl) ?_
  refine lv_iconst (v := 2) hx hb d_L_law_114 (by decide) ?_
  refine lv_iadd hx hb d_L_law_115 ?_
  refine lv_topi (fun z2 e_z2 => ?_)
  have e_z2 : z2 = 2 := e_z2.trans (by decide)
  subst e_z2
  refine va_sld hx hb hX hbl hbA hS (by unfold vp_in; decide) d_L_law_116 ?_
  rw [hv2]
  refine lv_aload_n hx hb d_L_law_117 rfl (lv_at hl 4 rfl) ?_
  refine lv_iload hx hb d_L_law_118 (lv_at hl 0 rfl) ?_
  refine lv_iconst (v := 3) hx hb d_L_law_120 (by decide) ?_
  refine lv_iadd hx hb d_L_law_121 ?_
  refine lv_topi (fun z3 e_z3 => ?_)
  have e_z3 : z3 = 3 := e_z3.trans (by decide)
  subst e_z3
  refine va_sld hx hb hX hbl hbA hS (by unfold vp_in; decide) d_L_law_122 ?_
  rw [hv3]
  refine lv_aload_n hx hb d_L_law_123 rfl (lv_at hl 4 rfl) ?_
  refine lv_iload hx hb d_L_law_124 (lv_at hl 0 rfl) ?_
  refine lv_iconst (v := 4) hx hb d_L_law_126 (by decide) ?_
  refine lv_iadd hx hb d_L_law_127 ?_
  refine lv_topi (fun z4 e_z4 => ?_)
  have e_z4 : z4 = 4 := e_z4.trans (by decide)
  subst e_z4
  refine va_sld hx hb hX hbl hbA hS (by unfold vp_in; decide) d_L_law_128 ?_
  rw [hv4]
  refine lv_aload_n hx hb d_L_law_129 rfl (lv_at hl 4 rfl) ?_
  refine lv_iload hx hb d_L_law_130 (lv_at hl 0 rfl) ?_
  refine lv_iconst (v := 5) hx hb d_L_law_132 (by decide) ?_
  refine lv_iadd hx hb d_L_law_133 ?_
  refine lv_topi (fun z5 e_z5 => ?_)
  have e_z5 : z5 = 5 := e_z5.trans (by decide)
  subst e_z5
  refine va_sld hx hb hX hbl hbA hS (by unfold vp_in; decide) d_L_law_134 ?_
  rw [hv5]
  refine lv_aload_n hx hb d_L_law_135 rfl (lv_at hl 1 rfl) ?_
  refine zji (wr := [(qa, .inr (3, [.int 20000, .int 100, .int 0, .ref qo, .int (-1)])), (mm, .inr (8, [.ref m_tape, .int 0, .int 0, .int (-1), .int 20000, .int 100, .int 0, .ref m_methods, .ref m_packed, .ref m_sizes, .ref m_sums, .ref m_datas, .ref m_locals, .ref m_localEnds, .ref m_names, .ref m_nameSizes, .ref m_states, .ref m_starts, .ref m_counts, .ref m_written, .int 0, .int 0, .int 0, .int 0, .ref m_lengths, .ref m_small, .ref m_codes, .ref m_smallCodes, .int 0, .int 0, .int 0])), (m_tape, .inl (cM, 20000, .inl (fun _ => 0)))]) (zrunSW (n := 7) (As := [.ref h0, .int v1, .int v2, .int v3, .int v4, .int v5, .ref qz]) (rest := []) ⟨hx, hb, hml, hown, ht⟩ (c_L_feed l D _ h0 qt qd qa qu qb qe cB (fun _ => 0) 0 0 (-1) v1 v2 v3 v4 v5 qz cZ (fun _ => 0) ) zm_512 zm_513 zm_64 zm_514 rfl rfl (by decide +kernel) ⟨Nat.le_of_ble_eq_true rfl, Nat.le_of_ble_eq_true rfl⟩ (zpre zBlind_t hK hP hD [0, 1, 2, 3, 7] [0, 2] rfl (by decide) rfl (fun _ _ _ => trivial)) rfl rfl hl.1 rfl (lv_room (Nat.le_of_ble_eq_true rfl)) d_L_law_136 ⟨Nat.le_of_ble_eq_true rfl, Nat.le_of_ble_eq_true rfl⟩) hK hP hD hS hA [0, 1, 2, 3, 7] [4, 5, 6] rfl rfl (by decide) (by decide) (fun r6 u H locs hp7 hP hD hK hS => ?_)
  have hP : va_P D zcl [(qa, .inr (3, [.int 20000, .int 100, .int 0, .ref qo, .int (-1)])), (mm, .inr (8, [.ref m_tape, .int 0, .int 0, .int (-1), .int 20000, .int 100, .int 0, .ref m_methods, .ref m_packed, .ref m_sizes, .ref m_sums, .ref m_datas, .ref m_locals, .ref m_localEnds, .ref m_names, .ref m_nameSizes, .ref m_states, .ref m_starts, .ref m_counts, .ref m_written, .int 0, .int 0, .int 0, .int 0, .ref m_lengths, .ref m_small, .ref m_codes, .ref m_smallCodes, .int 0, .int 0, .int 0])), (m_tape, .inl (cM, 20000, .inl (fun _ => 0))), (qz, .inl (cZ, 1, .inr (.inl (vp_updL (fun _ => 0) (0 : Int32).toNatClampNeg (20 : Int32).toInt64))))] H := hP
  have hD : va_D A [(qa, .inr (3, [.int 20000, .int 100, .int 0, .ref qo, .int (-1)])), (mm, .inr (8, [.ref m_tape, .int 0, .int 0, .int (-1), .int 20000, .int 100, .int 0, .ref m_methods, .ref m_packed, .ref m_sizes, .ref m_sums, .ref m_datas, .ref m_locals, .ref m_localEnds, .ref m_names, .ref m_nameSizes, .ref m_states, .ref m_starts, .ref m_counts, .ref m_written, .int 0, .int 0, .int 0, .int 0, .ref m_lengths, .ref m_small, .ref m_codes, .ref m_smallCodes, .int 0, .int 0, .int 0])), (m_tape, .inl (cM, 20000, .inl (fun _ => 0))), (qz, .inl (cZ, 1, .inr (.inl (vp_updL (fun _ => 0) (0 : Int32).toNatClampNeg (20 : Int32).toInt64))))] := hD
  have hK : va_K D zcl [(cB, .byte), (cM, .byte), (cZ, .long), (cZ, .long)] s := hK
  have hp7 := hp7.symm
  subst hp7
  refine lv_istore (lv' := [(5, .int 0), (4, .int 0), (3, .ref qz), (2, .ref mm), (1, .ref h0), (0, .ref b)]) hx hb d_L_law_139 hl (by decide) rfl (fun ls hl => ?_)
  refine lv_aload_n hx hb d_L_law_141 rfl (lv_at hl 3 rfl) ?_
  refine lv_aload_n hx hb d_L_law_142 rfl (lv_at hl 5 rfl) ?_
  refine lv_iload hx hb d_L_law_143 (lv_at hl 1 rfl) ?_
  refine lv_iconst (v := 1) hx hb d_L_law_145 (by decide) ?_
  refine lv_iadd hx hb d_L_law_146 ?_
  refine lv_topi (fun z8 e_z8 => ?_)
  have e_z8 : z8 = 1 := e_z8.trans (by decide)
  subst e_z8
  refine va_sld hx hb hX hbl hbA hS (by unfold vp_in; decide) d_L_law_147 ?_
  rw [hv1]
  refine lv_aload_n hx hb d_L_law_148 rfl (lv_at hl 5 rfl) ?_
  refine lv_iload hx hb d_L_law_149 (lv_at hl 1 rfl) ?_
  refine lv_iconst (v := 2) hx hb d_L_law_151 (by decide) ?_
  refine lv_iadd hx hb d_L_law_152 ?_
  refine lv_topi (fun z9 e_z9 => ?_)
  have e_z9 : z9 = 2 := e_z9.trans (by decide)
  subst e_z9
  refine va_sld hx hb hX hbl hbA hS (by unfold vp_in; decide) d_L_law_153 ?_
  rw [hv2]
  refine lv_aload_n hx hb d_L_law_154 rfl (lv_at hl 5 rfl) ?_
  refine lv_iload hx hb d_L_law_155 (lv_at hl 1 rfl) ?_
  refine lv_iconst (v := 3) hx hb d_L_law_157 (by decide) ?_
  refine lv_iadd hx hb d_L_law_158 ?_
  refine lv_topi (fun z10 e_z10 => ?_)
  have e_z10 : z10 = 3 := e_z10.trans (by decide)
  subst e_z10
  refine va_sld hx hb hX hbl hbA hS (by unfold vp_in; decide) d_L_law_159 ?_
  rw [hv3]
  refine lv_aload_n hx hb d_L_law_160 rfl (lv_at hl 5 rfl) ?_
  refine lv_iload hx hb d_L_law_161 (lv_at hl 1 rfl) ?_
  refine lv_iconst (v := 4) hx hb d_L_law_163 (by decide) ?_
  refine lv_iadd hx hb d_L_law_164 ?_
  refine lv_topi (fun z11 e_z11 => ?_)
  have e_z11 : z11 = 4 := e_z11.trans (by decide)
  subst e_z11
  refine va_sld hx hb hX hbl hbA hS (by unfold vp_in; decide) d_L_law_165 ?_
  rw [hv4]
  refine lv_aload_n hx hb d_L_law_166 rfl (lv_at hl 5 rfl) ?_
  refine lv_iload hx hb d_L_law_167 (lv_at hl 1 rfl) ?_
  refine lv_iconst (v := 5) hx hb d_L_law_169 (by decide) ?_
  refine lv_iadd hx hb d_L_law_170 ?_
  refine lv_topi (fun z12 e_z12 => ?_)
  have e_z12 : z12 = 5 := e_z12.trans (by decide)
  subst e_z12
  refine va_sld hx hb hX hbl hbA hS (by unfold vp_in; decide) d_L_law_171 ?_
  rw [hv5]
  refine zji (wr := [(qa, .inr (3, [.int 20000, .int 100, .int 0, .ref qo, .int (-1)])), (qz, .inl (cZ, 1, .inr (.inl (vp_updL (fun _ => 0) (0 : Int32).toNatClampNeg (20 : Int32).toInt64))))]) (va_runV (As := [.int v1, .int v2, .int v3, .int v4, .int v5]) (rest := []) ⟨hx, hb, hml, hown, ht⟩ (c_M_feed0 l D _ mm m_tape m_methods m_packed m_sizes m_sums m_datas m_locals m_localEnds m_names m_nameSizes m_states m_starts m_counts m_written m_lengths m_small m_codes m_smallCodes 0 (-1) 20000 100 0 0 0 0 0 0 0 0 cM (fun _ => 0) v1 v2 v3 v4 v5 ) (cwV 5 ht (zt_goodV zm_851 zm_852 zm_853 zm_79 zm_854) rfl rfl rfl (by decide +kernel) ⟨Nat.le_of_ble_eq_true rfl, Nat.le_of_ble_eq_true rfl⟩) (zpreV zBlind_t hK hP hD [1, 2] [1] rfl (by decide) rfl (fun _ _ _ => trivial) (va_recv (q := ("ZipGuardModel", F_M, 31)) hK hP rfl (q0 := 1) (ci := 8) rfl)) rfl rfl hl.1 rfl (lv_room (Nat.le_of_ble_eq_true rfl)) d_L_law_172 ⟨Nat.le_of_ble_eq_true rfl, Nat.le_of_ble_eq_true rfl⟩) hK hP hD hS hA [1, 2] [0, 3] rfl rfl (by decide) (by decide) (fun r13 u H locs hp14 hP hD hK hS => ?_)
  have hP : va_P D zcl [(qa, .inr (3, [.int 20000, .int 100, .int 0, .ref qo, .int (-1)])), (qz, .inl (cZ, 1, .inr (.inl (vp_updL (fun _ => 0) (0 : Int32).toNatClampNeg (20 : Int32).toInt64)))), (mm, .inr (8, [.ref m_tape, .int 20, .int 0, .int (-1), .int 20000, .int 100, .int 0, .ref m_methods, .ref m_packed, .ref m_sizes, .ref m_sums, .ref m_datas, .ref m_locals, .ref m_localEnds, .ref m_names, .ref m_nameSizes, .ref m_states, .ref m_starts, .ref m_counts, .ref m_written, .int 0, .int 0, .int 0, .int 0, .ref m_lengths, .ref m_small, .ref m_codes, .ref m_smallCodes, .int 0, .int 0, .int 0]))] H := hP
  have hD : va_D A [(qa, .inr (3, [.int 20000, .int 100, .int 0, .ref qo, .int (-1)])), (qz, .inl (cZ, 1, .inr (.inl (vp_updL (fun _ => 0) (0 : Int32).toNatClampNeg (20 : Int32).toInt64)))), (mm, .inr (8, [.ref m_tape, .int 20, .int 0, .int (-1), .int 20000, .int 100, .int 0, .ref m_methods, .ref m_packed, .ref m_sizes, .ref m_sums, .ref m_datas, .ref m_locals, .ref m_localEnds, .ref m_names, .ref m_nameSizes, .ref m_states, .ref m_starts, .ref m_counts, .ref m_written, .int 0, .int 0, .int 0, .int 0, .ref m_lengths, .ref m_small, .ref m_codes, .ref m_smallCodes, .int 0, .int 0, .int 0]))] := hD
  have hK : va_K D zcl [(cB, .byte), (cM, .byte), (cZ, .long), (cZ, .long)] s := hK
  have hp14 := hp14.symm
  subst hp14
  refine lv_istore (lv' := [(6, .int 20), (5, .int 0), (4, .int 0), (3, .ref qz), (2, .ref mm), (1, .ref h0), (0, .ref b)]) hx hb d_L_law_175 hl (by decide) rfl (fun ls hl => ?_)
  refine lv_aload_n hx hb d_L_law_177 rfl (lv_at hl 4 rfl) ?_
  refine zji (wr := [(qa, .inr (3, [.int 20000, .int 100, .int 0, .ref qo, .int (-1)])), (qz, .inl (cZ, 1, .inr (.inl (vp_updL (fun _ => 0) (0 : Int32).toNatClampNeg (20 : Int32).toInt64))))]) (va_runV (As := []) (rest := []) ⟨hx, hb, hml, hown, ht⟩ (c_M_thrown l D _ mm m_tape m_methods m_packed m_sizes m_sums m_datas m_locals m_localEnds m_names m_nameSizes m_states m_starts m_counts m_written m_lengths m_small m_codes m_smallCodes 20 0 (-1) 20000 100 0 0 0 0 0 0 0 0 ) (cwV 0 ht (zt_goodV zm_847 zm_848 zm_849 zm_79 zm_850) rfl rfl rfl (by decide +kernel) ⟨Nat.le_of_ble_eq_true rfl, Nat.le_of_ble_eq_true rfl⟩) (zpreV zBlind_t hK hP hD [2] [] rfl (by decide) rfl (fun _ _ _ => trivial) (va_recv (q := ("ZipGuardModel", F_M, 31)) hK hP rfl (q0 := 2) (ci := 8) rfl)) rfl rfl hl.1 rfl (lv_room (Nat.le_of_ble_eq_true rfl)) d_L_law_178 ⟨Nat.le_of_ble_eq_true rfl, Nat.le_of_ble_eq_true rfl⟩) hK hP hD hS hA [2] [0, 1] rfl rfl (by decide) (by decide) (fun r15 u H locs hp16 hP hD hK hS => ?_)
  have hP : va_P D zcl [(qa, .inr (3, [.int 20000, .int 100, .int 0, .ref qo, .int (-1)])), (qz, .inl (cZ, 1, .inr (.inl (vp_updL (fun _ => 0) (0 : Int32).toNatClampNeg (20 : Int32).toInt64)))), (mm, .inr (8, [.ref m_tape, .int 20, .int 0, .int (-1), .int 20000, .int 100, .int 0, .ref m_methods, .ref m_packed, .ref m_sizes, .ref m_sums, .ref m_datas, .ref m_locals, .ref m_localEnds, .ref m_names, .ref m_nameSizes, .ref m_states, .ref m_starts, .ref m_counts, .ref m_written, .int 0, .int 0, .int 0, .int 0, .ref m_lengths, .ref m_small, .ref m_codes, .ref m_smallCodes, .int 0, .int 0, .int 0]))] H := hP
  have hD : va_D A [(qa, .inr (3, [.int 20000, .int 100, .int 0, .ref qo, .int (-1)])), (qz, .inl (cZ, 1, .inr (.inl (vp_updL (fun _ => 0) (0 : Int32).toNatClampNeg (20 : Int32).toInt64)))), (mm, .inr (8, [.ref m_tape, .int 20, .int 0, .int (-1), .int 20000, .int 100, .int 0, .ref m_methods, .ref m_packed, .ref m_sizes, .ref m_sums, .ref m_datas, .ref m_locals, .ref m_localEnds, .ref m_names, .ref m_nameSizes, .ref m_states, .ref m_starts, .ref m_counts, .ref m_written, .int 0, .int 0, .int 0, .int 0, .ref m_lengths, .ref m_small, .ref m_codes, .ref m_smallCodes, .int 0, .int 0, .int 0]))] := hD
  have hK : va_K D zcl [(cB, .byte), (cM, .byte), (cZ, .long), (cZ, .long)] s := hK
  have hp16 := hp16.symm
  subst hp16
  refine lv_iload hx hb d_L_law_181 (lv_at hl 1 rfl) ?_
  refine lv_icmp_eq (tgt := 188) hx hb d_L_law_183 (by decide) (fun _ => ?_) (fun h => absurd (rfl) h)
  refine lv_iload hx hb d_L_law_188 (lv_at hl 1 rfl) ?_
  refine lv_if_ne (tgt := 205) hx hb d_L_law_190 (by decide) (fun h => absurd (by decide) h) (fun _ => ?_)
  refine lv_aload_n hx hb d_L_law_193 rfl (lv_at hl 3 rfl) ?_
  refine lv_iconst (v := 0) hx hb d_L_law_194 (by decide) ?_
  refine va_lald hx hb hK hP 1 2 rfl rfl (by unfold vp_in; decide) d_L_law_195 ?_
  refine lv_topl (fun x19 e_x19 => ?_)
  have e_x19 : x19 = (20 : Int32).toInt64 := by rw [e_x19]; exact pk_uLs
  subst e_x19
  refine lv_iload hx hb d_L_law_196 (lv_at hl 0 rfl) ?_
  refine lv_i2l hx hb d_L_law_198 rfl ?_
  refine W.lcmp hx hb d_L_law_199 ?_
  refine lv_topi (fun x20 e_x20 => ?_)
  have e_x20 : x20 = 0 := by rw [e_x20]; simp [lg_cmp]
  subst e_x20
  refine lv_if_eq (tgt := 205) hx hb d_L_law_200 (by decide) (fun _ => ?_) (fun h => absurd (by decide) h)
  refine lv_goto (tgt := 746) hx hb d_L_law_205 (by decide) ?_
  exact zl_tail hx hb hr hml hown ht hX hbl hlk hl9 hG hA hAe hS (lv_sub hl [2, 6] rfl) (Nat.le_of_ble_eq_true rfl) (Nat.le_of_ble_eq_true rfl)
set_option maxHeartbeats 4000000 in
set_option maxRecDepth 100000 in
theorem zl_1a {p : Program} {l : Launch} {e : Env} {s : State} {m : MethodId} {below : List Frame} {meth : Method} {c : Code} {b : Nat} {xs : Nat → Int32} {A : Nat → Prop} {D : va_G} {H : Heap} {locs : List Loc} {ls : Array Slot} (hx : p.tables.exec = Jvm.exec) (hb : c.code = code) (hr : meth.sig.returnType = ret) (hml : c.maxLocals = 7) (hown : s.vm.findClass "ZipGuardLaw" = some m.cls) (ht : ∀ w ∈ zt, w.before #[Value.ref b] s = true) (hX : va_X b 6 xs s s.heap) (hbl : b < s.heap.size) (hlk : meth.locks = false) (hl9 : l.stackTraces = false) (hG : zG s) (hA : ∀ q, s.heap.size ≤ q → A q) (hAe : ∀ q, A q → s.heap.size ≤ q) (h0 : Nat) (qt : Nat) (qd : Nat) (qa : Nat) (qu : Nat) (qb : Nat) (qe : Nat) (qo : Nat) (cB : ClassId) (mm : Nat) (m_tape : Nat) (m_methods : Nat) (m_packed : Nat) (m_sizes : Nat) (m_sums : Nat) (m_datas : Nat) (m_locals : Nat) (m_localEnds : Nat) (m_names : Nat) (m_nameSizes : Nat) (m_states : Nat) (m_starts : Nat) (m_counts : Nat) (m_written : Nat) (m_lengths : Nat) (m_small : Nat) (m_codes : Nat) (m_smallCodes : Nat) (cM : ClassId) (qz : Nat) (cZ : ClassId) (v1 : Int32) (hv1 : xs (1 : Int32).toNatClampNeg = v1) (ha : ¬ v1 < 0) (hb1 : v1 ≤ 0) (hK : va_K D zcl [(cB, .byte), (cM, .byte), (cZ, .long)] s) (hP : va_P D zcl [(h0, .inr (0, [.ref qt, .ref qd, .ref qa, .ref qu])), (qt, .inr (1, [.ref qb, .int 0])), (qb, .inl (cB, 20000, .inl (fun _ => 0))), (qd, .inr (2, [.ref qe, .int 0, .int 0, .int (-1), .ref qt])), (qa, .inr (3, [.int 20000, .int 100, .int 0, .ref qo, .int (-1)])), (mm, .inr (8, [.ref m_tape, .int 0, .int 0, .int (-1), .int 20000, .int 100, .int 0, .ref m_methods, .ref m_packed, .ref m_sizes, .ref m_sums, .ref m_datas, .ref m_locals, .ref m_localEnds, .ref m_names, .ref m_nameSizes, .ref m_states, .ref m_starts, .ref m_counts, .ref m_written, .int 0, .int 0, .int 0, .int 0, .ref m_lengths, .ref m_small, .ref m_codes, .ref m_smallCodes, .int 0, .int 0, .int 0])), (m_tape, .inl (cM, 20000, .inl (fun _ => 0))), (qz, .inl (cZ, 1, .inr (.inl (fun _ => 0))))] H) (hD : va_D A [(h0, .inr (0, [.ref qt, .ref qd, .ref qa, .ref qu])), (qt, .inr (1, [.ref qb, .int 0])), (qb, .inl (cB, 20000, .inl (fun _ => 0))), (qd, .inr (2, [.ref qe, .int 0, .int 0, .int (-1), .ref qt])), (qa, .inr (3, [.int 20000, .int 100, .int 0, .ref qo, .int (-1)])), (mm, .inr (8, [.ref m_tape, .int 0, .int 0, .int (-1), .int 20000, .int 100, .int 0, .ref m_methods, .ref m_packed, .ref m_sizes, .ref m_sums, .ref m_datas, .ref m_locals, .ref m_localEnds, .ref m_names, .ref m_nameSizes, .ref m_states, .ref m_starts, .ref m_counts, .ref m_written, .int 0, .int 0, .int 0, .int 0, .ref m_lengths, .ref m_small, .ref m_codes, .ref m_smallCodes, .int 0, .int 0, .int 0])), (m_tape, .inl (cM, 20000, .inl (fun _ => 0))), (qz, .inl (cZ, 1, .inr (.inl (fun _ => 0))))]) (hS : va_S A s.heap H locs) (hl : lv_has ls 7 [(4, .int 0), (3, .ref qz), (2, .ref mm), (1, .ref h0), (0, .ref b)]) : W p l e room_1 s m #[Value.ref b] below meth c H locs 178 131109 (lw_Z below #[Value.ref b] s) (F0 m 208 ls []) := by
  have hbA : ¬ A b := fun h => absurd (hAe b h) (Nat.not_le.mpr hbl)
  refine lv_aload_n hx hb d_L_law_208 rfl (lv_at hl 3 rfl) ?_
  refine lv_aload_n hx hb d_L_law_209 rfl (lv_at hl 4 rfl) ?_
  refine lv_iload hx hb d_L_law_210 (lv_at hl 0 rfl) ?_
  refine lv_iconst (v := 1) hx hb d_L_law_212 (by decide) ?_
  refine lv_iadd hx hb d_L_law_213 ?_
  refine lv_topi (fun z1 e_z1 => ?_)
  have e_z1 : z1 = 1 := e_z1.trans (by decide)
  subst e_z1
  refine va_sld hx hb hX hbl hbA hS (by unfold vp_in; decide) d_L_law_214 ?_
  rw [hv1]
  refine zji (wr := [(qb, .inl (cB, 20000, .inl (fun _ => 0))), (qa, .inr (3, [.int 20000, .int 100, .int 0, .ref qo, .int (-1)])), (mm, .inr (8, [.ref m_tape, .int 0, .int 0, .int (-1), .int 20000, .int 100, .int 0, .ref m_methods, .ref m_packed, .ref m_sizes, .ref m_sums, .ref m_datas, .ref m_locals, .ref m_localEnds, .ref m_names, .ref m_nameSizes, .ref m_states, .ref m_starts, .ref m_counts, .ref m_written, .int 0, .int 0, .int 0, .int 0, .ref m_lengths, .ref m_small, .ref m_codes, .ref m_smallCodes, .int 0, .int 0, .int 0])), (m_tape, .inl (cM, 20000, .inl (fun _ => 0))), (qz, .inl (cZ, 1, .inr (.inl (fun _ => 0))))]) (zrunSW (n := 2) (As := [.ref h0, .int v1]) (rest := []) ⟨hx, hb, hml, hown, ht⟩ (c_L_end l D _ h0 qt qd qa qu qb qe 0 0 0 (-1) v1 ha hb1) zm_553 zm_554 zm_64 zm_555 rfl rfl (by decide +kernel) ⟨Nat.le_of_ble_eq_true rfl, Nat.le_of_ble_eq_true rfl⟩ (zpre zBlind_t hK hP hD [0, 1, 3] [] rfl (by decide) rfl (fun _ _ _ => trivial)) rfl rfl hl.1 rfl (lv_room (Nat.le_of_ble_eq_true rfl)) d_L_law_215 ⟨Nat.le_of_ble_eq_true rfl, Nat.le_of_ble_eq_true rfl⟩) hK hP hD hS hA [0, 1, 3] [2, 4, 5, 6, 7] rfl rfl (by decide) (by decide) (fun r2 u H locs hp3 hP hD hK hS => ?_)
  have hP : va_P D zcl [(qb, .inl (cB, 20000, .inl (fun _ => 0))), (qa, .inr (3, [.int 20000, .int 100, .int 0, .ref qo, .int (-1)])), (mm, .inr (8, [.ref m_tape, .int 0, .int 0, .int (-1), .int 20000, .int 100, .int 0, .ref m_methods, .ref m_packed, .ref m_sizes, .ref m_sums, .ref m_datas, .ref m_locals, .ref m_localEnds, .ref m_names, .ref m_nameSizes, .ref m_states, .ref m_starts, .ref m_counts, .ref m_written, .int 0, .int 0, .int 0, .int 0, .ref m_lengths, .ref m_small, .ref m_codes, .ref m_smallCodes, .int 0, .int 0, .int 0])), (m_tape, .inl (cM, 20000, .inl (fun _ => 0))), (qz, .inl (cZ, 1, .inr (.inl (fun _ => 0))))] H := hP
  have hD : va_D A [(qb, .inl (cB, 20000, .inl (fun _ => 0))), (qa, .inr (3, [.int 20000, .int 100, .int 0, .ref qo, .int (-1)])), (mm, .inr (8, [.ref m_tape, .int 0, .int 0, .int (-1), .int 20000, .int 100, .int 0, .ref m_methods, .ref m_packed, .ref m_sizes, .ref m_sums, .ref m_datas, .ref m_locals, .ref m_localEnds, .ref m_names, .ref m_nameSizes, .ref m_states, .ref m_starts, .ref m_counts, .ref m_written, .int 0, .int 0, .int 0, .int 0, .ref m_lengths, .ref m_small, .ref m_codes, .ref m_smallCodes, .int 0, .int 0, .int 0])), (m_tape, .inl (cM, 20000, .inl (fun _ => 0))), (qz, .inl (cZ, 1, .inr (.inl (fun _ => 0))))] := hD
  have hK : va_K D zcl [(cB, .byte), (cM, .byte), (cZ, .long)] s := hK
  have hp3 := hp3.symm
  subst hp3
  refine lv_istore (lv' := [(5, .int 0), (4, .int 0), (3, .ref qz), (2, .ref mm), (1, .ref h0), (0, .ref b)]) hx hb d_L_law_218 hl (by decide) rfl (fun ls hl => ?_)
  refine lv_aload_n hx hb d_L_law_220 rfl (lv_at hl 3 rfl) ?_
  refine lv_aload_n hx hb d_L_law_221 rfl (lv_at hl 5 rfl) ?_
  refine lv_iload hx hb d_L_law_222 (lv_at hl 1 rfl) ?_
  refine lv_iconst (v := 1) hx hb d_L_law_224 (by decide) ?_
  refine lv_iadd hx hb d_L_law_225 ?_
  refine lv_topi (fun z4 e_z4 => ?_)
  have e_z4 : z4 = 1 := e_z4.trans (by decide)
  subst e_z4
  refine va_sld hx hb hX hbl hbA hS (by unfold vp_in; decide) d_L_law_226 ?_
  rw [hv1]
  refine zjv (wr := [(qb, .inl (cB, 20000, .inl (fun _ => 0))), (qa, .inr (3, [.int 20000, .int 100, .int 0, .ref qo, .int (-1)])), (m_tape, .inl (cM, 20000, .inl (fun _ => 0))), (qz, .inl (cZ, 1, .inr (.inl (fun _ => 0))))]) (va_runV (As := [.int v1]) (rest := []) ⟨hx, hb, hml, hown, ht⟩ (c_M_end0 l D _ mm m_tape m_methods m_packed m_sizes m_sums m_datas m_locals m_localEnds m_names m_nameSizes m_states m_starts m_counts m_written m_lengths m_small m_codes m_smallCodes 0 0 (-1) 20000 100 0 0 0 0 0 0 0 0 v1 ha hb1) (cwV 1 ht (zt_goodV zm_861 zm_862 zm_863 zm_79 zm_864) rfl rfl rfl (by decide +kernel) ⟨Nat.le_of_ble_eq_true rfl, Nat.le_of_ble_eq_true rfl⟩) (zpreV zBlind_t hK hP hD [2] [] rfl (by decide) rfl (fun _ _ _ => trivial) (va_recv (q := ("ZipGuardModel", F_M, 31)) hK hP rfl (q0 := 2) (ci := 8) rfl)) rfl rfl hl.1 rfl (lv_room (Nat.le_of_ble_eq_true rfl)) d_L_law_227 ⟨Nat.le_of_ble_eq_true rfl, Nat.le_of_ble_eq_true rfl⟩) hK hP hD hS hA [2] [0, 1, 3, 4] rfl rfl (by decide) (by decide) (fun u H locs hp6 hP hD hK hS => ?_)
  have hP : va_P D zcl [(qb, .inl (cB, 20000, .inl (fun _ => 0))), (qa, .inr (3, [.int 20000, .int 100, .int 0, .ref qo, .int (-1)])), (m_tape, .inl (cM, 20000, .inl (fun _ => 0))), (qz, .inl (cZ, 1, .inr (.inl (fun _ => 0)))), (mm, .inr (8, [.ref m_tape, .int v1, .int 0, .int (-1), .int 20000, .int 100, .int 0, .ref m_methods, .ref m_packed, .ref m_sizes, .ref m_sums, .ref m_datas, .ref m_locals, .ref m_localEnds, .ref m_names, .ref m_nameSizes, .ref m_states, .ref m_starts, .ref m_counts, .ref m_written, .int 0, .int 0, .int 0, .int 0, .ref m_lengths, .ref m_small, .ref m_codes, .ref m_smallCodes, .int 0, .int 0, .int 0]))] H := hP
  have hD : va_D A [(qb, .inl (cB, 20000, .inl (fun _ => 0))), (qa, .inr (3, [.int 20000, .int 100, .int 0, .ref qo, .int (-1)])), (m_tape, .inl (cM, 20000, .inl (fun _ => 0))), (qz, .inl (cZ, 1, .inr (.inl (fun _ => 0)))), (mm, .inr (8, [.ref m_tape, .int v1, .int 0, .int (-1), .int 20000, .int 100, .int 0, .ref m_methods, .ref m_packed, .ref m_sizes, .ref m_sums, .ref m_datas, .ref m_locals, .ref m_localEnds, .ref m_names, .ref m_nameSizes, .ref m_states, .ref m_starts, .ref m_counts, .ref m_written, .int 0, .int 0, .int 0, .int 0, .ref m_lengths, .ref m_small, .ref m_codes, .ref m_smallCodes, .int 0, .int 0, .int 0]))] := hD
  have hK : va_K D zcl [(cB, .byte), (cM, .byte), (cZ, .long)] s := hK
  refine lv_aload_n hx hb d_L_law_230 rfl (lv_at hl 3 rfl) ?_
  refine zji (wr := [(qb, .inl (cB, 20000, .inl (fun _ => 0))), (qa, .inr (3, [.int 20000, .int 100, .int 0, .ref qo, .int (-1)])), (m_tape, .inl (cM, 20000, .inl (fun _ => 0))), (qz, .inl (cZ, 1, .inr (.inl (fun _ => 0))))]) (va_runV (As := []) (rest := []) ⟨hx, hb, hml, hown, ht⟩ (c_M_thrown l D _ mm m_tape m_methods m_packed m_sizes m_sums m_datas m_locals m_localEnds m_names m_nameSizes m_states m_starts m_counts m_written m_lengths m_small m_codes m_smallCodes v1 0 (-1) 20000 100 0 0 0 0 0 0 0 0 ) (cwV 0 ht (zt_goodV zm_847 zm_848 zm_849 zm_79 zm_850) rfl rfl rfl (by decide +kernel) ⟨Nat.le_of_ble_eq_true rfl, Nat.le_of_ble_eq_true rfl⟩) (zpreV zBlind_t hK hP hD [4] [] rfl (by decide) rfl (fun _ _ _ => trivial) (va_recv (q := ("ZipGuardModel", F_M, 31)) hK hP rfl (q0 := 4) (ci := 8) rfl)) rfl rfl hl.1 rfl (lv_room (Nat.le_of_ble_eq_true rfl)) d_L_law_231 ⟨Nat.le_of_ble_eq_true rfl, Nat.le_of_ble_eq_true rfl⟩) hK hP hD hS hA [4] [0, 1, 2, 3] rfl rfl (by decide) (by decide) (fun r7 u H locs hp8 hP hD hK hS => ?_)
  have hP : va_P D zcl [(qb, .inl (cB, 20000, .inl (fun _ => 0))), (qa, .inr (3, [.int 20000, .int 100, .int 0, .ref qo, .int (-1)])), (m_tape, .inl (cM, 20000, .inl (fun _ => 0))), (qz, .inl (cZ, 1, .inr (.inl (fun _ => 0)))), (mm, .inr (8, [.ref m_tape, .int v1, .int 0, .int (-1), .int 20000, .int 100, .int 0, .ref m_methods, .ref m_packed, .ref m_sizes, .ref m_sums, .ref m_datas, .ref m_locals, .ref m_localEnds, .ref m_names, .ref m_nameSizes, .ref m_states, .ref m_starts, .ref m_counts, .ref m_written, .int 0, .int 0, .int 0, .int 0, .ref m_lengths, .ref m_small, .ref m_codes, .ref m_smallCodes, .int 0, .int 0, .int 0]))] H := hP
  have hD : va_D A [(qb, .inl (cB, 20000, .inl (fun _ => 0))), (qa, .inr (3, [.int 20000, .int 100, .int 0, .ref qo, .int (-1)])), (m_tape, .inl (cM, 20000, .inl (fun _ => 0))), (qz, .inl (cZ, 1, .inr (.inl (fun _ => 0)))), (mm, .inr (8, [.ref m_tape, .int v1, .int 0, .int (-1), .int 20000, .int 100, .int 0, .ref m_methods, .ref m_packed, .ref m_sizes, .ref m_sums, .ref m_datas, .ref m_locals, .ref m_localEnds, .ref m_names, .ref m_nameSizes, .ref m_states, .ref m_starts, .ref m_counts, .ref m_written, .int 0, .int 0, .int 0, .int 0, .ref m_lengths, .ref m_small, .ref m_codes, .ref m_smallCodes, .int 0, .int 0, .int 0]))] := hD
  have hK : va_K D zcl [(cB, .byte), (cM, .byte), (cZ, .long)] s := hK
  have hp8 := hp8.symm
  subst hp8
  refine lv_iload hx hb d_L_law_234 (lv_at hl 0 rfl) ?_
  refine lv_icmp_eq (tgt := 241) hx hb d_L_law_236 (by decide) (fun _ => ?_) (fun h => absurd (rfl) h)
  refine lv_goto (tgt := 746) hx hb d_L_law_241 (by decide) ?_
  exact zl_tail hx hb hr hml hown ht hX hbl hlk hl9 hG hA hAe hS (lv_sub hl [1, 5] rfl) (Nat.le_of_ble_eq_true rfl) (Nat.le_of_ble_eq_true rfl)
set_option maxHeartbeats 4000000 in
set_option maxRecDepth 100000 in
theorem zl_1b {p : Program} {l : Launch} {e : Env} {s : State} {m : MethodId} {below : List Frame} {meth : Method} {c : Code} {b : Nat} {xs : Nat → Int32} {A : Nat → Prop} {D : va_G} {H : Heap} {locs : List Loc} {ls : Array Slot} (hx : p.tables.exec = Jvm.exec) (hb : c.code = code) (hr : meth.sig.returnType = ret) (hml : c.maxLocals = 7) (hown : s.vm.findClass "ZipGuardLaw" = some m.cls) (ht : ∀ w ∈ zt, w.before #[Value.ref b] s = true) (hX : va_X b 6 xs s s.heap) (hbl : b < s.heap.size) (hlk : meth.locks = false) (hl9 : l.stackTraces = false) (hG : zG s) (hA : ∀ q, s.heap.size ≤ q → A q) (hAe : ∀ q, A q → s.heap.size ≤ q) (h0 : Nat) (qt : Nat) (qd : Nat) (qa : Nat) (qu : Nat) (qb : Nat) (qe : Nat) (qo : Nat) (cB : ClassId) (mm : Nat) (m_tape : Nat) (m_methods : Nat) (m_packed : Nat) (m_sizes : Nat) (m_sums : Nat) (m_datas : Nat) (m_locals : Nat) (m_localEnds : Nat) (m_names : Nat) (m_nameSizes : Nat) (m_states : Nat) (m_starts : Nat) (m_counts : Nat) (m_written : Nat) (m_lengths : Nat) (m_small : Nat) (m_codes : Nat) (m_smallCodes : Nat) (cM : ClassId) (qz : Nat) (cZ : ClassId) (v1 : Int32) (hv1 : xs (1 : Int32).toNatClampNeg = v1) (hbad : v1 < 0 ∨ ¬ v1 ≤ 0) (hK : va_K D zcl [(cB, .byte), (cM, .byte), (cZ, .long)] s) (hP : va_P D zcl [(h0, .inr (0, [.ref qt, .ref qd, .ref qa, .ref qu])), (qt, .inr (1, [.ref qb, .int 0])), (qb, .inl (cB, 20000, .inl (fun _ => 0))), (qd, .inr (2, [.ref qe, .int 0, .int 0, .int (-1), .ref qt])), (qa, .inr (3, [.int 20000, .int 100, .int 0, .ref qo, .int (-1)])), (mm, .inr (8, [.ref m_tape, .int 0, .int 0, .int (-1), .int 20000, .int 100, .int 0, .ref m_methods, .ref m_packed, .ref m_sizes, .ref m_sums, .ref m_datas, .ref m_locals, .ref m_localEnds, .ref m_names, .ref m_nameSizes, .ref m_states, .ref m_starts, .ref m_counts, .ref m_written, .int 0, .int 0, .int 0, .int 0, .ref m_lengths, .ref m_small, .ref m_codes, .ref m_smallCodes, .int 0, .int 0, .int 0])), (m_tape, .inl (cM, 20000, .inl (fun _ => 0))), (qz, .inl (cZ, 1, .inr (.inl (fun _ => 0))))] H) (hD : va_D A [(h0, .inr (0, [.ref qt, .ref qd, .ref qa, .ref qu])), (qt, .inr (1, [.ref qb, .int 0])), (qb, .inl (cB, 20000, .inl (fun _ => 0))), (qd, .inr (2, [.ref qe, .int 0, .int 0, .int (-1), .ref qt])), (qa, .inr (3, [.int 20000, .int 100, .int 0, .ref qo, .int (-1)])), (mm, .inr (8, [.ref m_tape, .int 0, .int 0, .int (-1), .int 20000, .int 100, .int 0, .ref m_methods, .ref m_packed, .ref m_sizes, .ref m_sums, .ref m_datas, .ref m_locals, .ref m_localEnds, .ref m_names, .ref m_nameSizes, .ref m_states, .ref m_starts, .ref m_counts, .ref m_written, .int 0, .int 0, .int 0, .int 0, .ref m_lengths, .ref m_small, .ref m_codes, .ref m_smallCodes, .int 0, .int 0, .int 0])), (m_tape, .inl (cM, 20000, .inl (fun _ => 0))), (qz, .inl (cZ, 1, .inr (.inl (fun _ => 0))))]) (hS : va_S A s.heap H locs) (hl : lv_has ls 7 [(4, .int 0), (3, .ref qz), (2, .ref mm), (1, .ref h0), (0, .ref b)]) : W p l e room_1 s m #[Value.ref b] below meth c H locs 178 131109 (lw_Z below #[Value.ref b] s) (F0 m 208 ls []) := by
  have hbA : ¬ A b := fun h => absurd (hAe b h) (Nat.not_le.mpr hbl)
  refine lv_aload_n hx hb d_L_law_208 rfl (lv_at hl 3 rfl) ?_
  refine lv_aload_n hx hb d_L_law_209 rfl (lv_at hl 4 rfl) ?_
  refine lv_iload hx hb d_L_law_210 (lv_at hl 0 rfl) ?_
  refine lv_iconst (v := 1) hx hb d_L_law_212 (by decide) ?_
  refine lv_iadd hx hb d_L_law_213 ?_
  refine lv_topi (fun z1 e_z1 => ?_)
  have e_z1 : z1 = 1 := e_z1.trans (by decide)
  subst e_z1
  refine va_sld hx hb hX hbl hbA hS (by unfold vp_in; decide) d_L_law_214 ?_
  rw [hv1]
  refine zji (wr := [(qb, .inl (cB, 20000, .inl (fun _ => 0))), (qa, .inr (3, [.int 20000, .int 100, .int 0, .ref qo, .int (-1)])), (mm, .inr (8, [.ref m_tape, .int 0, .int 0, .int (-1), .int 20000, .int 100, .int 0, .ref m_methods, .ref m_packed, .ref m_sizes, .ref m_sums, .ref m_datas, .ref m_locals, .ref m_localEnds, .ref m_names, .ref m_nameSizes, .ref m_states, .ref m_starts, .ref m_counts, .ref m_written, .int 0, .int 0, .int 0, .int 0, .ref m_lengths, .ref m_small, .ref m_codes, .ref m_smallCodes, .int 0, .int 0, .int 0])), (m_tape, .inl (cM, 20000, .inl (fun _ => 0))), (qz, .inl (cZ, 1, .inr (.inl (fun _ => 0))))]) (zrunSW (n := 2) (As := [.ref h0, .int v1]) (rest := []) ⟨hx, hb, hml, hown, ht⟩ (c_L_endX l D _ h0 qt qd qa qu qb qe 0 0 0 (-1) v1 hl9 hbad) zm_553 zm_554 zm_64 zm_555 rfl rfl (by decide +kernel) ⟨Nat.le_of_ble_eq_true rfl, Nat.le_of_ble_eq_true rfl⟩ (zpre zBlind_G hK hP hD [0, 1, 3] [] rfl (by decide) rfl (fun U hU hW => zG_keep hW.alike (fun q hq => by rw [hU]; exact hS.2.1 q hq (fun h => absurd (hAe q h) (Nat.not_le.mpr hq))) hG)) rfl rfl hl.1 rfl (lv_room (Nat.le_of_ble_eq_true rfl)) d_L_law_215 ⟨Nat.le_of_ble_eq_true rfl, Nat.le_of_ble_eq_true rfl⟩) hK hP hD hS hA [0, 1, 3] [2, 4, 5, 6, 7] rfl rfl (by decide) (by decide) (fun r2 u H locs hp3 hP hD hK hS => ?_)
  have hP : va_P D zcl [(qb, .inl (cB, 20000, .inl (fun _ => 0))), (qa, .inr (3, [.int 20000, .int 100, .int 0, .ref qo, .int (-1)])), (mm, .inr (8, [.ref m_tape, .int 0, .int 0, .int (-1), .int 20000, .int 100, .int 0, .ref m_methods, .ref m_packed, .ref m_sizes, .ref m_sums, .ref m_datas, .ref m_locals, .ref m_localEnds, .ref m_names, .ref m_nameSizes, .ref m_states, .ref m_starts, .ref m_counts, .ref m_written, .int 0, .int 0, .int 0, .int 0, .ref m_lengths, .ref m_small, .ref m_codes, .ref m_smallCodes, .int 0, .int 0, .int 0])), (m_tape, .inl (cM, 20000, .inl (fun _ => 0))), (qz, .inl (cZ, 1, .inr (.inl (fun _ => 0))))] H := hP
  have hD : va_D A [(qb, .inl (cB, 20000, .inl (fun _ => 0))), (qa, .inr (3, [.int 20000, .int 100, .int 0, .ref qo, .int (-1)])), (mm, .inr (8, [.ref m_tape, .int 0, .int 0, .int (-1), .int 20000, .int 100, .int 0, .ref m_methods, .ref m_packed, .ref m_sizes, .ref m_sums, .ref m_datas, .ref m_locals, .ref m_localEnds, .ref m_names, .ref m_nameSizes, .ref m_states, .ref m_starts, .ref m_counts, .ref m_written, .int 0, .int 0, .int 0, .int 0, .ref m_lengths, .ref m_small, .ref m_codes, .ref m_smallCodes, .int 0, .int 0, .int 0])), (m_tape, .inl (cM, 20000, .inl (fun _ => 0))), (qz, .inl (cZ, 1, .inr (.inl (fun _ => 0))))] := hD
  have hK : va_K D zcl [(cB, .byte), (cM, .byte), (cZ, .long)] s := hK
  have hp3 := hp3.symm
  subst hp3
  refine lv_istore (lv' := [(5, .int 1), (4, .int 0), (3, .ref qz), (2, .ref mm), (1, .ref h0), (0, .ref b)]) hx hb d_L_law_218 hl (by decide) rfl (fun ls hl => ?_)
  refine lv_aload_n hx hb d_L_law_220 rfl (lv_at hl 3 rfl) ?_
  refine lv_aload_n hx hb d_L_law_221 rfl (lv_at hl 5 rfl) ?_
  refine lv_iload hx hb d_L_law_222 (lv_at hl 1 rfl) ?_
  refine lv_iconst (v := 1) hx hb d_L_law_224 (by decide) ?_
  refine lv_iadd hx hb d_L_law_225 ?_
  refine lv_topi (fun z4 e_z4 => ?_)
  have e_z4 : z4 = 1 := e_z4.trans (by decide)
  subst e_z4
  refine va_sld hx hb hX hbl hbA hS (by unfold vp_in; decide) d_L_law_226 ?_
  rw [hv1]
  refine zjv (wr := [(qb, .inl (cB, 20000, .inl (fun _ => 0))), (qa, .inr (3, [.int 20000, .int 100, .int 0, .ref qo, .int (-1)])), (m_tape, .inl (cM, 20000, .inl (fun _ => 0))), (qz, .inl (cZ, 1, .inr (.inl (fun _ => 0))))]) (va_runV (As := [.int v1]) (rest := []) ⟨hx, hb, hml, hown, ht⟩ (c_M_end1 l D _ mm m_tape m_methods m_packed m_sizes m_sums m_datas m_locals m_localEnds m_names m_nameSizes m_states m_starts m_counts m_written m_lengths m_small m_codes m_smallCodes 0 0 (-1) 20000 100 0 0 0 0 0 0 0 0 v1 hbad) (cwV 1 ht (zt_goodV zm_861 zm_862 zm_863 zm_79 zm_864) rfl rfl rfl (by decide +kernel) ⟨Nat.le_of_ble_eq_true rfl, Nat.le_of_ble_eq_true rfl⟩) (zpreV zBlind_t hK hP hD [2] [] rfl (by decide) rfl (fun _ _ _ => trivial) (va_recv (q := ("ZipGuardModel", F_M, 31)) hK hP rfl (q0 := 2) (ci := 8) rfl)) rfl rfl hl.1 rfl (lv_room (Nat.le_of_ble_eq_true rfl)) d_L_law_227 ⟨Nat.le_of_ble_eq_true rfl, Nat.le_of_ble_eq_true rfl⟩) hK hP hD hS hA [2] [0, 1, 3, 4] rfl rfl (by decide) (by decide) (fun u H locs hp6 hP hD hK hS => ?_)
  have hP : va_P D zcl [(qb, .inl (cB, 20000, .inl (fun _ => 0))), (qa, .inr (3, [.int 20000, .int 100, .int 0, .ref qo, .int (-1)])), (m_tape, .inl (cM, 20000, .inl (fun _ => 0))), (qz, .inl (cZ, 1, .inr (.inl (fun _ => 0)))), (mm, .inr (8, [.ref m_tape, .int 0, .int 0, .int (-1), .int 20000, .int 100, .int 0, .ref m_methods, .ref m_packed, .ref m_sizes, .ref m_sums, .ref m_datas, .ref m_locals, .ref m_localEnds, .ref m_names, .ref m_nameSizes, .ref m_states, .ref m_starts, .ref m_counts, .ref m_written, .int 0, .int 0, .int 0, .int 0, .ref m_lengths, .ref m_small, .ref m_codes, .ref m_smallCodes, .int 0, .int 0, .int 1]))] H := hP
  have hD : va_D A [(qb, .inl (cB, 20000, .inl (fun _ => 0))), (qa, .inr (3, [.int 20000, .int 100, .int 0, .ref qo, .int (-1)])), (m_tape, .inl (cM, 20000, .inl (fun _ => 0))), (qz, .inl (cZ, 1, .inr (.inl (fun _ => 0)))), (mm, .inr (8, [.ref m_tape, .int 0, .int 0, .int (-1), .int 20000, .int 100, .int 0, .ref m_methods, .ref m_packed, .ref m_sizes, .ref m_sums, .ref m_datas, .ref m_locals, .ref m_localEnds, .ref m_names, .ref m_nameSizes, .ref m_states, .ref m_starts, .ref m_counts, .ref m_written, .int 0, .int 0, .int 0, .int 0, .ref m_lengths, .ref m_small, .ref m_codes, .ref m_smallCodes, .int 0, .int 0, .int 1]))] := hD
  have hK : va_K D zcl [(cB, .byte), (cM, .byte), (cZ, .long)] s := hK
  refine lv_aload_n hx hb d_L_law_230 rfl (lv_at hl 3 rfl) ?_
  refine zji (wr := [(qb, .inl (cB, 20000, .inl (fun _ => 0))), (qa, .inr (3, [.int 20000, .int 100, .int 0, .ref qo, .int (-1)])), (m_tape, .inl (cM, 20000, .inl (fun _ => 0))), (qz, .inl (cZ, 1, .inr (.inl (fun _ => 0))))]) (va_runV (As := []) (rest := []) ⟨hx, hb, hml, hown, ht⟩ (c_M_thrown l D _ mm m_tape m_methods m_packed m_sizes m_sums m_datas m_locals m_localEnds m_names m_nameSizes m_states m_starts m_counts m_written m_lengths m_small m_codes m_smallCodes 0 0 (-1) 20000 100 0 0 0 0 0 0 0 1 ) (cwV 0 ht (zt_goodV zm_847 zm_848 zm_849 zm_79 zm_850) rfl rfl rfl (by decide +kernel) ⟨Nat.le_of_ble_eq_true rfl, Nat.le_of_ble_eq_true rfl⟩) (zpreV zBlind_t hK hP hD [4] [] rfl (by decide) rfl (fun _ _ _ => trivial) (va_recv (q := ("ZipGuardModel", F_M, 31)) hK hP rfl (q0 := 4) (ci := 8) rfl)) rfl rfl hl.1 rfl (lv_room (Nat.le_of_ble_eq_true rfl)) d_L_law_231 ⟨Nat.le_of_ble_eq_true rfl, Nat.le_of_ble_eq_true rfl⟩) hK hP hD hS hA [4] [0, 1, 2, 3] rfl rfl (by decide) (by decide) (fun r7 u H locs hp8 hP hD hK hS => ?_)
  have hP : va_P D zcl [(qb, .inl (cB, 20000, .inl (fun _ => 0))), (qa, .inr (3, [.int 20000, .int 100, .int 0, .ref qo, .int (-1)])), (m_tape, .inl (cM, 20000, .inl (fun _ => 0))), (qz, .inl (cZ, 1, .inr (.inl (fun _ => 0)))), (mm, .inr (8, [.ref m_tape, .int 0, .int 0, .int (-1), .int 20000, .int 100, .int 0, .ref m_methods, .ref m_packed, .ref m_sizes, .ref m_sums, .ref m_datas, .ref m_locals, .ref m_localEnds, .ref m_names, .ref m_nameSizes, .ref m_states, .ref m_starts, .ref m_counts, .ref m_written, .int 0, .int 0, .int 0, .int 0, .ref m_lengths, .ref m_small, .ref m_codes, .ref m_smallCodes, .int 0, .int 0, .int 1]))] H := hP
  have hD : va_D A [(qb, .inl (cB, 20000, .inl (fun _ => 0))), (qa, .inr (3, [.int 20000, .int 100, .int 0, .ref qo, .int (-1)])), (m_tape, .inl (cM, 20000, .inl (fun _ => 0))), (qz, .inl (cZ, 1, .inr (.inl (fun _ => 0)))), (mm, .inr (8, [.ref m_tape, .int 0, .int 0, .int (-1), .int 20000, .int 100, .int 0, .ref m_methods, .ref m_packed, .ref m_sizes, .ref m_sums, .ref m_datas, .ref m_locals, .ref m_localEnds, .ref m_names, .ref m_nameSizes, .ref m_states, .ref m_starts, .ref m_counts, .ref m_written, .int 0, .int 0, .int 0, .int 0, .ref m_lengths, .ref m_small, .ref m_codes, .ref m_smallCodes, .int 0, .int 0, .int 1]))] := hD
  have hK : va_K D zcl [(cB, .byte), (cM, .byte), (cZ, .long)] s := hK
  have hp8 := hp8.symm
  subst hp8
  refine lv_iload hx hb d_L_law_234 (lv_at hl 0 rfl) ?_
  refine lv_icmp_eq (tgt := 241) hx hb d_L_law_236 (by decide) (fun _ => ?_) (fun h => absurd (rfl) h)
  refine lv_goto (tgt := 746) hx hb d_L_law_241 (by decide) ?_
  exact zl_tail hx hb hr hml hown ht hX hbl hlk hl9 hG hA hAe hS (lv_sub hl [1, 5] rfl) (Nat.le_of_ble_eq_true rfl) (Nat.le_of_ble_eq_true rfl)
set_option maxHeartbeats 4000000 in
set_option maxRecDepth 100000 in
theorem zl_2 {p : Program} {l : Launch} {e : Env} {s : State} {m : MethodId} {below : List Frame} {meth : Method} {c : Code} {b : Nat} {xs : Nat → Int32} {A : Nat → Prop} {D : va_G} {H : Heap} {locs : List Loc} {ls : Array Slot} (hx : p.tables.exec = Jvm.exec) (hb : c.code = code) (hr : meth.sig.returnType = ret) (hml : c.maxLocals = 7) (hown : s.vm.findClass "ZipGuardLaw" = some m.cls) (ht : ∀ w ∈ zt, w.before #[Value.ref b] s = true) (hX : va_X b 6 xs s s.heap) (hbl : b < s.heap.size) (hlk : meth.locks = false) (hl9 : l.stackTraces = false) (hG : zG s) (hA : ∀ q, s.heap.size ≤ q → A q) (hAe : ∀ q, A q → s.heap.size ≤ q) (h0 : Nat) (qt : Nat) (qd : Nat) (qa : Nat) (qu : Nat) (qb : Nat) (qe : Nat) (qo : Nat) (cB : ClassId) (mm : Nat) (m_tape : Nat) (m_methods : Nat) (m_packed : Nat) (m_sizes : Nat) (m_sums : Nat) (m_datas : Nat) (m_locals : Nat) (m_localEnds : Nat) (m_names : Nat) (m_nameSizes : Nat) (m_states : Nat) (m_starts : Nat) (m_counts : Nat) (m_written : Nat) (m_lengths : Nat) (m_small : Nat) (m_codes : Nat) (m_smallCodes : Nat) (cM : ClassId) (qz : Nat) (cZ : ClassId) (v1 : Int32) (v2 : Int32) (hv1 : xs (1 : Int32).toNatClampNeg = v1) (hv2 : xs (2 : Int32).toNatClampNeg = v2) (hbad : v1 < 0 ∨ ¬ v1 < 0) (hK : va_K D zcl [(cB, .byte), (cM, .byte), (cZ, .long)] s) (hP : va_P D zcl [(h0, .inr (0, [.ref qt, .ref qd, .ref qa, .ref qu])), (qt, .inr (1, [.ref qb, .int 0])), (qb, .inl (cB, 20000, .inl (fun _ => 0))), (qd, .inr (2, [.ref qe, .int 0, .int 0, .int (-1), .ref qt])), (qa, .inr (3, [.int 20000, .int 100, .int 0, .ref qo, .int (-1)])), (mm, .inr (8, [.ref m_tape, .int 0, .int 0, .int (-1), .int 20000, .int 100, .int 0, .ref m_methods, .ref m_packed, .ref m_sizes, .ref m_sums, .ref m_datas, .ref m_locals, .ref m_localEnds, .ref m_names, .ref m_nameSizes, .ref m_states, .ref m_starts, .ref m_counts, .ref m_written, .int 0, .int 0, .int 0, .int 0, .ref m_lengths, .ref m_small, .ref m_codes, .ref m_smallCodes, .int 0, .int 0, .int 0])), (m_tape, .inl (cM, 20000, .inl (fun _ => 0))), (qz, .inl (cZ, 1, .inr (.inl (fun _ => 0))))] H) (hD : va_D A [(h0, .inr (0, [.ref qt, .ref qd, .ref qa, .ref qu])), (qt, .inr (1, [.ref qb, .int 0])), (qb, .inl (cB, 20000, .inl (fun _ => 0))), (qd, .inr (2, [.ref qe, .int 0, .int 0, .int (-1), .ref qt])), (qa, .inr (3, [.int 20000, .int 100, .int 0, .ref qo, .int (-1)])), (mm, .inr (8, [.ref m_tape, .int 0, .int 0, .int (-1), .int 20000, .int 100, .int 0, .ref m_methods, .ref m_packed, .ref m_sizes, .ref m_sums, .ref m_datas, .ref m_locals, .ref m_localEnds, .ref m_names, .ref m_nameSizes, .ref m_states, .ref m_starts, .ref m_counts, .ref m_written, .int 0, .int 0, .int 0, .int 0, .ref m_lengths, .ref m_small, .ref m_codes, .ref m_smallCodes, .int 0, .int 0, .int 0])), (m_tape, .inl (cM, 20000, .inl (fun _ => 0))), (qz, .inl (cZ, 1, .inr (.inl (fun _ => 0))))]) (hS : va_S A s.heap H locs) (hl : lv_has ls 7 [(4, .int 0), (3, .ref qz), (2, .ref mm), (1, .ref h0), (0, .ref b)]) : W p l e room_1 s m #[Value.ref b] below meth c H locs 178 131109 (lw_Z below #[Value.ref b] s) (F0 m 244 ls []) := by
  have hbA : ¬ A b := fun h => absurd (hAe b h) (Nat.not_le.mpr hbl)
  refine lv_aload_n hx hb d_L_law_244 rfl (lv_at hl 3 rfl) ?_
  refine lv_aload_n hx hb d_L_law_245 rfl (lv_at hl 4 rfl) ?_
  refine lv_iload hx hb d_L_law_246 (lv_at hl 0 rfl) ?_
  refine lv_iconst (v := 1) hx hb d_L_law_248 (by decide) ?_
  refine lv_iadd hx hb d_L_law_249 ?_
  refine lv_topi (fun z1 e_z1 => ?_)
  have e_z1 : z1 = 1 := e_z1.trans (by decide)
  subst e_z1
  refine va_sld hx hb hX hbl hbA hS (by unfold vp_in; decide) d_L_law_250 ?_
  rw [hv1]
  refine lv_aload_n hx hb d_L_law_251 rfl (lv_at hl 4 rfl) ?_
  refine lv_iload hx hb d_L_law_252 (lv_at hl 0 rfl) ?_
  refine lv_iconst (v := 2) hx hb d_L_law_254 (by decide) ?_
  refine lv_iadd hx hb d_L_law_255 ?_
  refine lv_topi (fun z2 e_z2 => ?_)
  have e_z2 : z2 = 2 := e_z2.trans (by decide)
  subst e_z2
  refine va_sld hx hb hX hbl hbA hS (by unfold vp_in; decide) d_L_law_256 ?_
  rw [hv2]
  refine lv_aload_n hx hb d_L_law_257 rfl (lv_at hl 1 rfl) ?_
  refine zji (wr := [(qb, .inl (cB, 20000, .inl (fun _ => 0))), (qd, .inr (2, [.ref qe, .int 0, .int 0, .int (-1), .ref qt])), (qa, .inr (3, [.int 20000, .int 100, .int 0, .ref qo, .int (-1)])), (mm, .inr (8, [.ref m_tape, .int 0, .int 0, .int (-1), .int 20000, .int 100, .int 0, .ref m_methods, .ref m_packed, .ref m_sizes, .ref m_sums, .ref m_datas, .ref m_locals, .ref m_localEnds, .ref m_names, .ref m_nameSizes, .ref m_states, .ref m_starts, .ref m_counts, .ref m_written, .int 0, .int 0, .int 0, .int 0, .ref m_lengths, .ref m_small, .ref m_codes, .ref m_smallCodes, .int 0, .int 0, .int 0])), (m_tape, .inl (cM, 20000, .inl (fun _ => 0)))]) (zrunSW (n := 4) (As := [.ref h0, .int v1, .int v2, .ref qz]) (rest := []) ⟨hx, hb, hml, hown, ht⟩ (c_L_altX l D _ h0 qt qd qa qu qb 0 v1 v2 qz cZ (fun _ => 0) hl9 hbad) zm_570 zm_571 zm_64 zm_572 rfl rfl (by decide +kernel) ⟨Nat.le_of_ble_eq_true rfl, Nat.le_of_ble_eq_true rfl⟩ (zpre zBlind_G hK hP hD [0, 1, 7] [2] rfl (by decide) rfl (fun U hU hW => zG_keep hW.alike (fun q hq => by rw [hU]; exact hS.2.1 q hq (fun h => absurd (hAe q h) (Nat.not_le.mpr hq))) hG)) rfl rfl hl.1 rfl (lv_room (Nat.le_of_ble_eq_true rfl)) d_L_law_258 ⟨Nat.le_of_ble_eq_true rfl, Nat.le_of_ble_eq_true rfl⟩) hK hP hD hS hA [0, 1, 7] [2, 3, 4, 5, 6] rfl rfl (by decide) (by decide) (fun r3 u H locs hp4 hP hD hK hS => ?_)
  have hP : va_P D zcl [(qb, .inl (cB, 20000, .inl (fun _ => 0))), (qd, .inr (2, [.ref qe, .int 0, .int 0, .int (-1), .ref qt])), (qa, .inr (3, [.int 20000, .int 100, .int 0, .ref qo, .int (-1)])), (mm, .inr (8, [.ref m_tape, .int 0, .int 0, .int (-1), .int 20000, .int 100, .int 0, .ref m_methods, .ref m_packed, .ref m_sizes, .ref m_sums, .ref m_datas, .ref m_locals, .ref m_localEnds, .ref m_names, .ref m_nameSizes, .ref m_states, .ref m_starts, .ref m_counts, .ref m_written, .int 0, .int 0, .int 0, .int 0, .ref m_lengths, .ref m_small, .ref m_codes, .ref m_smallCodes, .int 0, .int 0, .int 0])), (m_tape, .inl (cM, 20000, .inl (fun _ => 0))), (qz, .inl (cZ, 1, .inr (.inl (fun _ => 0))))] H := hP
  have hD : va_D A [(qb, .inl (cB, 20000, .inl (fun _ => 0))), (qd, .inr (2, [.ref qe, .int 0, .int 0, .int (-1), .ref qt])), (qa, .inr (3, [.int 20000, .int 100, .int 0, .ref qo, .int (-1)])), (mm, .inr (8, [.ref m_tape, .int 0, .int 0, .int (-1), .int 20000, .int 100, .int 0, .ref m_methods, .ref m_packed, .ref m_sizes, .ref m_sums, .ref m_datas, .ref m_locals, .ref m_localEnds, .ref m_names, .ref m_nameSizes, .ref m_states, .ref m_starts, .ref m_counts, .ref m_written, .int 0, .int 0, .int 0, .int 0, .ref m_lengths, .ref m_small, .ref m_codes, .ref m_smallCodes, .int 0, .int 0, .int 0])), (m_tape, .inl (cM, 20000, .inl (fun _ => 0))), (qz, .inl (cZ, 1, .inr (.inl (fun _ => 0))))] := hD
  have hK : va_K D zcl [(cB, .byte), (cM, .byte), (cZ, .long), (cZ, .long)] s := hK
  have hp4 := hp4.symm
  subst hp4
  refine lv_istore (lv' := [(5, .int 1), (4, .int 0), (3, .ref qz), (2, .ref mm), (1, .ref h0), (0, .ref b)]) hx hb d_L_law_261 hl (by decide) rfl (fun ls hl => ?_)
  refine lv_aload_n hx hb d_L_law_263 rfl (lv_at hl 3 rfl) ?_
  refine lv_aload_n hx hb d_L_law_264 rfl (lv_at hl 5 rfl) ?_
  refine lv_iload hx hb d_L_law_265 (lv_at hl 1 rfl) ?_
  refine lv_iconst (v := 1) hx hb d_L_law_267 (by decide) ?_
  refine lv_iadd hx hb d_L_law_268 ?_
  refine lv_topi (fun z5 e_z5 => ?_)
  have e_z5 : z5 = 1 := e_z5.trans (by decide)
  subst e_z5
  refine va_sld hx hb hX hbl hbA hS (by unfold vp_in; decide) d_L_law_269 ?_
  rw [hv1]
  refine lv_aload_n hx hb d_L_law_270 rfl (lv_at hl 5 rfl) ?_
  refine lv_iload hx hb d_L_law_271 (lv_at hl 1 rfl) ?_
  refine lv_iconst (v := 2) hx hb d_L_law_273 (by decide) ?_
  refine lv_iadd hx hb d_L_law_274 ?_
  refine lv_topi (fun z6 e_z6 => ?_)
  have e_z6 : z6 = 2 := e_z6.trans (by decide)
  subst e_z6
  refine va_sld hx hb hX hbl hbA hS (by unfold vp_in; decide) d_L_law_275 ?_
  rw [hv2]
  refine zji (wr := [(qb, .inl (cB, 20000, .inl (fun _ => 0))), (qd, .inr (2, [.ref qe, .int 0, .int 0, .int (-1), .ref qt])), (qa, .inr (3, [.int 20000, .int 100, .int 0, .ref qo, .int (-1)])), (m_tape, .inl (cM, 20000, .inl (fun _ => 0))), (qz, .inl (cZ, 1, .inr (.inl (fun _ => 0))))]) (va_runV (As := [.int v1, .int v2]) (rest := []) ⟨hx, hb, hml, hown, ht⟩ (c_M_alt1 l D _ mm m_tape m_methods m_packed m_sizes m_sums m_datas m_locals m_localEnds m_names m_nameSizes m_states m_starts m_counts m_written m_lengths m_small m_codes m_smallCodes 0 0 (-1) 20000 100 0 0 0 0 0 0 0 0 v1 v2 hbad) (cwV 2 ht (zt_goodV zm_865 zm_866 zm_867 zm_79 zm_868) rfl rfl rfl (by decide +kernel) ⟨Nat.le_of_ble_eq_true rfl, Nat.le_of_ble_eq_true rfl⟩) (zpreV zBlind_t hK hP hD [3] [] rfl (by decide) rfl (fun _ _ _ => trivial) (va_recv (q := ("ZipGuardModel", F_M, 31)) hK hP rfl (q0 := 3) (ci := 8) rfl)) rfl rfl hl.1 rfl (lv_room (Nat.le_of_ble_eq_true rfl)) d_L_law_276 ⟨Nat.le_of_ble_eq_true rfl, Nat.le_of_ble_eq_true rfl⟩) hK hP hD hS hA [3] [0, 1, 2, 4, 5] rfl rfl (by decide) (by decide) (fun r7 u H locs hp8 hP hD hK hS => ?_)
  have hP : va_P D zcl [(qb, .inl (cB, 20000, .inl (fun _ => 0))), (qd, .inr (2, [.ref qe, .int 0, .int 0, .int (-1), .ref qt])), (qa, .inr (3, [.int 20000, .int 100, .int 0, .ref qo, .int (-1)])), (m_tape, .inl (cM, 20000, .inl (fun _ => 0))), (qz, .inl (cZ, 1, .inr (.inl (fun _ => 0)))), (mm, .inr (8, [.ref m_tape, .int 0, .int 0, .int (-1), .int 20000, .int 100, .int 0, .ref m_methods, .ref m_packed, .ref m_sizes, .ref m_sums, .ref m_datas, .ref m_locals, .ref m_localEnds, .ref m_names, .ref m_nameSizes, .ref m_states, .ref m_starts, .ref m_counts, .ref m_written, .int 0, .int 0, .int 0, .int 0, .ref m_lengths, .ref m_small, .ref m_codes, .ref m_smallCodes, .int 0, .int 0, .int 1]))] H := hP
  have hD : va_D A [(qb, .inl (cB, 20000, .inl (fun _ => 0))), (qd, .inr (2, [.ref qe, .int 0, .int 0, .int (-1), .ref qt])), (qa, .inr (3, [.int 20000, .int 100, .int 0, .ref qo, .int (-1)])), (m_tape, .inl (cM, 20000, .inl (fun _ => 0))), (qz, .inl (cZ, 1, .inr (.inl (fun _ => 0)))), (mm, .inr (8, [.ref m_tape, .int 0, .int 0, .int (-1), .int 20000, .int 100, .int 0, .ref m_methods, .ref m_packed, .ref m_sizes, .ref m_sums, .ref m_datas, .ref m_locals, .ref m_localEnds, .ref m_names, .ref m_nameSizes, .ref m_states, .ref m_starts, .ref m_counts, .ref m_written, .int 0, .int 0, .int 0, .int 0, .ref m_lengths, .ref m_small, .ref m_codes, .ref m_smallCodes, .int 0, .int 0, .int 1]))] := hD
  have hK : va_K D zcl [(cB, .byte), (cM, .byte), (cZ, .long), (cZ, .long)] s := hK
  refine lv_istore (lv' := [(6, .int r7), (5, .int 1), (4, .int 0), (3, .ref qz), (2, .ref mm), (1, .ref h0), (0, .ref b)]) hx hb d_L_law_279 hl (by decide) rfl (fun ls hl => ?_)
  refine lv_aload_n hx hb d_L_law_281 rfl (lv_at hl 4 rfl) ?_
  refine zji (wr := [(qb, .inl (cB, 20000, .inl (fun _ => 0))), (qd, .inr (2, [.ref qe, .int 0, .int 0, .int (-1), .ref qt])), (qa, .inr (3, [.int 20000, .int 100, .int 0, .ref qo, .int (-1)])), (m_tape, .inl (cM, 20000, .inl (fun _ => 0))), (qz, .inl (cZ, 1, .inr (.inl (fun _ => 0))))]) (va_runV (As := []) (rest := []) ⟨hx, hb, hml, hown, ht⟩ (c_M_thrown l D _ mm m_tape m_methods m_packed m_sizes m_sums m_datas m_locals m_localEnds m_names m_nameSizes m_states m_starts m_counts m_written m_lengths m_small m_codes m_smallCodes 0 0 (-1) 20000 100 0 0 0 0 0 0 0 1 ) (cwV 0 ht (zt_goodV zm_847 zm_848 zm_849 zm_79 zm_850) rfl rfl rfl (by decide +kernel) ⟨Nat.le_of_ble_eq_true rfl, Nat.le_of_ble_eq_true rfl⟩) (zpreV zBlind_t hK hP hD [5] [] rfl (by decide) rfl (fun _ _ _ => trivial) (va_recv (q := ("ZipGuardModel", F_M, 31)) hK hP rfl (q0 := 5) (ci := 8) rfl)) rfl rfl hl.1 rfl (lv_room (Nat.le_of_ble_eq_true rfl)) d_L_law_282 ⟨Nat.le_of_ble_eq_true rfl, Nat.le_of_ble_eq_true rfl⟩) hK hP hD hS hA [5] [0, 1, 2, 3, 4] rfl rfl (by decide) (by decide) (fun r9 u H locs hp10 hP hD hK hS => ?_)
  have hP : va_P D zcl [(qb, .inl (cB, 20000, .inl (fun _ => 0))), (qd, .inr (2, [.ref qe, .int 0, .int 0, .int (-1), .ref qt])), (qa, .inr (3, [.int 20000, .int 100, .int 0, .ref qo, .int (-1)])), (m_tape, .inl (cM, 20000, .inl (fun _ => 0))), (qz, .inl (cZ, 1, .inr (.inl (fun _ => 0)))), (mm, .inr (8, [.ref m_tape, .int 0, .int 0, .int (-1), .int 20000, .int 100, .int 0, .ref m_methods, .ref m_packed, .ref m_sizes, .ref m_sums, .ref m_datas, .ref m_locals, .ref m_localEnds, .ref m_names, .ref m_nameSizes, .ref m_states, .ref m_starts, .ref m_counts, .ref m_written, .int 0, .int 0, .int 0, .int 0, .ref m_lengths, .ref m_small, .ref m_codes, .ref m_smallCodes, .int 0, .int 0, .int 1]))] H := hP
  have hD : va_D A [(qb, .inl (cB, 20000, .inl (fun _ => 0))), (qd, .inr (2, [.ref qe, .int 0, .int 0, .int (-1), .ref qt])), (qa, .inr (3, [.int 20000, .int 100, .int 0, .ref qo, .int (-1)])), (m_tape, .inl (cM, 20000, .inl (fun _ => 0))), (qz, .inl (cZ, 1, .inr (.inl (fun _ => 0)))), (mm, .inr (8, [.ref m_tape, .int 0, .int 0, .int (-1), .int 20000, .int 100, .int 0, .ref m_methods, .ref m_packed, .ref m_sizes, .ref m_sums, .ref m_datas, .ref m_locals, .ref m_localEnds, .ref m_names, .ref m_nameSizes, .ref m_states, .ref m_starts, .ref m_counts, .ref m_written, .int 0, .int 0, .int 0, .int 0, .ref m_lengths, .ref m_small, .ref m_codes, .ref m_smallCodes, .int 0, .int 0, .int 1]))] := hD
  have hK : va_K D zcl [(cB, .byte), (cM, .byte), (cZ, .long), (cZ, .long)] s := hK
  have hp10 := hp10.symm
  subst hp10
  refine lv_iload hx hb d_L_law_285 (lv_at hl 1 rfl) ?_
  refine lv_icmp_eq (tgt := 292) hx hb d_L_law_287 (by decide) (fun _ => ?_) (fun h => absurd (rfl) h)
  refine lv_iload hx hb d_L_law_292 (lv_at hl 1 rfl) ?_
  refine lv_if_ne (tgt := 309) hx hb d_L_law_294 (by decide) (fun _ => ?_) (fun h => absurd h (by decide))
  refine lv_goto (tgt := 746) hx hb d_L_law_309 (by decide) ?_
  exact zl_tail hx hb hr hml hown ht hX hbl hlk hl9 hG hA hAe hS (lv_sub hl [2, 6] rfl) (Nat.le_of_ble_eq_true rfl) (Nat.le_of_ble_eq_true rfl)
set_option maxHeartbeats 4000000 in
set_option maxRecDepth 100000 in
theorem zl_3 {p : Program} {l : Launch} {e : Env} {s : State} {m : MethodId} {below : List Frame} {meth : Method} {c : Code} {b : Nat} {xs : Nat → Int32} {A : Nat → Prop} {D : va_G} {H : Heap} {locs : List Loc} {ls : Array Slot} (hx : p.tables.exec = Jvm.exec) (hb : c.code = code) (hr : meth.sig.returnType = ret) (hml : c.maxLocals = 7) (hown : s.vm.findClass "ZipGuardLaw" = some m.cls) (ht : ∀ w ∈ zt, w.before #[Value.ref b] s = true) (hX : va_X b 6 xs s s.heap) (hbl : b < s.heap.size) (hlk : meth.locks = false) (hl9 : l.stackTraces = false) (hG : zG s) (hA : ∀ q, s.heap.size ≤ q → A q) (hAe : ∀ q, A q → s.heap.size ≤ q) (h0 : Nat) (qt : Nat) (qd : Nat) (qa : Nat) (qu : Nat) (qb : Nat) (qe : Nat) (qo : Nat) (cB : ClassId) (mm : Nat) (m_tape : Nat) (m_methods : Nat) (m_packed : Nat) (m_sizes : Nat) (m_sums : Nat) (m_datas : Nat) (m_locals : Nat) (m_localEnds : Nat) (m_names : Nat) (m_nameSizes : Nat) (m_states : Nat) (m_starts : Nat) (m_counts : Nat) (m_written : Nat) (m_lengths : Nat) (m_small : Nat) (m_codes : Nat) (m_smallCodes : Nat) (cM : ClassId) (qz : Nat) (cZ : ClassId)  (hK : va_K D zcl [(cB, .byte), (cM, .byte), (cZ, .long)] s) (hP : va_P D zcl [(h0, .inr (0, [.ref qt, .ref qd, .ref qa, .ref qu])), (qt, .inr (1, [.ref qb, .int 0])), (qb, .inl (cB, 20000, .inl (fun _ => 0))), (qd, .inr (2, [.ref qe, .int 0, .int 0, .int (-1), .ref qt])), (qa, .inr (3, [.int 20000, .int 100, .int 0, .ref qo, .int (-1)])), (mm, .inr (8, [.ref m_tape, .int 0, .int 0, .int (-1), .int 20000, .int 100, .int 0, .ref m_methods, .ref m_packed, .ref m_sizes, .ref m_sums, .ref m_datas, .ref m_locals, .ref m_localEnds, .ref m_names, .ref m_nameSizes, .ref m_states, .ref m_starts, .ref m_counts, .ref m_written, .int 0, .int 0, .int 0, .int 0, .ref m_lengths, .ref m_small, .ref m_codes, .ref m_smallCodes, .int 0, .int 0, .int 0])), (m_tape, .inl (cM, 20000, .inl (fun _ => 0))), (qz, .inl (cZ, 1, .inr (.inl (fun _ => 0))))] H) (hD : va_D A [(h0, .inr (0, [.ref qt, .ref qd, .ref qa, .ref qu])), (qt, .inr (1, [.ref qb, .int 0])), (qb, .inl (cB, 20000, .inl (fun _ => 0))), (qd, .inr (2, [.ref qe, .int 0, .int 0, .int (-1), .ref qt])), (qa, .inr (3, [.int 20000, .int 100, .int 0, .ref qo, .int (-1)])), (mm, .inr (8, [.ref m_tape, .int 0, .int 0, .int (-1), .int 20000, .int 100, .int 0, .ref m_methods, .ref m_packed, .ref m_sizes, .ref m_sums, .ref m_datas, .ref m_locals, .ref m_localEnds, .ref m_names, .ref m_nameSizes, .ref m_states, .ref m_starts, .ref m_counts, .ref m_written, .int 0, .int 0, .int 0, .int 0, .ref m_lengths, .ref m_small, .ref m_codes, .ref m_smallCodes, .int 0, .int 0, .int 0])), (m_tape, .inl (cM, 20000, .inl (fun _ => 0))), (qz, .inl (cZ, 1, .inr (.inl (fun _ => 0))))]) (hS : va_S A s.heap H locs) (hl : lv_has ls 7 [(4, .int 0), (3, .ref qz), (2, .ref mm), (1, .ref h0), (0, .ref b)]) : W p l e room_1 s m #[Value.ref b] below meth c H locs 178 131109 (lw_Z below #[Value.ref b] s) (F0 m 312 ls []) := by
  have hbA : ¬ A b := fun h => absurd (hAe b h) (Nat.not_le.mpr hbl)
  refine lv_aload_n hx hb d_L_law_312 rfl (lv_at hl 3 rfl) ?_
  refine zji (wr := [(qb, .inl (cB, 20000, .inl (fun _ => 0))), (mm, .inr (8, [.ref m_tape, .int 0, .int 0, .int (-1), .int 20000, .int 100, .int 0, .ref m_methods, .ref m_packed, .ref m_sizes, .ref m_sums, .ref m_datas, .ref m_locals, .ref m_localEnds, .ref m_names, .ref m_nameSizes, .ref m_states, .ref m_starts, .ref m_counts, .ref m_written, .int 0, .int 0, .int 0, .int 0, .ref m_lengths, .ref m_small, .ref m_codes, .ref m_smallCodes, .int 0, .int 0, .int 0])), (m_tape, .inl (cM, 20000, .inl (fun _ => 0))), (qz, .inl (cZ, 1, .inr (.inl (fun _ => 0))))]) (va_runV (As := []) (rest := []) ⟨hx, hb, hml, hown, ht⟩ (c_G_open0 l D _ h0 qt qd qa qu qb qe qo 0 0 (-1) 20000 100 0 (-1) ) (cwV 0 ht (zt_goodV zm_408 zm_409 zm_410 zm_65 zm_411) rfl rfl rfl (by decide +kernel) ⟨Nat.le_of_ble_eq_true rfl, Nat.le_of_ble_eq_true rfl⟩) (zpreV zBlind_t hK hP hD [0, 1, 3, 4] [] rfl (by decide) rfl (fun _ _ _ => trivial) (va_recv (q := ("ZipGuard", F_G, 4)) hK hP rfl (q0 := 0) (ci := 0) rfl)) rfl rfl hl.1 rfl (lv_room (Nat.le_of_ble_eq_true rfl)) d_L_law_313 ⟨Nat.le_of_ble_eq_true rfl, Nat.le_of_ble_eq_true rfl⟩) hK hP hD hS hA [0, 1, 3, 4] [2, 5, 6, 7] rfl rfl (by decide) (by decide) (fun r1 u H locs hp2 hP hD hK hS => ?_)
  have hP : va_P D zcl [(qb, .inl (cB, 20000, .inl (fun _ => 0))), (mm, .inr (8, [.ref m_tape, .int 0, .int 0, .int (-1), .int 20000, .int 100, .int 0, .ref m_methods, .ref m_packed, .ref m_sizes, .ref m_sums, .ref m_datas, .ref m_locals, .ref m_localEnds, .ref m_names, .ref m_nameSizes, .ref m_states, .ref m_starts, .ref m_counts, .ref m_written, .int 0, .int 0, .int 0, .int 0, .ref m_lengths, .ref m_small, .ref m_codes, .ref m_smallCodes, .int 0, .int 0, .int 0])), (m_tape, .inl (cM, 20000, .inl (fun _ => 0))), (qz, .inl (cZ, 1, .inr (.inl (fun _ => 0)))), (h0, .inr (0, [.ref qt, .ref qd, .ref qa, .ref qu])), (qt, .inr (1, [.ref qb, .int 0])), (qd, .inr (2, [.ref qe, .int 0, .int 0, .int 0, .ref qt])), (qa, .inr (3, [.int 20000, .int 100, .int 0, .ref qo, .int (-1)]))] H := hP
  have hD : va_D A [(qb, .inl (cB, 20000, .inl (fun _ => 0))), (mm, .inr (8, [.ref m_tape, .int 0, .int 0, .int (-1), .int 20000, .int 100, .int 0, .ref m_methods, .ref m_packed, .ref m_sizes, .ref m_sums, .ref m_datas, .ref m_locals, .ref m_localEnds, .ref m_names, .ref m_nameSizes, .ref m_states, .ref m_starts, .ref m_counts, .ref m_written, .int 0, .int 0, .int 0, .int 0, .ref m_lengths, .ref m_small, .ref m_codes, .ref m_smallCodes, .int 0, .int 0, .int 0])), (m_tape, .inl (cM, 20000, .inl (fun _ => 0))), (qz, .inl (cZ, 1, .inr (.inl (fun _ => 0)))), (h0, .inr (0, [.ref qt, .ref qd, .ref qa, .ref qu])), (qt, .inr (1, [.ref qb, .int 0])), (qd, .inr (2, [.ref qe, .int 0, .int 0, .int 0, .ref qt])), (qa, .inr (3, [.int 20000, .int 100, .int 0, .ref qo, .int (-1)]))] := hD
  have hK : va_K D zcl [(cB, .byte), (cM, .byte), (cZ, .long)] s := hK
  have hp2 := hp2.symm
  subst hp2
  refine lv_aload_n hx hb d_L_law_316 rfl (lv_at hl 2 rfl) ?_
  refine zji (wr := [(qb, .inl (cB, 20000, .inl (fun _ => 0))), (m_tape, .inl (cM, 20000, .inl (fun _ => 0))), (qz, .inl (cZ, 1, .inr (.inl (fun _ => 0)))), (h0, .inr (0, [.ref qt, .ref qd, .ref qa, .ref qu])), (qt, .inr (1, [.ref qb, .int 0])), (qd, .inr (2, [.ref qe, .int 0, .int 0, .int 0, .ref qt])), (qa, .inr (3, [.int 20000, .int 100, .int 0, .ref qo, .int (-1)]))]) (va_runV (As := []) (rest := [.int (-1)]) ⟨hx, hb, hml, hown, ht⟩ (c_M_open0 l D _ mm m_tape m_methods m_packed m_sizes m_sums m_datas m_locals m_localEnds m_names m_nameSizes m_states m_starts m_counts m_written m_lengths m_small m_codes m_smallCodes 0 (-1) 20000 100 0 0 0 0 0 0 0 0 ) (cwV 0 ht (zt_goodV zm_869 zm_870 zm_871 zm_79 zm_872) rfl rfl rfl (by decide +kernel) ⟨Nat.le_of_ble_eq_true rfl, Nat.le_of_ble_eq_true rfl⟩) (zpreV zBlind_t hK hP hD [1] [] rfl (by decide) rfl (fun _ _ _ => trivial) (va_recv (q := ("ZipGuardModel", F_M, 31)) hK hP rfl (q0 := 1) (ci := 8) rfl)) rfl rfl hl.1 rfl (lv_room (Nat.le_of_ble_eq_true rfl)) d_L_law_317 ⟨Nat.le_of_ble_eq_true rfl, Nat.le_of_ble_eq_true rfl⟩) hK hP hD hS hA [1] [0, 2, 3, 4, 5, 6, 7] rfl rfl (by decide) (by decide) (fun r3 u H locs hp4 hP hD hK hS => ?_)
  have hP : va_P D zcl [(qb, .inl (cB, 20000, .inl (fun _ => 0))), (m_tape, .inl (cM, 20000, .inl (fun _ => 0))), (qz, .inl (cZ, 1, .inr (.inl (fun _ => 0)))), (h0, .inr (0, [.ref qt, .ref qd, .ref qa, .ref qu])), (qt, .inr (1, [.ref qb, .int 0])), (qd, .inr (2, [.ref qe, .int 0, .int 0, .int 0, .ref qt])), (qa, .inr (3, [.int 20000, .int 100, .int 0, .ref qo, .int (-1)])), (mm, .inr (8, [.ref m_tape, .int 0, .int 0, .int ((0 : Int32).toInt64.toInt32), .int 20000, .int 100, .int 0, .ref m_methods, .ref m_packed, .ref m_sizes, .ref m_sums, .ref m_datas, .ref m_locals, .ref m_localEnds, .ref m_names, .ref m_nameSizes, .ref m_states, .ref m_starts, .ref m_counts, .ref m_written, .int 0, .int 0, .int 0, .int 0, .ref m_lengths, .ref m_small, .ref m_codes, .ref m_smallCodes, .int 0, .int 0, .int 0]))] H := hP
  have hD : va_D A [(qb, .inl (cB, 20000, .inl (fun _ => 0))), (m_tape, .inl (cM, 20000, .inl (fun _ => 0))), (qz, .inl (cZ, 1, .inr (.inl (fun _ => 0)))), (h0, .inr (0, [.ref qt, .ref qd, .ref qa, .ref qu])), (qt, .inr (1, [.ref qb, .int 0])), (qd, .inr (2, [.ref qe, .int 0, .int 0, .int 0, .ref qt])), (qa, .inr (3, [.int 20000, .int 100, .int 0, .ref qo, .int (-1)])), (mm, .inr (8, [.ref m_tape, .int 0, .int 0, .int ((0 : Int32).toInt64.toInt32), .int 20000, .int 100, .int 0, .ref m_methods, .ref m_packed, .ref m_sizes, .ref m_sums, .ref m_datas, .ref m_locals, .ref m_localEnds, .ref m_names, .ref m_nameSizes, .ref m_states, .ref m_starts, .ref m_counts, .ref m_written, .int 0, .int 0, .int 0, .int 0, .ref m_lengths, .ref m_small, .ref m_codes, .ref m_smallCodes, .int 0, .int 0, .int 0]))] := hD
  have hK : va_K D zcl [(cB, .byte), (cM, .byte), (cZ, .long)] s := hK
  have hp4 := hp4.symm
  subst hp4
  refine lv_icmp_eq (tgt := 746) hx hb d_L_law_320 (by decide) (fun _ => ?_) (fun h => absurd (rfl) h)
  exact zl_tail hx hb hr hml hown ht hX hbl hlk hl9 hG hA hAe hS (lv_sub hl [0, 4] rfl) (Nat.le_of_ble_eq_true rfl) (Nat.le_of_ble_eq_true rfl)
set_option maxHeartbeats 4000000 in
set_option maxRecDepth 100000 in
theorem zl_4 {p : Program} {l : Launch} {e : Env} {s : State} {m : MethodId} {below : List Frame} {meth : Method} {c : Code} {b : Nat} {xs : Nat → Int32} {A : Nat → Prop} {D : va_G} {H : Heap} {locs : List Loc} {ls : Array Slot} (hx : p.tables.exec = Jvm.exec) (hb : c.code = code) (hr : meth.sig.returnType = ret) (hml : c.maxLocals = 7) (hown : s.vm.findClass "ZipGuardLaw" = some m.cls) (ht : ∀ w ∈ zt, w.before #[Value.ref b] s = true) (hX : va_X b 6 xs s s.heap) (hbl : b < s.heap.size) (hlk : meth.locks = false) (hl9 : l.stackTraces = false) (hG : zG s) (hA : ∀ q, s.heap.size ≤ q → A q) (hAe : ∀ q, A q → s.heap.size ≤ q) (h0 : Nat) (qt : Nat) (qd : Nat) (qa : Nat) (qu : Nat) (qb : Nat) (qe : Nat) (qo : Nat) (cB : ClassId) (mm : Nat) (m_tape : Nat) (m_methods : Nat) (m_packed : Nat) (m_sizes : Nat) (m_sums : Nat) (m_datas : Nat) (m_locals : Nat) (m_localEnds : Nat) (m_names : Nat) (m_nameSizes : Nat) (m_states : Nat) (m_starts : Nat) (m_counts : Nat) (m_written : Nat) (m_lengths : Nat) (m_small : Nat) (m_codes : Nat) (m_smallCodes : Nat) (cM : ClassId) (qz : Nat) (cZ : ClassId)  (hK : va_K D zcl [(cB, .byte), (cM, .byte), (cZ, .long)] s) (hP : va_P D zcl [(h0, .inr (0, [.ref qt, .ref qd, .ref qa, .ref qu])), (qt, .inr (1, [.ref qb, .int 0])), (qb, .inl (cB, 20000, .inl (fun _ => 0))), (qd, .inr (2, [.ref qe, .int 0, .int 0, .int (-1), .ref qt])), (qa, .inr (3, [.int 20000, .int 100, .int 0, .ref qo, .int (-1)])), (mm, .inr (8, [.ref m_tape, .int 0, .int 0, .int (-1), .int 20000, .int 100, .int 0, .ref m_methods, .ref m_packed, .ref m_sizes, .ref m_sums, .ref m_datas, .ref m_locals, .ref m_localEnds, .ref m_names, .ref m_nameSizes, .ref m_states, .ref m_starts, .ref m_counts, .ref m_written, .int 0, .int 0, .int 0, .int 0, .ref m_lengths, .ref m_small, .ref m_codes, .ref m_smallCodes, .int 0, .int 0, .int 0])), (m_tape, .inl (cM, 20000, .inl (fun _ => 0))), (qz, .inl (cZ, 1, .inr (.inl (fun _ => 0))))] H) (hD : va_D A [(h0, .inr (0, [.ref qt, .ref qd, .ref qa, .ref qu])), (qt, .inr (1, [.ref qb, .int 0])), (qb, .inl (cB, 20000, .inl (fun _ => 0))), (qd, .inr (2, [.ref qe, .int 0, .int 0, .int (-1), .ref qt])), (qa, .inr (3, [.int 20000, .int 100, .int 0, .ref qo, .int (-1)])), (mm, .inr (8, [.ref m_tape, .int 0, .int 0, .int (-1), .int 20000, .int 100, .int 0, .ref m_methods, .ref m_packed, .ref m_sizes, .ref m_sums, .ref m_datas, .ref m_locals, .ref m_localEnds, .ref m_names, .ref m_nameSizes, .ref m_states, .ref m_starts, .ref m_counts, .ref m_written, .int 0, .int 0, .int 0, .int 0, .ref m_lengths, .ref m_small, .ref m_codes, .ref m_smallCodes, .int 0, .int 0, .int 0])), (m_tape, .inl (cM, 20000, .inl (fun _ => 0))), (qz, .inl (cZ, 1, .inr (.inl (fun _ => 0))))]) (hS : va_S A s.heap H locs) (hl : lv_has ls 7 [(4, .int 0), (3, .ref qz), (2, .ref mm), (1, .ref h0), (0, .ref b)]) : W p l e room_1 s m #[Value.ref b] below meth c H locs 178 131109 (lw_Z below #[Value.ref b] s) (F0 m 325 ls []) := by
  have hbA : ¬ A b := fun h => absurd (hAe b h) (Nat.not_le.mpr hbl)
  refine lv_aload_n hx hb d_L_law_325 rfl (lv_at hl 3 rfl) ?_
  refine zji (wr := [(qt, .inr (1, [.ref qb, .int 0])), (qb, .inl (cB, 20000, .inl (fun _ => 0))), (qa, .inr (3, [.int 20000, .int 100, .int 0, .ref qo, .int (-1)])), (mm, .inr (8, [.ref m_tape, .int 0, .int 0, .int (-1), .int 20000, .int 100, .int 0, .ref m_methods, .ref m_packed, .ref m_sizes, .ref m_sums, .ref m_datas, .ref m_locals, .ref m_localEnds, .ref m_names, .ref m_nameSizes, .ref m_states, .ref m_starts, .ref m_counts, .ref m_written, .int 0, .int 0, .int 0, .int 0, .ref m_lengths, .ref m_small, .ref m_codes, .ref m_smallCodes, .int 0, .int 0, .int 0])), (m_tape, .inl (cM, 20000, .inl (fun _ => 0))), (qz, .inl (cZ, 1, .inr (.inl (fun _ => 0))))]) (va_runV (As := []) (rest := []) ⟨hx, hb, hml, hown, ht⟩ (c_G_place l D _ h0 qt qd qa qu qe 0 0 (-1) ) (cwV 0 ht (zt_goodV zm_508 zm_509 zm_510 zm_65 zm_511) rfl rfl rfl (by decide +kernel) ⟨Nat.le_of_ble_eq_true rfl, Nat.le_of_ble_eq_true rfl⟩) (zpreV zBlind_t hK hP hD [0, 3] [] rfl (by decide) rfl (fun _ _ _ => trivial) (va_recv (q := ("ZipGuard", F_G, 4)) hK hP rfl (q0 := 0) (ci := 0) rfl)) rfl rfl hl.1 rfl (lv_room (Nat.le_of_ble_eq_true rfl)) d_L_law_326 ⟨Nat.le_of_ble_eq_true rfl, Nat.le_of_ble_eq_true rfl⟩) hK hP hD hS hA [0, 3] [1, 2, 4, 5, 6, 7] rfl rfl (by decide) (by decide) (fun r1 u H locs hp2 hP hD hK hS => ?_)
  have hP : va_P D zcl [(qt, .inr (1, [.ref qb, .int 0])), (qb, .inl (cB, 20000, .inl (fun _ => 0))), (qa, .inr (3, [.int 20000, .int 100, .int 0, .ref qo, .int (-1)])), (mm, .inr (8, [.ref m_tape, .int 0, .int 0, .int (-1), .int 20000, .int 100, .int 0, .ref m_methods, .ref m_packed, .ref m_sizes, .ref m_sums, .ref m_datas, .ref m_locals, .ref m_localEnds, .ref m_names, .ref m_nameSizes, .ref m_states, .ref m_starts, .ref m_counts, .ref m_written, .int 0, .int 0, .int 0, .int 0, .ref m_lengths, .ref m_small, .ref m_codes, .ref m_smallCodes, .int 0, .int 0, .int 0])), (m_tape, .inl (cM, 20000, .inl (fun _ => 0))), (qz, .inl (cZ, 1, .inr (.inl (fun _ => 0)))), (h0, .inr (0, [.ref qt, .ref qd, .ref qa, .ref qu])), (qd, .inr (2, [.ref qe, .int 0, .int 0, .int (-1), .ref qt]))] H := hP
  have hD : va_D A [(qt, .inr (1, [.ref qb, .int 0])), (qb, .inl (cB, 20000, .inl (fun _ => 0))), (qa, .inr (3, [.int 20000, .int 100, .int 0, .ref qo, .int (-1)])), (mm, .inr (8, [.ref m_tape, .int 0, .int 0, .int (-1), .int 20000, .int 100, .int 0, .ref m_methods, .ref m_packed, .ref m_sizes, .ref m_sums, .ref m_datas, .ref m_locals, .ref m_localEnds, .ref m_names, .ref m_nameSizes, .ref m_states, .ref m_starts, .ref m_counts, .ref m_written, .int 0, .int 0, .int 0, .int 0, .ref m_lengths, .ref m_small, .ref m_codes, .ref m_smallCodes, .int 0, .int 0, .int 0])), (m_tape, .inl (cM, 20000, .inl (fun _ => 0))), (qz, .inl (cZ, 1, .inr (.inl (fun _ => 0)))), (h0, .inr (0, [.ref qt, .ref qd, .ref qa, .ref qu])), (qd, .inr (2, [.ref qe, .int 0, .int 0, .int (-1), .ref qt]))] := hD
  have hK : va_K D zcl [(cB, .byte), (cM, .byte), (cZ, .long)] s := hK
  have hp2 := hp2.symm
  subst hp2
  refine lv_aload_n hx hb d_L_law_329 rfl (lv_at hl 2 rfl) ?_
  refine zji (wr := [(qt, .inr (1, [.ref qb, .int 0])), (qb, .inl (cB, 20000, .inl (fun _ => 0))), (qa, .inr (3, [.int 20000, .int 100, .int 0, .ref qo, .int (-1)])), (m_tape, .inl (cM, 20000, .inl (fun _ => 0))), (qz, .inl (cZ, 1, .inr (.inl (fun _ => 0)))), (h0, .inr (0, [.ref qt, .ref qd, .ref qa, .ref qu])), (qd, .inr (2, [.ref qe, .int 0, .int 0, .int (-1), .ref qt]))]) (va_runV (As := []) (rest := [.int (-1)]) ⟨hx, hb, hml, hown, ht⟩ (c_M_place l D _ mm m_tape m_methods m_packed m_sizes m_sums m_datas m_locals m_localEnds m_names m_nameSizes m_states m_starts m_counts m_written m_lengths m_small m_codes m_smallCodes 0 0 (-1) 20000 100 0 0 0 0 0 0 0 0 ) (cwV 0 ht (zt_goodV zm_941 zm_942 zm_943 zm_79 zm_944) rfl rfl rfl (by decide +kernel) ⟨Nat.le_of_ble_eq_true rfl, Nat.le_of_ble_eq_true rfl⟩) (zpreV zBlind_t hK hP hD [3] [] rfl (by decide) rfl (fun _ _ _ => trivial) (va_recv (q := ("ZipGuardModel", F_M, 31)) hK hP rfl (q0 := 3) (ci := 8) rfl)) rfl rfl hl.1 rfl (lv_room (Nat.le_of_ble_eq_true rfl)) d_L_law_330 ⟨Nat.le_of_ble_eq_true rfl, Nat.le_of_ble_eq_true rfl⟩) hK hP hD hS hA [3] [0, 1, 2, 4, 5, 6, 7] rfl rfl (by decide) (by decide) (fun r3 u H locs hp4 hP hD hK hS => ?_)
  have hP : va_P D zcl [(qt, .inr (1, [.ref qb, .int 0])), (qb, .inl (cB, 20000, .inl (fun _ => 0))), (qa, .inr (3, [.int 20000, .int 100, .int 0, .ref qo, .int (-1)])), (m_tape, .inl (cM, 20000, .inl (fun _ => 0))), (qz, .inl (cZ, 1, .inr (.inl (fun _ => 0)))), (h0, .inr (0, [.ref qt, .ref qd, .ref qa, .ref qu])), (qd, .inr (2, [.ref qe, .int 0, .int 0, .int (-1), .ref qt])), (mm, .inr (8, [.ref m_tape, .int 0, .int 0, .int (-1), .int 20000, .int 100, .int 0, .ref m_methods, .ref m_packed, .ref m_sizes, .ref m_sums, .ref m_datas, .ref m_locals, .ref m_localEnds, .ref m_names, .ref m_nameSizes, .ref m_states, .ref m_starts, .ref m_counts, .ref m_written, .int 0, .int 0, .int 0, .int 0, .ref m_lengths, .ref m_small, .ref m_codes, .ref m_smallCodes, .int 0, .int 0, .int 0]))] H := hP
  have hD : va_D A [(qt, .inr (1, [.ref qb, .int 0])), (qb, .inl (cB, 20000, .inl (fun _ => 0))), (qa, .inr (3, [.int 20000, .int 100, .int 0, .ref qo, .int (-1)])), (m_tape, .inl (cM, 20000, .inl (fun _ => 0))), (qz, .inl (cZ, 1, .inr (.inl (fun _ => 0)))), (h0, .inr (0, [.ref qt, .ref qd, .ref qa, .ref qu])), (qd, .inr (2, [.ref qe, .int 0, .int 0, .int (-1), .ref qt])), (mm, .inr (8, [.ref m_tape, .int 0, .int 0, .int (-1), .int 20000, .int 100, .int 0, .ref m_methods, .ref m_packed, .ref m_sizes, .ref m_sums, .ref m_datas, .ref m_locals, .ref m_localEnds, .ref m_names, .ref m_nameSizes, .ref m_states, .ref m_starts, .ref m_counts, .ref m_written, .int 0, .int 0, .int 0, .int 0, .ref m_lengths, .ref m_small, .ref m_codes, .ref m_smallCodes, .int 0, .int 0, .int 0]))] := hD
  have hK : va_K D zcl [(cB, .byte), (cM, .byte), (cZ, .long)] s := hK
  have hp4 := hp4.symm
  subst hp4
  refine lv_icmp_eq (tgt := 746) hx hb d_L_law_333 (by decide) (fun _ => ?_) (fun h => absurd (rfl) h)
  exact zl_tail hx hb hr hml hown ht hX hbl hlk hl9 hG hA hAe hS (lv_sub hl [0, 4] rfl) (Nat.le_of_ble_eq_true rfl) (Nat.le_of_ble_eq_true rfl)
set_option maxHeartbeats 4000000 in
set_option maxRecDepth 100000 in
theorem zl_5a {p : Program} {l : Launch} {e : Env} {s : State} {m : MethodId} {below : List Frame} {meth : Method} {c : Code} {b : Nat} {xs : Nat → Int32} {A : Nat → Prop} {D : va_G} {H : Heap} {locs : List Loc} {ls : Array Slot} (hx : p.tables.exec = Jvm.exec) (hb : c.code = code) (hr : meth.sig.returnType = ret) (hml : c.maxLocals = 7) (hown : s.vm.findClass "ZipGuardLaw" = some m.cls) (ht : ∀ w ∈ zt, w.before #[Value.ref b] s = true) (hX : va_X b 6 xs s s.heap) (hbl : b < s.heap.size) (hlk : meth.locks = false) (hl9 : l.stackTraces = false) (hG : zG s) (hA : ∀ q, s.heap.size ≤ q → A q) (hAe : ∀ q, A q → s.heap.size ≤ q) (h0 : Nat) (qt : Nat) (qd : Nat) (qa : Nat) (qu : Nat) (qb : Nat) (qe : Nat) (qo : Nat) (cB : ClassId) (mm : Nat) (m_tape : Nat) (m_methods : Nat) (m_packed : Nat) (m_sizes : Nat) (m_sums : Nat) (m_datas : Nat) (m_locals : Nat) (m_localEnds : Nat) (m_names : Nat) (m_nameSizes : Nat) (m_states : Nat) (m_starts : Nat) (m_counts : Nat) (m_written : Nat) (m_lengths : Nat) (m_small : Nat) (m_codes : Nat) (m_smallCodes : Nat) (cM : ClassId) (qz : Nat) (cZ : ClassId) (v1 : Int32) (v2 : Int32) (hv1 : xs (1 : Int32).toNatClampNeg = v1) (hv2 : xs (2 : Int32).toNatClampNeg = v2) (h1 : ¬ v1 < 0) (h2 : ¬ 40000 < v1) (h3 : ¬ v2 < 0) (h4 : v2 ≤ 2000) (hK : va_K D zcl [(cB, .byte), (cM, .byte), (cZ, .long)] s) (hP : va_P D zcl [(h0, .inr (0, [.ref qt, .ref qd, .ref qa, .ref qu])), (qt, .inr (1, [.ref qb, .int 0])), (qb, .inl (cB, 20000, .inl (fun _ => 0))), (qd, .inr (2, [.ref qe, .int 0, .int 0, .int (-1), .ref qt])), (qa, .inr (3, [.int 20000, .int 100, .int 0, .ref qo, .int (-1)])), (mm, .inr (8, [.ref m_tape, .int 0, .int 0, .int (-1), .int 20000, .int 100, .int 0, .ref m_methods, .ref m_packed, .ref m_sizes, .ref m_sums, .ref m_datas, .ref m_locals, .ref m_localEnds, .ref m_names, .ref m_nameSizes, .ref m_states, .ref m_starts, .ref m_counts, .ref m_written, .int 0, .int 0, .int 0, .int 0, .ref m_lengths, .ref m_small, .ref m_codes, .ref m_smallCodes, .int 0, .int 0, .int 0])), (m_tape, .inl (cM, 20000, .inl (fun _ => 0))), (qz, .inl (cZ, 1, .inr (.inl (fun _ => 0))))] H) (hD : va_D A [(h0, .inr (0, [.ref qt, .ref qd, .ref qa, .ref qu])), (qt, .inr (1, [.ref qb, .int 0])), (qb, .inl (cB, 20000, .inl (fun _ => 0))), (qd, .inr (2, [.ref qe, .int 0, .int 0, .int (-1), .ref qt])), (qa, .inr (3, [.int 20000, .int 100, .int 0, .ref qo, .int (-1)])), (mm, .inr (8, [.ref m_tape, .int 0, .int 0, .int (-1), .int 20000, .int 100, .int 0, .ref m_methods, .ref m_packed, .ref m_sizes, .ref m_sums, .ref m_datas, .ref m_locals, .ref m_localEnds, .ref m_names, .ref m_nameSizes, .ref m_states, .ref m_starts, .ref m_counts, .ref m_written, .int 0, .int 0, .int 0, .int 0, .ref m_lengths, .ref m_small, .ref m_codes, .ref m_smallCodes, .int 0, .int 0, .int 0])), (m_tape, .inl (cM, 20000, .inl (fun _ => 0))), (qz, .inl (cZ, 1, .inr (.inl (fun _ => 0))))]) (hS : va_S A s.heap H locs) (hl : lv_has ls 7 [(4, .int 0), (3, .ref qz), (2, .ref mm), (1, .ref h0), (0, .ref b)]) : W p l e room_1 s m #[Value.ref b] below meth c H locs 178 131109 (lw_Z below #[Value.ref b] s) (F0 m 338 ls []) := by
  have hbA : ¬ A b := fun h => absurd (hAe b h) (Nat.not_le.mpr hbl)
  refine lv_aload_n hx hb d_L_law_338 rfl (lv_at hl 3 rfl) ?_
  refine lv_aload_n hx hb d_L_law_339 rfl (lv_at hl 4 rfl) ?_
  refine lv_iload hx hb d_L_law_340 (lv_at hl 0 rfl) ?_
  refine lv_iconst (v := 1) hx hb d_L_law_342 (by decide) ?_
  refine lv_iadd hx hb d_L_law_343 ?_
  refine lv_topi (fun z1 e_z1 => ?_)
  have e_z1 : z1 = 1 := e_z1.trans (by decide)
  subst e_z1
  refine va_sld hx hb hX hbl hbA hS (by unfold vp_in; decide) d_L_law_344 ?_
  rw [hv1]
  refine lv_aload_n hx hb d_L_law_345 rfl (lv_at hl 4 rfl) ?_
  refine lv_iload hx hb d_L_law_346 (lv_at hl 0 rfl) ?_
  refine lv_iconst (v := 2) hx hb d_L_law_348 (by decide) ?_
  refine lv_iadd hx hb d_L_law_349 ?_
  refine lv_topi (fun z2 e_z2 => ?_)
  have e_z2 : z2 = 2 := e_z2.trans (by decide)
  subst e_z2
  refine va_sld hx hb hX hbl hbA hS (by unfold vp_in; decide) d_L_law_350 ?_
  rw [hv2]
  refine zji (wr := [(qt, .inr (1, [.ref qb, .int 0])), (qb, .inl (cB, 20000, .inl (fun _ => 0))), (qd, .inr (2, [.ref qe, .int 0, .int 0, .int (-1), .ref qt])), (mm, .inr (8, [.ref m_tape, .int 0, .int 0, .int (-1), .int 20000, .int 100, .int 0, .ref m_methods, .ref m_packed, .ref m_sizes, .ref m_sums, .ref m_datas, .ref m_locals, .ref m_localEnds, .ref m_names, .ref m_nameSizes, .ref m_states, .ref m_starts, .ref m_counts, .ref m_written, .int 0, .int 0, .int 0, .int 0, .ref m_lengths, .ref m_small, .ref m_codes, .ref m_smallCodes, .int 0, .int 0, .int 0])), (m_tape, .inl (cM, 20000, .inl (fun _ => 0))), (qz, .inl (cZ, 1, .inr (.inl (fun _ => 0))))]) (zrunSW (n := 3) (As := [.ref h0, .int v1, .int v2]) (rest := []) ⟨hx, hb, hml, hown, ht⟩ (c_L_lim l D _ h0 qt qd qa qu qo 20000 100 0 (-1) v1 v2 h1 h2 h3 h4) zm_596 zm_597 zm_64 zm_598 rfl rfl (by decide +kernel) ⟨Nat.le_of_ble_eq_true rfl, Nat.le_of_ble_eq_true rfl⟩ (zpre zBlind_t hK hP hD [0, 4] [] rfl (by decide) rfl (fun _ _ _ => trivial)) rfl rfl hl.1 rfl (lv_room (Nat.le_of_ble_eq_true rfl)) d_L_law_351 ⟨Nat.le_of_ble_eq_true rfl, Nat.le_of_ble_eq_true rfl⟩) hK hP hD hS hA [0, 4] [1, 2, 3, 5, 6, 7] rfl rfl (by decide) (by decide) (fun r3 u H locs hp4 hP hD hK hS => ?_)
  have hP : va_P D zcl [(qt, .inr (1, [.ref qb, .int 0])), (qb, .inl (cB, 20000, .inl (fun _ => 0))), (qd, .inr (2, [.ref qe, .int 0, .int 0, .int (-1), .ref qt])), (mm, .inr (8, [.ref m_tape, .int 0, .int 0, .int (-1), .int 20000, .int 100, .int 0, .ref m_methods, .ref m_packed, .ref m_sizes, .ref m_sums, .ref m_datas, .ref m_locals, .ref m_localEnds, .ref m_names, .ref m_nameSizes, .ref m_states, .ref m_starts, .ref m_counts, .ref m_written, .int 0, .int 0, .int 0, .int 0, .ref m_lengths, .ref m_small, .ref m_codes, .ref m_smallCodes, .int 0, .int 0, .int 0])), (m_tape, .inl (cM, 20000, .inl (fun _ => 0))), (qz, .inl (cZ, 1, .inr (.inl (fun _ => 0))))] H := hP
  have hD : va_D A [(qt, .inr (1, [.ref qb, .int 0])), (qb, .inl (cB, 20000, .inl (fun _ => 0))), (qd, .inr (2, [.ref qe, .int 0, .int 0, .int (-1), .ref qt])), (mm, .inr (8, [.ref m_tape, .int 0, .int 0, .int (-1), .int 20000, .int 100, .int 0, .ref m_methods, .ref m_packed, .ref m_sizes, .ref m_sums, .ref m_datas, .ref m_locals, .ref m_localEnds, .ref m_names, .ref m_nameSizes, .ref m_states, .ref m_starts, .ref m_counts, .ref m_written, .int 0, .int 0, .int 0, .int 0, .ref m_lengths, .ref m_small, .ref m_codes, .ref m_smallCodes, .int 0, .int 0, .int 0])), (m_tape, .inl (cM, 20000, .inl (fun _ => 0))), (qz, .inl (cZ, 1, .inr (.inl (fun _ => 0))))] := hD
  have hK : va_K D zcl [(cB, .byte), (cM, .byte), (cZ, .long)] s := hK
  have hp4 := hp4.symm
  subst hp4
  refine lv_istore (lv' := [(5, .int 0), (4, .int 0), (3, .ref qz), (2, .ref mm), (1, .ref h0), (0, .ref b)]) hx hb d_L_law_354 hl (by decide) rfl (fun ls hl => ?_)
  refine lv_aload_n hx hb d_L_law_356 rfl (lv_at hl 3 rfl) ?_
  refine lv_aload_n hx hb d_L_law_357 rfl (lv_at hl 5 rfl) ?_
  refine lv_iload hx hb d_L_law_358 (lv_at hl 1 rfl) ?_
  refine lv_iconst (v := 1) hx hb d_L_law_360 (by decide) ?_
  refine lv_iadd hx hb d_L_law_361 ?_
  refine lv_topi (fun z5 e_z5 => ?_)
  have e_z5 : z5 = 1 := e_z5.trans (by decide)
  subst e_z5
  refine va_sld hx hb hX hbl hbA hS (by unfold vp_in; decide) d_L_law_362 ?_
  rw [hv1]
  refine lv_aload_n hx hb d_L_law_363 rfl (lv_at hl 5 rfl) ?_
  refine lv_iload hx hb d_L_law_364 (lv_at hl 1 rfl) ?_
  refine lv_iconst (v := 2) hx hb d_L_law_366 (by decide) ?_
  refine lv_iadd hx hb d_L_law_367 ?_
  refine lv_topi (fun z6 e_z6 => ?_)
  have e_z6 : z6 = 2 := e_z6.trans (by decide)
  subst e_z6
  refine va_sld hx hb hX hbl hbA hS (by unfold vp_in; decide) d_L_law_368 ?_
  rw [hv2]
  refine zjv (wr := [(qt, .inr (1, [.ref qb, .int 0])), (qb, .inl (cB, 20000, .inl (fun _ => 0))), (qd, .inr (2, [.ref qe, .int 0, .int 0, .int (-1), .ref qt])), (m_tape, .inl (cM, 20000, .inl (fun _ => 0))), (qz, .inl (cZ, 1, .inr (.inl (fun _ => 0))))]) (va_runV (As := [.int v1, .int v2]) (rest := []) ⟨hx, hb, hml, hown, ht⟩ (c_M_lim0 l D _ mm m_tape m_methods m_packed m_sizes m_sums m_datas m_locals m_localEnds m_names m_nameSizes m_states m_starts m_counts m_written m_lengths m_small m_codes m_smallCodes 0 0 (-1) 20000 100 0 0 0 0 0 0 0 0 v1 v2 h1 h2 h3 h4) (cwV 2 ht (zt_goodV zm_945 zm_946 zm_947 zm_79 zm_948) rfl rfl rfl (by decide +kernel) ⟨Nat.le_of_ble_eq_true rfl, Nat.le_of_ble_eq_true rfl⟩) (zpreV zBlind_t hK hP hD [3] [] rfl (by decide) rfl (fun _ _ _ => trivial) (va_recv (q := ("ZipGuardModel", F_M, 31)) hK hP rfl (q0 := 3) (ci := 8) rfl)) rfl rfl hl.1 rfl (lv_room (Nat.le_of_ble_eq_true rfl)) d_L_law_369 ⟨Nat.le_of_ble_eq_true rfl, Nat.le_of_ble_eq_true rfl⟩) hK hP hD hS hA [3] [0, 1, 2, 4, 5] rfl rfl (by decide) (by decide) (fun u H locs hp8 hP hD hK hS => ?_)
  have hP : va_P D zcl [(qt, .inr (1, [.ref qb, .int 0])), (qb, .inl (cB, 20000, .inl (fun _ => 0))), (qd, .inr (2, [.ref qe, .int 0, .int 0, .int (-1), .ref qt])), (m_tape, .inl (cM, 20000, .inl (fun _ => 0))), (qz, .inl (cZ, 1, .inr (.inl (fun _ => 0)))), (mm, .inr (8, [.ref m_tape, .int 0, .int 0, .int (-1), .int v1, .int v2, .int 0, .ref m_methods, .ref m_packed, .ref m_sizes, .ref m_sums, .ref m_datas, .ref m_locals, .ref m_localEnds, .ref m_names, .ref m_nameSizes, .ref m_states, .ref m_starts, .ref m_counts, .ref m_written, .int 0, .int 0, .int 0, .int 0, .ref m_lengths, .ref m_small, .ref m_codes, .ref m_smallCodes, .int 0, .int 0, .int 0]))] H := hP
  have hD : va_D A [(qt, .inr (1, [.ref qb, .int 0])), (qb, .inl (cB, 20000, .inl (fun _ => 0))), (qd, .inr (2, [.ref qe, .int 0, .int 0, .int (-1), .ref qt])), (m_tape, .inl (cM, 20000, .inl (fun _ => 0))), (qz, .inl (cZ, 1, .inr (.inl (fun _ => 0)))), (mm, .inr (8, [.ref m_tape, .int 0, .int 0, .int (-1), .int v1, .int v2, .int 0, .ref m_methods, .ref m_packed, .ref m_sizes, .ref m_sums, .ref m_datas, .ref m_locals, .ref m_localEnds, .ref m_names, .ref m_nameSizes, .ref m_states, .ref m_starts, .ref m_counts, .ref m_written, .int 0, .int 0, .int 0, .int 0, .ref m_lengths, .ref m_small, .ref m_codes, .ref m_smallCodes, .int 0, .int 0, .int 0]))] := hD
  have hK : va_K D zcl [(cB, .byte), (cM, .byte), (cZ, .long)] s := hK
  refine lv_aload_n hx hb d_L_law_372 rfl (lv_at hl 3 rfl) ?_
  refine zji (wr := [(qt, .inr (1, [.ref qb, .int 0])), (qb, .inl (cB, 20000, .inl (fun _ => 0))), (qd, .inr (2, [.ref qe, .int 0, .int 0, .int (-1), .ref qt])), (m_tape, .inl (cM, 20000, .inl (fun _ => 0))), (qz, .inl (cZ, 1, .inr (.inl (fun _ => 0))))]) (va_runV (As := []) (rest := []) ⟨hx, hb, hml, hown, ht⟩ (c_M_thrown l D _ mm m_tape m_methods m_packed m_sizes m_sums m_datas m_locals m_localEnds m_names m_nameSizes m_states m_starts m_counts m_written m_lengths m_small m_codes m_smallCodes 0 0 (-1) v1 v2 0 0 0 0 0 0 0 0 ) (cwV 0 ht (zt_goodV zm_847 zm_848 zm_849 zm_79 zm_850) rfl rfl rfl (by decide +kernel) ⟨Nat.le_of_ble_eq_true rfl, Nat.le_of_ble_eq_true rfl⟩) (zpreV zBlind_t hK hP hD [5] [] rfl (by decide) rfl (fun _ _ _ => trivial) (va_recv (q := ("ZipGuardModel", F_M, 31)) hK hP rfl (q0 := 5) (ci := 8) rfl)) rfl rfl hl.1 rfl (lv_room (Nat.le_of_ble_eq_true rfl)) d_L_law_373 ⟨Nat.le_of_ble_eq_true rfl, Nat.le_of_ble_eq_true rfl⟩) hK hP hD hS hA [5] [0, 1, 2, 3, 4] rfl rfl (by decide) (by decide) (fun r9 u H locs hp10 hP hD hK hS => ?_)
  have hP : va_P D zcl [(qt, .inr (1, [.ref qb, .int 0])), (qb, .inl (cB, 20000, .inl (fun _ => 0))), (qd, .inr (2, [.ref qe, .int 0, .int 0, .int (-1), .ref qt])), (m_tape, .inl (cM, 20000, .inl (fun _ => 0))), (qz, .inl (cZ, 1, .inr (.inl (fun _ => 0)))), (mm, .inr (8, [.ref m_tape, .int 0, .int 0, .int (-1), .int v1, .int v2, .int 0, .ref m_methods, .ref m_packed, .ref m_sizes, .ref m_sums, .ref m_datas, .ref m_locals, .ref m_localEnds, .ref m_names, .ref m_nameSizes, .ref m_states, .ref m_starts, .ref m_counts, .ref m_written, .int 0, .int 0, .int 0, .int 0, .ref m_lengths, .ref m_small, .ref m_codes, .ref m_smallCodes, .int 0, .int 0, .int 0]))] H := hP
  have hD : va_D A [(qt, .inr (1, [.ref qb, .int 0])), (qb, .inl (cB, 20000, .inl (fun _ => 0))), (qd, .inr (2, [.ref qe, .int 0, .int 0, .int (-1), .ref qt])), (m_tape, .inl (cM, 20000, .inl (fun _ => 0))), (qz, .inl (cZ, 1, .inr (.inl (fun _ => 0)))), (mm, .inr (8, [.ref m_tape, .int 0, .int 0, .int (-1), .int v1, .int v2, .int 0, .ref m_methods, .ref m_packed, .ref m_sizes, .ref m_sums, .ref m_datas, .ref m_locals, .ref m_localEnds, .ref m_names, .ref m_nameSizes, .ref m_states, .ref m_starts, .ref m_counts, .ref m_written, .int 0, .int 0, .int 0, .int 0, .ref m_lengths, .ref m_small, .ref m_codes, .ref m_smallCodes, .int 0, .int 0, .int 0]))] := hD
  have hK : va_K D zcl [(cB, .byte), (cM, .byte), (cZ, .long)] s := hK
  have hp10 := hp10.symm
  subst hp10
  refine lv_iload hx hb d_L_law_376 (lv_at hl 0 rfl) ?_
  refine lv_icmp_eq (tgt := 383) hx hb d_L_law_378 (by decide) (fun _ => ?_) (fun h => absurd (rfl) h)
  refine lv_goto (tgt := 746) hx hb d_L_law_383 (by decide) ?_
  exact zl_tail hx hb hr hml hown ht hX hbl hlk hl9 hG hA hAe hS (lv_sub hl [1, 5] rfl) (Nat.le_of_ble_eq_true rfl) (Nat.le_of_ble_eq_true rfl)
set_option maxHeartbeats 4000000 in
set_option maxRecDepth 100000 in
theorem zl_5b {p : Program} {l : Launch} {e : Env} {s : State} {m : MethodId} {below : List Frame} {meth : Method} {c : Code} {b : Nat} {xs : Nat → Int32} {A : Nat → Prop} {D : va_G} {H : Heap} {locs : List Loc} {ls : Array Slot} (hx : p.tables.exec = Jvm.exec) (hb : c.code = code) (hr : meth.sig.returnType = ret) (hml : c.maxLocals = 7) (hown : s.vm.findClass "ZipGuardLaw" = some m.cls) (ht : ∀ w ∈ zt, w.before #[Value.ref b] s = true) (hX : va_X b 6 xs s s.heap) (hbl : b < s.heap.size) (hlk : meth.locks = false) (hl9 : l.stackTraces = false) (hG : zG s) (hA : ∀ q, s.heap.size ≤ q → A q) (hAe : ∀ q, A q → s.heap.size ≤ q) (h0 : Nat) (qt : Nat) (qd : Nat) (qa : Nat) (qu : Nat) (qb : Nat) (qe : Nat) (qo : Nat) (cB : ClassId) (mm : Nat) (m_tape : Nat) (m_methods : Nat) (m_packed : Nat) (m_sizes : Nat) (m_sums : Nat) (m_datas : Nat) (m_locals : Nat) (m_localEnds : Nat) (m_names : Nat) (m_nameSizes : Nat) (m_states : Nat) (m_starts : Nat) (m_counts : Nat) (m_written : Nat) (m_lengths : Nat) (m_small : Nat) (m_codes : Nat) (m_smallCodes : Nat) (cM : ClassId) (qz : Nat) (cZ : ClassId) (v1 : Int32) (v2 : Int32) (hv1 : xs (1 : Int32).toNatClampNeg = v1) (hv2 : xs (2 : Int32).toNatClampNeg = v2) (hbad : v1 < 0 ∨ 40000 < v1 ∨ v2 < 0 ∨ ¬ v2 ≤ 2000) (hK : va_K D zcl [(cB, .byte), (cM, .byte), (cZ, .long)] s) (hP : va_P D zcl [(h0, .inr (0, [.ref qt, .ref qd, .ref qa, .ref qu])), (qt, .inr (1, [.ref qb, .int 0])), (qb, .inl (cB, 20000, .inl (fun _ => 0))), (qd, .inr (2, [.ref qe, .int 0, .int 0, .int (-1), .ref qt])), (qa, .inr (3, [.int 20000, .int 100, .int 0, .ref qo, .int (-1)])), (mm, .inr (8, [.ref m_tape, .int 0, .int 0, .int (-1), .int 20000, .int 100, .int 0, .ref m_methods, .ref m_packed, .ref m_sizes, .ref m_sums, .ref m_datas, .ref m_locals, .ref m_localEnds, .ref m_names, .ref m_nameSizes, .ref m_states, .ref m_starts, .ref m_counts, .ref m_written, .int 0, .int 0, .int 0, .int 0, .ref m_lengths, .ref m_small, .ref m_codes, .ref m_smallCodes, .int 0, .int 0, .int 0])), (m_tape, .inl (cM, 20000, .inl (fun _ => 0))), (qz, .inl (cZ, 1, .inr (.inl (fun _ => 0))))] H) (hD : va_D A [(h0, .inr (0, [.ref qt, .ref qd, .ref qa, .ref qu])), (qt, .inr (1, [.ref qb, .int 0])), (qb, .inl (cB, 20000, .inl (fun _ => 0))), (qd, .inr (2, [.ref qe, .int 0, .int 0, .int (-1), .ref qt])), (qa, .inr (3, [.int 20000, .int 100, .int 0, .ref qo, .int (-1)])), (mm, .inr (8, [.ref m_tape, .int 0, .int 0, .int (-1), .int 20000, .int 100, .int 0, .ref m_methods, .ref m_packed, .ref m_sizes, .ref m_sums, .ref m_datas, .ref m_locals, .ref m_localEnds, .ref m_names, .ref m_nameSizes, .ref m_states, .ref m_starts, .ref m_counts, .ref m_written, .int 0, .int 0, .int 0, .int 0, .ref m_lengths, .ref m_small, .ref m_codes, .ref m_smallCodes, .int 0, .int 0, .int 0])), (m_tape, .inl (cM, 20000, .inl (fun _ => 0))), (qz, .inl (cZ, 1, .inr (.inl (fun _ => 0))))]) (hS : va_S A s.heap H locs) (hl : lv_has ls 7 [(4, .int 0), (3, .ref qz), (2, .ref mm), (1, .ref h0), (0, .ref b)]) : W p l e room_1 s m #[Value.ref b] below meth c H locs 178 131109 (lw_Z below #[Value.ref b] s) (F0 m 338 ls []) := by
  have hbA : ¬ A b := fun h => absurd (hAe b h) (Nat.not_le.mpr hbl)
  refine lv_aload_n hx hb d_L_law_338 rfl (lv_at hl 3 rfl) ?_
  refine lv_aload_n hx hb d_L_law_339 rfl (lv_at hl 4 rfl) ?_
  refine lv_iload hx hb d_L_law_340 (lv_at hl 0 rfl) ?_
  refine lv_iconst (v := 1) hx hb d_L_law_342 (by decide) ?_
  refine lv_iadd hx hb d_L_law_343 ?_
  refine lv_topi (fun z1 e_z1 => ?_)
  have e_z1 : z1 = 1 := e_z1.trans (by decide)
  subst e_z1
  refine va_sld hx hb hX hbl hbA hS (by unfold vp_in; decide) d_L_law_344 ?_
  rw [hv1]
  refine lv_aload_n hx hb d_L_law_345 rfl (lv_at hl 4 rfl) ?_
  refine lv_iload hx hb d_L_law_346 (lv_at hl 0 rfl) ?_
  refine lv_iconst (v := 2) hx hb d_L_law_348 (by decide) ?_
  refine lv_iadd hx hb d_L_law_349 ?_
  refine lv_topi (fun z2 e_z2 => ?_)
  have e_z2 : z2 = 2 := e_z2.trans (by decide)
  subst e_z2
  refine va_sld hx hb hX hbl hbA hS (by unfold vp_in; decide) d_L_law_350 ?_
  rw [hv2]
  refine zji (wr := [(qt, .inr (1, [.ref qb, .int 0])), (qb, .inl (cB, 20000, .inl (fun _ => 0))), (qd, .inr (2, [.ref qe, .int 0, .int 0, .int (-1), .ref qt])), (mm, .inr (8, [.ref m_tape, .int 0, .int 0, .int (-1), .int 20000, .int 100, .int 0, .ref m_methods, .ref m_packed, .ref m_sizes, .ref m_sums, .ref m_datas, .ref m_locals, .ref m_localEnds, .ref m_names, .ref m_nameSizes, .ref m_states, .ref m_starts, .ref m_counts, .ref m_written, .int 0, .int 0, .int 0, .int 0, .ref m_lengths, .ref m_small, .ref m_codes, .ref m_smallCodes, .int 0, .int 0, .int 0])), (m_tape, .inl (cM, 20000, .inl (fun _ => 0))), (qz, .inl (cZ, 1, .inr (.inl (fun _ => 0))))]) (zrunSW (n := 3) (As := [.ref h0, .int v1, .int v2]) (rest := []) ⟨hx, hb, hml, hown, ht⟩ (c_L_limX l D _ h0 qt qd qa qu qo 20000 100 0 (-1) v1 v2 hl9 hbad) zm_596 zm_597 zm_64 zm_598 rfl rfl (by decide +kernel) ⟨Nat.le_of_ble_eq_true rfl, Nat.le_of_ble_eq_true rfl⟩ (zpre zBlind_G hK hP hD [0, 4] [] rfl (by decide) rfl (fun U hU hW => zG_keep hW.alike (fun q hq => by rw [hU]; exact hS.2.1 q hq (fun h => absurd (hAe q h) (Nat.not_le.mpr hq))) hG)) rfl rfl hl.1 rfl (lv_room (Nat.le_of_ble_eq_true rfl)) d_L_law_351 ⟨Nat.le_of_ble_eq_true rfl, Nat.le_of_ble_eq_true rfl⟩) hK hP hD hS hA [0, 4] [1, 2, 3, 5, 6, 7] rfl rfl (by decide) (by decide) (fun r3 u H locs hp4 hP hD hK hS => ?_)
  have hP : va_P D zcl [(qt, .inr (1, [.ref qb, .int 0])), (qb, .inl (cB, 20000, .inl (fun _ => 0))), (qd, .inr (2, [.ref qe, .int 0, .int 0, .int (-1), .ref qt])), (mm, .inr (8, [.ref m_tape, .int 0, .int 0, .int (-1), .int 20000, .int 100, .int 0, .ref m_methods, .ref m_packed, .ref m_sizes, .ref m_sums, .ref m_datas, .ref m_locals, .ref m_localEnds, .ref m_names, .ref m_nameSizes, .ref m_states, .ref m_starts, .ref m_counts, .ref m_written, .int 0, .int 0, .int 0, .int 0, .ref m_lengths, .ref m_small, .ref m_codes, .ref m_smallCodes, .int 0, .int 0, .int 0])), (m_tape, .inl (cM, 20000, .inl (fun _ => 0))), (qz, .inl (cZ, 1, .inr (.inl (fun _ => 0))))] H := hP
  have hD : va_D A [(qt, .inr (1, [.ref qb, .int 0])), (qb, .inl (cB, 20000, .inl (fun _ => 0))), (qd, .inr (2, [.ref qe, .int 0, .int 0, .int (-1), .ref qt])), (mm, .inr (8, [.ref m_tape, .int 0, .int 0, .int (-1), .int 20000, .int 100, .int 0, .ref m_methods, .ref m_packed, .ref m_sizes, .ref m_sums, .ref m_datas, .ref m_locals, .ref m_localEnds, .ref m_names, .ref m_nameSizes, .ref m_states, .ref m_starts, .ref m_counts, .ref m_written, .int 0, .int 0, .int 0, .int 0, .ref m_lengths, .ref m_small, .ref m_codes, .ref m_smallCodes, .int 0, .int 0, .int 0])), (m_tape, .inl (cM, 20000, .inl (fun _ => 0))), (qz, .inl (cZ, 1, .inr (.inl (fun _ => 0))))] := hD
  have hK : va_K D zcl [(cB, .byte), (cM, .byte), (cZ, .long)] s := hK
  have hp4 := hp4.symm
  subst hp4
  refine lv_istore (lv' := [(5, .int 1), (4, .int 0), (3, .ref qz), (2, .ref mm), (1, .ref h0), (0, .ref b)]) hx hb d_L_law_354 hl (by decide) rfl (fun ls hl => ?_)
  refine lv_aload_n hx hb d_L_law_356 rfl (lv_at hl 3 rfl) ?_
  refine lv_aload_n hx hb d_L_law_357 rfl (lv_at hl 5 rfl) ?_
  refine lv_iload hx hb d_L_law_358 (lv_at hl 1 rfl) ?_
  refine lv_iconst (v := 1) hx hb d_L_law_360 (by decide) ?_
  refine lv_iadd hx hb d_L_law_361 ?_
  refine lv_topi (fun z5 e_z5 => ?_)
  have e_z5 : z5 = 1 := e_z5.trans (by decide)
  subst e_z5
  refine va_sld hx hb hX hbl hbA hS (by unfold vp_in; decide) d_L_law_362 ?_
  rw [hv1]
  refine lv_aload_n hx hb d_L_law_363 rfl (lv_at hl 5 rfl) ?_
  refine lv_iload hx hb d_L_law_364 (lv_at hl 1 rfl) ?_
  refine lv_iconst (v := 2) hx hb d_L_law_366 (by decide) ?_
  refine lv_iadd hx hb d_L_law_367 ?_
  refine lv_topi (fun z6 e_z6 => ?_)
  have e_z6 : z6 = 2 := e_z6.trans (by decide)
  subst e_z6
  refine va_sld hx hb hX hbl hbA hS (by unfold vp_in; decide) d_L_law_368 ?_
  rw [hv2]
  refine zjv (wr := [(qt, .inr (1, [.ref qb, .int 0])), (qb, .inl (cB, 20000, .inl (fun _ => 0))), (qd, .inr (2, [.ref qe, .int 0, .int 0, .int (-1), .ref qt])), (m_tape, .inl (cM, 20000, .inl (fun _ => 0))), (qz, .inl (cZ, 1, .inr (.inl (fun _ => 0))))]) (va_runV (As := [.int v1, .int v2]) (rest := []) ⟨hx, hb, hml, hown, ht⟩ (c_M_lim1 l D _ mm m_tape m_methods m_packed m_sizes m_sums m_datas m_locals m_localEnds m_names m_nameSizes m_states m_starts m_counts m_written m_lengths m_small m_codes m_smallCodes 0 0 (-1) 20000 100 0 0 0 0 0 0 0 0 v1 v2 hbad) (cwV 2 ht (zt_goodV zm_945 zm_946 zm_947 zm_79 zm_948) rfl rfl rfl (by decide +kernel) ⟨Nat.le_of_ble_eq_true rfl, Nat.le_of_ble_eq_true rfl⟩) (zpreV zBlind_t hK hP hD [3] [] rfl (by decide) rfl (fun _ _ _ => trivial) (va_recv (q := ("ZipGuardModel", F_M, 31)) hK hP rfl (q0 := 3) (ci := 8) rfl)) rfl rfl hl.1 rfl (lv_room (Nat.le_of_ble_eq_true rfl)) d_L_law_369 ⟨Nat.le_of_ble_eq_true rfl, Nat.le_of_ble_eq_true rfl⟩) hK hP hD hS hA [3] [0, 1, 2, 4, 5] rfl rfl (by decide) (by decide) (fun u H locs hp8 hP hD hK hS => ?_)
  have hP : va_P D zcl [(qt, .inr (1, [.ref qb, .int 0])), (qb, .inl (cB, 20000, .inl (fun _ => 0))), (qd, .inr (2, [.ref qe, .int 0, .int 0, .int (-1), .ref qt])), (m_tape, .inl (cM, 20000, .inl (fun _ => 0))), (qz, .inl (cZ, 1, .inr (.inl (fun _ => 0)))), (mm, .inr (8, [.ref m_tape, .int 0, .int 0, .int (-1), .int 20000, .int 100, .int 0, .ref m_methods, .ref m_packed, .ref m_sizes, .ref m_sums, .ref m_datas, .ref m_locals, .ref m_localEnds, .ref m_names, .ref m_nameSizes, .ref m_states, .ref m_starts, .ref m_counts, .ref m_written, .int 0, .int 0, .int 0, .int 0, .ref m_lengths, .ref m_small, .ref m_codes, .ref m_smallCodes, .int 0, .int 0, .int 1]))] H := hP
  have hD : va_D A [(qt, .inr (1, [.ref qb, .int 0])), (qb, .inl (cB, 20000, .inl (fun _ => 0))), (qd, .inr (2, [.ref qe, .int 0, .int 0, .int (-1), .ref qt])), (m_tape, .inl (cM, 20000, .inl (fun _ => 0))), (qz, .inl (cZ, 1, .inr (.inl (fun _ => 0)))), (mm, .inr (8, [.ref m_tape, .int 0, .int 0, .int (-1), .int 20000, .int 100, .int 0, .ref m_methods, .ref m_packed, .ref m_sizes, .ref m_sums, .ref m_datas, .ref m_locals, .ref m_localEnds, .ref m_names, .ref m_nameSizes, .ref m_states, .ref m_starts, .ref m_counts, .ref m_written, .int 0, .int 0, .int 0, .int 0, .ref m_lengths, .ref m_small, .ref m_codes, .ref m_smallCodes, .int 0, .int 0, .int 1]))] := hD
  have hK : va_K D zcl [(cB, .byte), (cM, .byte), (cZ, .long)] s := hK
  refine lv_aload_n hx hb d_L_law_372 rfl (lv_at hl 3 rfl) ?_
  refine zji (wr := [(qt, .inr (1, [.ref qb, .int 0])), (qb, .inl (cB, 20000, .inl (fun _ => 0))), (qd, .inr (2, [.ref qe, .int 0, .int 0, .int (-1), .ref qt])), (m_tape, .inl (cM, 20000, .inl (fun _ => 0))), (qz, .inl (cZ, 1, .inr (.inl (fun _ => 0))))]) (va_runV (As := []) (rest := []) ⟨hx, hb, hml, hown, ht⟩ (c_M_thrown l D _ mm m_tape m_methods m_packed m_sizes m_sums m_datas m_locals m_localEnds m_names m_nameSizes m_states m_starts m_counts m_written m_lengths m_small m_codes m_smallCodes 0 0 (-1) 20000 100 0 0 0 0 0 0 0 1 ) (cwV 0 ht (zt_goodV zm_847 zm_848 zm_849 zm_79 zm_850) rfl rfl rfl (by decide +kernel) ⟨Nat.le_of_ble_eq_true rfl, Nat.le_of_ble_eq_true rfl⟩) (zpreV zBlind_t hK hP hD [5] [] rfl (by decide) rfl (fun _ _ _ => trivial) (va_recv (q := ("ZipGuardModel", F_M, 31)) hK hP rfl (q0 := 5) (ci := 8) rfl)) rfl rfl hl.1 rfl (lv_room (Nat.le_of_ble_eq_true rfl)) d_L_law_373 ⟨Nat.le_of_ble_eq_true rfl, Nat.le_of_ble_eq_true rfl⟩) hK hP hD hS hA [5] [0, 1, 2, 3, 4] rfl rfl (by decide) (by decide) (fun r9 u H locs hp10 hP hD hK hS => ?_)
  have hP : va_P D zcl [(qt, .inr (1, [.ref qb, .int 0])), (qb, .inl (cB, 20000, .inl (fun _ => 0))), (qd, .inr (2, [.ref qe, .int 0, .int 0, .int (-1), .ref qt])), (m_tape, .inl (cM, 20000, .inl (fun _ => 0))), (qz, .inl (cZ, 1, .inr (.inl (fun _ => 0)))), (mm, .inr (8, [.ref m_tape, .int 0, .int 0, .int (-1), .int 20000, .int 100, .int 0, .ref m_methods, .ref m_packed, .ref m_sizes, .ref m_sums, .ref m_datas, .ref m_locals, .ref m_localEnds, .ref m_names, .ref m_nameSizes, .ref m_states, .ref m_starts, .ref m_counts, .ref m_written, .int 0, .int 0, .int 0, .int 0, .ref m_lengths, .ref m_small, .ref m_codes, .ref m_smallCodes, .int 0, .int 0, .int 1]))] H := hP
  have hD : va_D A [(qt, .inr (1, [.ref qb, .int 0])), (qb, .inl (cB, 20000, .inl (fun _ => 0))), (qd, .inr (2, [.ref qe, .int 0, .int 0, .int (-1), .ref qt])), (m_tape, .inl (cM, 20000, .inl (fun _ => 0))), (qz, .inl (cZ, 1, .inr (.inl (fun _ => 0)))), (mm, .inr (8, [.ref m_tape, .int 0, .int 0, .int (-1), .int 20000, .int 100, .int 0, .ref m_methods, .ref m_packed, .ref m_sizes, .ref m_sums, .ref m_datas, .ref m_locals, .ref m_localEnds, .ref m_names, .ref m_nameSizes, .ref m_states, .ref m_starts, .ref m_counts, .ref m_written, .int 0, .int 0, .int 0, .int 0, .ref m_lengths, .ref m_small, .ref m_codes, .ref m_smallCodes, .int 0, .int 0, .int 1]))] := hD
  have hK : va_K D zcl [(cB, .byte), (cM, .byte), (cZ, .long)] s := hK
  have hp10 := hp10.symm
  subst hp10
  refine lv_iload hx hb d_L_law_376 (lv_at hl 0 rfl) ?_
  refine lv_icmp_eq (tgt := 383) hx hb d_L_law_378 (by decide) (fun _ => ?_) (fun h => absurd (rfl) h)
  refine lv_goto (tgt := 746) hx hb d_L_law_383 (by decide) ?_
  exact zl_tail hx hb hr hml hown ht hX hbl hlk hl9 hG hA hAe hS (lv_sub hl [1, 5] rfl) (Nat.le_of_ble_eq_true rfl) (Nat.le_of_ble_eq_true rfl)
set_option maxHeartbeats 4000000 in
set_option maxRecDepth 100000 in
theorem zl_6 {p : Program} {l : Launch} {e : Env} {s : State} {m : MethodId} {below : List Frame} {meth : Method} {c : Code} {b : Nat} {xs : Nat → Int32} {A : Nat → Prop} {D : va_G} {H : Heap} {locs : List Loc} {ls : Array Slot} (hx : p.tables.exec = Jvm.exec) (hb : c.code = code) (hr : meth.sig.returnType = ret) (hml : c.maxLocals = 7) (hown : s.vm.findClass "ZipGuardLaw" = some m.cls) (ht : ∀ w ∈ zt, w.before #[Value.ref b] s = true) (hX : va_X b 6 xs s s.heap) (hbl : b < s.heap.size) (hlk : meth.locks = false) (hl9 : l.stackTraces = false) (hG : zG s) (hA : ∀ q, s.heap.size ≤ q → A q) (hAe : ∀ q, A q → s.heap.size ≤ q) (h0 : Nat) (qt : Nat) (qd : Nat) (qa : Nat) (qu : Nat) (qb : Nat) (qe : Nat) (qo : Nat) (cB : ClassId) (mm : Nat) (m_tape : Nat) (m_methods : Nat) (m_packed : Nat) (m_sizes : Nat) (m_sums : Nat) (m_datas : Nat) (m_locals : Nat) (m_localEnds : Nat) (m_names : Nat) (m_nameSizes : Nat) (m_states : Nat) (m_starts : Nat) (m_counts : Nat) (m_written : Nat) (m_lengths : Nat) (m_small : Nat) (m_codes : Nat) (m_smallCodes : Nat) (cM : ClassId) (qz : Nat) (cZ : ClassId) (v1 : Int32) (hv1 : xs (1 : Int32).toNatClampNeg = v1) (hK : va_K D zcl [(cB, .byte), (cM, .byte), (cZ, .long)] s) (hP : va_P D zcl [(h0, .inr (0, [.ref qt, .ref qd, .ref qa, .ref qu])), (qt, .inr (1, [.ref qb, .int 0])), (qb, .inl (cB, 20000, .inl (fun _ => 0))), (qd, .inr (2, [.ref qe, .int 0, .int 0, .int (-1), .ref qt])), (qa, .inr (3, [.int 20000, .int 100, .int 0, .ref qo, .int (-1)])), (mm, .inr (8, [.ref m_tape, .int 0, .int 0, .int (-1), .int 20000, .int 100, .int 0, .ref m_methods, .ref m_packed, .ref m_sizes, .ref m_sums, .ref m_datas, .ref m_locals, .ref m_localEnds, .ref m_names, .ref m_nameSizes, .ref m_states, .ref m_starts, .ref m_counts, .ref m_written, .int 0, .int 0, .int 0, .int 0, .ref m_lengths, .ref m_small, .ref m_codes, .ref m_smallCodes, .int 0, .int 0, .int 0])), (m_tape, .inl (cM, 20000, .inl (fun _ => 0))), (qz, .inl (cZ, 1, .inr (.inl (fun _ => 0))))] H) (hD : va_D A [(h0, .inr (0, [.ref qt, .ref qd, .ref qa, .ref qu])), (qt, .inr (1, [.ref qb, .int 0])), (qb, .inl (cB, 20000, .inl (fun _ => 0))), (qd, .inr (2, [.ref qe, .int 0, .int 0, .int (-1), .ref qt])), (qa, .inr (3, [.int 20000, .int 100, .int 0, .ref qo, .int (-1)])), (mm, .inr (8, [.ref m_tape, .int 0, .int 0, .int (-1), .int 20000, .int 100, .int 0, .ref m_methods, .ref m_packed, .ref m_sizes, .ref m_sums, .ref m_datas, .ref m_locals, .ref m_localEnds, .ref m_names, .ref m_nameSizes, .ref m_states, .ref m_starts, .ref m_counts, .ref m_written, .int 0, .int 0, .int 0, .int 0, .ref m_lengths, .ref m_small, .ref m_codes, .ref m_smallCodes, .int 0, .int 0, .int 0])), (m_tape, .inl (cM, 20000, .inl (fun _ => 0))), (qz, .inl (cZ, 1, .inr (.inl (fun _ => 0))))]) (hS : va_S A s.heap H locs) (hl : lv_has ls 7 [(4, .int 0), (3, .ref qz), (2, .ref mm), (1, .ref h0), (0, .ref b)]) : W p l e room_1 s m #[Value.ref b] below meth c H locs 178 131109 (lw_Z below #[Value.ref b] s) (F0 m 386 ls []) := by
  have hbA : ¬ A b := fun h => absurd (hAe b h) (Nat.not_le.mpr hbl)
  refine lv_aload_n hx hb d_L_law_386 rfl (lv_at hl 3 rfl) ?_
  refine lv_aload_n hx hb d_L_law_387 rfl (lv_at hl 4 rfl) ?_
  refine lv_iload hx hb d_L_law_388 (lv_at hl 0 rfl) ?_
  refine lv_iconst (v := 1) hx hb d_L_law_390 (by decide) ?_
  refine lv_iadd hx hb d_L_law_391 ?_
  refine lv_topi (fun z1 e_z1 => ?_)
  have e_z1 : z1 = 1 := e_z1.trans (by decide)
  subst e_z1
  refine va_sld hx hb hX hbl hbA hS (by unfold vp_in; decide) d_L_law_392 ?_
  rw [hv1]
  refine lv_aload_n hx hb d_L_law_393 rfl (lv_at hl 1 rfl) ?_
  refine zji (wr := [(qt, .inr (1, [.ref qb, .int 0])), (qb, .inl (cB, 20000, .inl (fun _ => 0))), (qa, .inr (3, [.int 20000, .int 100, .int 0, .ref qo, .int (-1)])), (mm, .inr (8, [.ref m_tape, .int 0, .int 0, .int (-1), .int 20000, .int 100, .int 0, .ref m_methods, .ref m_packed, .ref m_sizes, .ref m_sums, .ref m_datas, .ref m_locals, .ref m_localEnds, .ref m_names, .ref m_nameSizes, .ref m_states, .ref m_starts, .ref m_counts, .ref m_written, .int 0, .int 0, .int 0, .int 0, .ref m_lengths, .ref m_small, .ref m_codes, .ref m_smallCodes, .int 0, .int 0, .int 0])), (m_tape, .inl (cM, 20000, .inl (fun _ => 0)))]) (zrunSW (n := 3) (As := [.ref h0, .int v1, .ref qz]) (rest := []) ⟨hx, hb, hml, hown, ht⟩ (c_L_takeX l D _ h0 qt qd qa qu qe 0 (-1) v1 qz cZ (fun _ => 0) hl9) zm_604 zm_605 zm_64 zm_606 rfl rfl (by decide +kernel) ⟨Nat.le_of_ble_eq_true rfl, Nat.le_of_ble_eq_true rfl⟩ (zpre zBlind_G hK hP hD [0, 3, 7] [2] rfl (by decide) rfl (fun U hU hW => zG_keep hW.alike (fun q hq => by rw [hU]; exact hS.2.1 q hq (fun h => absurd (hAe q h) (Nat.not_le.mpr hq))) hG)) rfl rfl hl.1 rfl (lv_room (Nat.le_of_ble_eq_true rfl)) d_L_law_394 ⟨Nat.le_of_ble_eq_true rfl, Nat.le_of_ble_eq_true rfl⟩) hK hP hD hS hA [0, 3, 7] [1, 2, 4, 5, 6] rfl rfl (by decide) (by decide) (fun r2 u H locs hp3 hP hD hK hS => ?_)
  have hP : va_P D zcl [(qt, .inr (1, [.ref qb, .int 0])), (qb, .inl (cB, 20000, .inl (fun _ => 0))), (qa, .inr (3, [.int 20000, .int 100, .int 0, .ref qo, .int (-1)])), (mm, .inr (8, [.ref m_tape, .int 0, .int 0, .int (-1), .int 20000, .int 100, .int 0, .ref m_methods, .ref m_packed, .ref m_sizes, .ref m_sums, .ref m_datas, .ref m_locals, .ref m_localEnds, .ref m_names, .ref m_nameSizes, .ref m_states, .ref m_starts, .ref m_counts, .ref m_written, .int 0, .int 0, .int 0, .int 0, .ref m_lengths, .ref m_small, .ref m_codes, .ref m_smallCodes, .int 0, .int 0, .int 0])), (m_tape, .inl (cM, 20000, .inl (fun _ => 0))), (qz, .inl (cZ, 1, .inr (.inl (fun _ => 0))))] H := hP
  have hD : va_D A [(qt, .inr (1, [.ref qb, .int 0])), (qb, .inl (cB, 20000, .inl (fun _ => 0))), (qa, .inr (3, [.int 20000, .int 100, .int 0, .ref qo, .int (-1)])), (mm, .inr (8, [.ref m_tape, .int 0, .int 0, .int (-1), .int 20000, .int 100, .int 0, .ref m_methods, .ref m_packed, .ref m_sizes, .ref m_sums, .ref m_datas, .ref m_locals, .ref m_localEnds, .ref m_names, .ref m_nameSizes, .ref m_states, .ref m_starts, .ref m_counts, .ref m_written, .int 0, .int 0, .int 0, .int 0, .ref m_lengths, .ref m_small, .ref m_codes, .ref m_smallCodes, .int 0, .int 0, .int 0])), (m_tape, .inl (cM, 20000, .inl (fun _ => 0))), (qz, .inl (cZ, 1, .inr (.inl (fun _ => 0))))] := hD
  have hK : va_K D zcl [(cB, .byte), (cM, .byte), (cZ, .long), (cZ, .long)] s := hK
  have hp3 := hp3.symm
  subst hp3
  refine lv_istore (lv' := [(5, .int 1), (4, .int 0), (3, .ref qz), (2, .ref mm), (1, .ref h0), (0, .ref b)]) hx hb d_L_law_397 hl (by decide) rfl (fun ls hl => ?_)
  refine lv_aload_n hx hb d_L_law_399 rfl (lv_at hl 3 rfl) ?_
  refine lv_aload_n hx hb d_L_law_400 rfl (lv_at hl 5 rfl) ?_
  refine lv_iload hx hb d_L_law_401 (lv_at hl 1 rfl) ?_
  refine lv_iconst (v := 1) hx hb d_L_law_403 (by decide) ?_
  refine lv_iadd hx hb d_L_law_404 ?_
  refine lv_topi (fun z4 e_z4 => ?_)
  have e_z4 : z4 = 1 := e_z4.trans (by decide)
  subst e_z4
  refine va_sld hx hb hX hbl hbA hS (by unfold vp_in; decide) d_L_law_405 ?_
  rw [hv1]
  refine zji (wr := [(qt, .inr (1, [.ref qb, .int 0])), (qb, .inl (cB, 20000, .inl (fun _ => 0))), (qa, .inr (3, [.int 20000, .int 100, .int 0, .ref qo, .int (-1)])), (m_tape, .inl (cM, 20000, .inl (fun _ => 0))), (qz, .inl (cZ, 1, .inr (.inl (fun _ => 0))))]) (va_runV (As := [.int v1]) (rest := []) ⟨hx, hb, hml, hown, ht⟩ (c_M_take1 l D _ mm m_tape m_methods m_packed m_sizes m_sums m_datas m_locals m_localEnds m_names m_nameSizes m_states m_starts m_counts m_written m_lengths m_small m_codes m_smallCodes 0 (-1) 20000 100 0 0 0 0 0 0 0 0 v1 ) (cwV 1 ht (zt_goodV zm_949 zm_950 zm_951 zm_79 zm_952) rfl rfl rfl (by decide +kernel) ⟨Nat.le_of_ble_eq_true rfl, Nat.le_of_ble_eq_true rfl⟩) (zpreV zBlind_t hK hP hD [3] [] rfl (by decide) rfl (fun _ _ _ => trivial) (va_recv (q := ("ZipGuardModel", F_M, 31)) hK hP rfl (q0 := 3) (ci := 8) rfl)) rfl rfl hl.1 rfl (lv_room (Nat.le_of_ble_eq_true rfl)) d_L_law_406 ⟨Nat.le_of_ble_eq_true rfl, Nat.le_of_ble_eq_true rfl⟩) hK hP hD hS hA [3] [0, 1, 2, 4, 5] rfl rfl (by decide) (by decide) (fun r5 u H locs hp6 hP hD hK hS => ?_)
  have hP : va_P D zcl [(qt, .inr (1, [.ref qb, .int 0])), (qb, .inl (cB, 20000, .inl (fun _ => 0))), (qa, .inr (3, [.int 20000, .int 100, .int 0, .ref qo, .int (-1)])), (m_tape, .inl (cM, 20000, .inl (fun _ => 0))), (qz, .inl (cZ, 1, .inr (.inl (fun _ => 0)))), (mm, .inr (8, [.ref m_tape, .int 0, .int 0, .int (-1), .int 20000, .int 100, .int 0, .ref m_methods, .ref m_packed, .ref m_sizes, .ref m_sums, .ref m_datas, .ref m_locals, .ref m_localEnds, .ref m_names, .ref m_nameSizes, .ref m_states, .ref m_starts, .ref m_counts, .ref m_written, .int 0, .int 0, .int 0, .int 0, .ref m_lengths, .ref m_small, .ref m_codes, .ref m_smallCodes, .int 0, .int 0, .int 1]))] H := hP
  have hD : va_D A [(qt, .inr (1, [.ref qb, .int 0])), (qb, .inl (cB, 20000, .inl (fun _ => 0))), (qa, .inr (3, [.int 20000, .int 100, .int 0, .ref qo, .int (-1)])), (m_tape, .inl (cM, 20000, .inl (fun _ => 0))), (qz, .inl (cZ, 1, .inr (.inl (fun _ => 0)))), (mm, .inr (8, [.ref m_tape, .int 0, .int 0, .int (-1), .int 20000, .int 100, .int 0, .ref m_methods, .ref m_packed, .ref m_sizes, .ref m_sums, .ref m_datas, .ref m_locals, .ref m_localEnds, .ref m_names, .ref m_nameSizes, .ref m_states, .ref m_starts, .ref m_counts, .ref m_written, .int 0, .int 0, .int 0, .int 0, .ref m_lengths, .ref m_small, .ref m_codes, .ref m_smallCodes, .int 0, .int 0, .int 1]))] := hD
  have hK : va_K D zcl [(cB, .byte), (cM, .byte), (cZ, .long), (cZ, .long)] s := hK
  refine lv_istore (lv' := [(6, .int r5), (5, .int 1), (4, .int 0), (3, .ref qz), (2, .ref mm), (1, .ref h0), (0, .ref b)]) hx hb d_L_law_409 hl (by decide) rfl (fun ls hl => ?_)
  refine lv_aload_n hx hb d_L_law_411 rfl (lv_at hl 4 rfl) ?_
  refine zji (wr := [(qt, .inr (1, [.ref qb, .int 0])), (qb, .inl (cB, 20000, .inl (fun _ => 0))), (qa, .inr (3, [.int 20000, .int 100, .int 0, .ref qo, .int (-1)])), (m_tape, .inl (cM, 20000, .inl (fun _ => 0))), (qz, .inl (cZ, 1, .inr (.inl (fun _ => 0))))]) (va_runV (As := []) (rest := []) ⟨hx, hb, hml, hown, ht⟩ (c_M_thrown l D _ mm m_tape m_methods m_packed m_sizes m_sums m_datas m_locals m_localEnds m_names m_nameSizes m_states m_starts m_counts m_written m_lengths m_small m_codes m_smallCodes 0 0 (-1) 20000 100 0 0 0 0 0 0 0 1 ) (cwV 0 ht (zt_goodV zm_847 zm_848 zm_849 zm_79 zm_850) rfl rfl rfl (by decide +kernel) ⟨Nat.le_of_ble_eq_true rfl, Nat.le_of_ble_eq_true rfl⟩) (zpreV zBlind_t hK hP hD [5] [] rfl (by decide) rfl (fun _ _ _ => trivial) (va_recv (q := ("ZipGuardModel", F_M, 31)) hK hP rfl (q0 := 5) (ci := 8) rfl)) rfl rfl hl.1 rfl (lv_room (Nat.le_of_ble_eq_true rfl)) d_L_law_412 ⟨Nat.le_of_ble_eq_true rfl, Nat.le_of_ble_eq_true rfl⟩) hK hP hD hS hA [5] [0, 1, 2, 3, 4] rfl rfl (by decide) (by decide) (fun r7 u H locs hp8 hP hD hK hS => ?_)
  have hP : va_P D zcl [(qt, .inr (1, [.ref qb, .int 0])), (qb, .inl (cB, 20000, .inl (fun _ => 0))), (qa, .inr (3, [.int 20000, .int 100, .int 0, .ref qo, .int (-1)])), (m_tape, .inl (cM, 20000, .inl (fun _ => 0))), (qz, .inl (cZ, 1, .inr (.inl (fun _ => 0)))), (mm, .inr (8, [.ref m_tape, .int 0, .int 0, .int (-1), .int 20000, .int 100, .int 0, .ref m_methods, .ref m_packed, .ref m_sizes, .ref m_sums, .ref m_datas, .ref m_locals, .ref m_localEnds, .ref m_names, .ref m_nameSizes, .ref m_states, .ref m_starts, .ref m_counts, .ref m_written, .int 0, .int 0, .int 0, .int 0, .ref m_lengths, .ref m_small, .ref m_codes, .ref m_smallCodes, .int 0, .int 0, .int 1]))] H := hP
  have hD : va_D A [(qt, .inr (1, [.ref qb, .int 0])), (qb, .inl (cB, 20000, .inl (fun _ => 0))), (qa, .inr (3, [.int 20000, .int 100, .int 0, .ref qo, .int (-1)])), (m_tape, .inl (cM, 20000, .inl (fun _ => 0))), (qz, .inl (cZ, 1, .inr (.inl (fun _ => 0)))), (mm, .inr (8, [.ref m_tape, .int 0, .int 0, .int (-1), .int 20000, .int 100, .int 0, .ref m_methods, .ref m_packed, .ref m_sizes, .ref m_sums, .ref m_datas, .ref m_locals, .ref m_localEnds, .ref m_names, .ref m_nameSizes, .ref m_states, .ref m_starts, .ref m_counts, .ref m_written, .int 0, .int 0, .int 0, .int 0, .ref m_lengths, .ref m_small, .ref m_codes, .ref m_smallCodes, .int 0, .int 0, .int 1]))] := hD
  have hK : va_K D zcl [(cB, .byte), (cM, .byte), (cZ, .long), (cZ, .long)] s := hK
  have hp8 := hp8.symm
  subst hp8
  refine lv_iload hx hb d_L_law_415 (lv_at hl 1 rfl) ?_
  refine lv_icmp_eq (tgt := 422) hx hb d_L_law_417 (by decide) (fun _ => ?_) (fun h => absurd (rfl) h)
  refine lv_iload hx hb d_L_law_422 (lv_at hl 1 rfl) ?_
  refine lv_if_ne (tgt := 439) hx hb d_L_law_424 (by decide) (fun _ => ?_) (fun h => absurd h (by decide))
  refine lv_goto (tgt := 746) hx hb d_L_law_439 (by decide) ?_
  exact zl_tail hx hb hr hml hown ht hX hbl hlk hl9 hG hA hAe hS (lv_sub hl [2, 6] rfl) (Nat.le_of_ble_eq_true rfl) (Nat.le_of_ble_eq_true rfl)
set_option maxHeartbeats 4000000 in
set_option maxRecDepth 100000 in
theorem zl_7 {p : Program} {l : Launch} {e : Env} {s : State} {m : MethodId} {below : List Frame} {meth : Method} {c : Code} {b : Nat} {xs : Nat → Int32} {A : Nat → Prop} {D : va_G} {H : Heap} {locs : List Loc} {ls : Array Slot} (hx : p.tables.exec = Jvm.exec) (hb : c.code = code) (hr : meth.sig.returnType = ret) (hml : c.maxLocals = 7) (hown : s.vm.findClass "ZipGuardLaw" = some m.cls) (ht : ∀ w ∈ zt, w.before #[Value.ref b] s = true) (hX : va_X b 6 xs s s.heap) (hbl : b < s.heap.size) (hlk : meth.locks = false) (hl9 : l.stackTraces = false) (hG : zG s) (hA : ∀ q, s.heap.size ≤ q → A q) (hAe : ∀ q, A q → s.heap.size ≤ q) (h0 : Nat) (qt : Nat) (qd : Nat) (qa : Nat) (qu : Nat) (qb : Nat) (qe : Nat) (qo : Nat) (cB : ClassId) (mm : Nat) (m_tape : Nat) (m_methods : Nat) (m_packed : Nat) (m_sizes : Nat) (m_sums : Nat) (m_datas : Nat) (m_locals : Nat) (m_localEnds : Nat) (m_names : Nat) (m_nameSizes : Nat) (m_states : Nat) (m_starts : Nat) (m_counts : Nat) (m_written : Nat) (m_lengths : Nat) (m_small : Nat) (m_codes : Nat) (m_smallCodes : Nat) (cM : ClassId) (qz : Nat) (cZ : ClassId)  (hK : va_K D zcl [(cB, .byte), (cM, .byte), (cZ, .long)] s) (hP : va_P D zcl [(h0, .inr (0, [.ref qt, .ref qd, .ref qa, .ref qu])), (qt, .inr (1, [.ref qb, .int 0])), (qb, .inl (cB, 20000, .inl (fun _ => 0))), (qd, .inr (2, [.ref qe, .int 0, .int 0, .int (-1), .ref qt])), (qa, .inr (3, [.int 20000, .int 100, .int 0, .ref qo, .int (-1)])), (mm, .inr (8, [.ref m_tape, .int 0, .int 0, .int (-1), .int 20000, .int 100, .int 0, .ref m_methods, .ref m_packed, .ref m_sizes, .ref m_sums, .ref m_datas, .ref m_locals, .ref m_localEnds, .ref m_names, .ref m_nameSizes, .ref m_states, .ref m_starts, .ref m_counts, .ref m_written, .int 0, .int 0, .int 0, .int 0, .ref m_lengths, .ref m_small, .ref m_codes, .ref m_smallCodes, .int 0, .int 0, .int 0])), (m_tape, .inl (cM, 20000, .inl (fun _ => 0))), (qz, .inl (cZ, 1, .inr (.inl (fun _ => 0))))] H) (hD : va_D A [(h0, .inr (0, [.ref qt, .ref qd, .ref qa, .ref qu])), (qt, .inr (1, [.ref qb, .int 0])), (qb, .inl (cB, 20000, .inl (fun _ => 0))), (qd, .inr (2, [.ref qe, .int 0, .int 0, .int (-1), .ref qt])), (qa, .inr (3, [.int 20000, .int 100, .int 0, .ref qo, .int (-1)])), (mm, .inr (8, [.ref m_tape, .int 0, .int 0, .int (-1), .int 20000, .int 100, .int 0, .ref m_methods, .ref m_packed, .ref m_sizes, .ref m_sums, .ref m_datas, .ref m_locals, .ref m_localEnds, .ref m_names, .ref m_nameSizes, .ref m_states, .ref m_starts, .ref m_counts, .ref m_written, .int 0, .int 0, .int 0, .int 0, .ref m_lengths, .ref m_small, .ref m_codes, .ref m_smallCodes, .int 0, .int 0, .int 0])), (m_tape, .inl (cM, 20000, .inl (fun _ => 0))), (qz, .inl (cZ, 1, .inr (.inl (fun _ => 0))))]) (hS : va_S A s.heap H locs) (hl : lv_has ls 7 [(4, .int 0), (3, .ref qz), (2, .ref mm), (1, .ref h0), (0, .ref b)]) : W p l e room_1 s m #[Value.ref b] below meth c H locs 178 131109 (lw_Z below #[Value.ref b] s) (F0 m 442 ls []) := by
  have hbA : ¬ A b := fun h => absurd (hAe b h) (Nat.not_le.mpr hbl)
  refine lv_aload_n hx hb d_L_law_442 rfl (lv_at hl 3 rfl) ?_
  refine lv_aload_n hx hb d_L_law_443 rfl (lv_at hl 1 rfl) ?_
  refine zji (wr := [(qt, .inr (1, [.ref qb, .int 0])), (qb, .inl (cB, 20000, .inl (fun _ => 0))), (qa, .inr (3, [.int 20000, .int 100, .int 0, .ref qo, .int (-1)])), (mm, .inr (8, [.ref m_tape, .int 0, .int 0, .int (-1), .int 20000, .int 100, .int 0, .ref m_methods, .ref m_packed, .ref m_sizes, .ref m_sums, .ref m_datas, .ref m_locals, .ref m_localEnds, .ref m_names, .ref m_nameSizes, .ref m_states, .ref m_starts, .ref m_counts, .ref m_written, .int 0, .int 0, .int 0, .int 0, .ref m_lengths, .ref m_small, .ref m_codes, .ref m_smallCodes, .int 0, .int 0, .int 0])), (m_tape, .inl (cM, 20000, .inl (fun _ => 0)))]) (zrunSW (n := 2) (As := [.ref h0, .ref qz]) (rest := []) ⟨hx, hb, hml, hown, ht⟩ (c_L_taX l D _ h0 qt qd qa qu qe 0 (-1) qz cZ (fun _ => 0) hl9) zm_709 zm_710 zm_64 zm_711 rfl rfl (by decide +kernel) ⟨Nat.le_of_ble_eq_true rfl, Nat.le_of_ble_eq_true rfl⟩ (zpre zBlind_G hK hP hD [0, 3, 7] [2] rfl (by decide) rfl (fun U hU hW => zG_keep hW.alike (fun q hq => by rw [hU]; exact hS.2.1 q hq (fun h => absurd (hAe q h) (Nat.not_le.mpr hq))) hG)) rfl rfl hl.1 rfl (lv_room (Nat.le_of_ble_eq_true rfl)) d_L_law_444 ⟨Nat.le_of_ble_eq_true rfl, Nat.le_of_ble_eq_true rfl⟩) hK hP hD hS hA [0, 3, 7] [1, 2, 4, 5, 6] rfl rfl (by decide) (by decide) (fun r1 u H locs hp2 hP hD hK hS => ?_)
  have hP : va_P D zcl [(qt, .inr (1, [.ref qb, .int 0])), (qb, .inl (cB, 20000, .inl (fun _ => 0))), (qa, .inr (3, [.int 20000, .int 100, .int 0, .ref qo, .int (-1)])), (mm, .inr (8, [.ref m_tape, .int 0, .int 0, .int (-1), .int 20000, .int 100, .int 0, .ref m_methods, .ref m_packed, .ref m_sizes, .ref m_sums, .ref m_datas, .ref m_locals, .ref m_localEnds, .ref m_names, .ref m_nameSizes, .ref m_states, .ref m_starts, .ref m_counts, .ref m_written, .int 0, .int 0, .int 0, .int 0, .ref m_lengths, .ref m_small, .ref m_codes, .ref m_smallCodes, .int 0, .int 0, .int 0])), (m_tape, .inl (cM, 20000, .inl (fun _ => 0))), (qz, .inl (cZ, 1, .inr (.inl (fun _ => 0))))] H := hP
  have hD : va_D A [(qt, .inr (1, [.ref qb, .int 0])), (qb, .inl (cB, 20000, .inl (fun _ => 0))), (qa, .inr (3, [.int 20000, .int 100, .int 0, .ref qo, .int (-1)])), (mm, .inr (8, [.ref m_tape, .int 0, .int 0, .int (-1), .int 20000, .int 100, .int 0, .ref m_methods, .ref m_packed, .ref m_sizes, .ref m_sums, .ref m_datas, .ref m_locals, .ref m_localEnds, .ref m_names, .ref m_nameSizes, .ref m_states, .ref m_starts, .ref m_counts, .ref m_written, .int 0, .int 0, .int 0, .int 0, .ref m_lengths, .ref m_small, .ref m_codes, .ref m_smallCodes, .int 0, .int 0, .int 0])), (m_tape, .inl (cM, 20000, .inl (fun _ => 0))), (qz, .inl (cZ, 1, .inr (.inl (fun _ => 0))))] := hD
  have hK : va_K D zcl [(cB, .byte), (cM, .byte), (cZ, .long), (cZ, .long)] s := hK
  have hp2 := hp2.symm
  subst hp2
  refine lv_istore (lv' := [(5, .int 1), (4, .int 0), (3, .ref qz), (2, .ref mm), (1, .ref h0), (0, .ref b)]) hx hb d_L_law_447 hl (by decide) rfl (fun ls hl => ?_)
  refine lv_aload_n hx hb d_L_law_449 rfl (lv_at hl 3 rfl) ?_
  refine zji (wr := [(qt, .inr (1, [.ref qb, .int 0])), (qb, .inl (cB, 20000, .inl (fun _ => 0))), (qa, .inr (3, [.int 20000, .int 100, .int 0, .ref qo, .int (-1)])), (m_tape, .inl (cM, 20000, .inl (fun _ => 0))), (qz, .inl (cZ, 1, .inr (.inl (fun _ => 0))))]) (va_runV (As := []) (rest := []) ⟨hx, hb, hml, hown, ht⟩ (c_M_ta1 l D _ mm m_tape m_methods m_packed m_sizes m_sums m_datas m_locals m_localEnds m_names m_nameSizes m_states m_starts m_counts m_written m_lengths m_small m_codes m_smallCodes 0 (-1) 20000 100 0 0 0 0 0 0 0 0 ) (cwV 0 ht (zt_goodV zm_1013 zm_1014 zm_1015 zm_79 zm_1016) rfl rfl rfl (by decide +kernel) ⟨Nat.le_of_ble_eq_true rfl, Nat.le_of_ble_eq_true rfl⟩) (zpreV zBlind_t hK hP hD [3] [] rfl (by decide) rfl (fun _ _ _ => trivial) (va_recv (q := ("ZipGuardModel", F_M, 31)) hK hP rfl (q0 := 3) (ci := 8) rfl)) rfl rfl hl.1 rfl (lv_room (Nat.le_of_ble_eq_true rfl)) d_L_law_450 ⟨Nat.le_of_ble_eq_true rfl, Nat.le_of_ble_eq_true rfl⟩) hK hP hD hS hA [3] [0, 1, 2, 4, 5] rfl rfl (by decide) (by decide) (fun r3 u H locs hp4 hP hD hK hS => ?_)
  have hP : va_P D zcl [(qt, .inr (1, [.ref qb, .int 0])), (qb, .inl (cB, 20000, .inl (fun _ => 0))), (qa, .inr (3, [.int 20000, .int 100, .int 0, .ref qo, .int (-1)])), (m_tape, .inl (cM, 20000, .inl (fun _ => 0))), (qz, .inl (cZ, 1, .inr (.inl (fun _ => 0)))), (mm, .inr (8, [.ref m_tape, .int 0, .int 0, .int (-1), .int 20000, .int 100, .int 0, .ref m_methods, .ref m_packed, .ref m_sizes, .ref m_sums, .ref m_datas, .ref m_locals, .ref m_localEnds, .ref m_names, .ref m_nameSizes, .ref m_states, .ref m_starts, .ref m_counts, .ref m_written, .int 0, .int 0, .int 0, .int 0, .ref m_lengths, .ref m_small, .ref m_codes, .ref m_smallCodes, .int 0, .int 0, .int 1]))] H := hP
  have hD : va_D A [(qt, .inr (1, [.ref qb, .int 0])), (qb, .inl (cB, 20000, .inl (fun _ => 0))), (qa, .inr (3, [.int 20000, .int 100, .int 0, .ref qo, .int (-1)])), (m_tape, .inl (cM, 20000, .inl (fun _ => 0))), (qz, .inl (cZ, 1, .inr (.inl (fun _ => 0)))), (mm, .inr (8, [.ref m_tape, .int 0, .int 0, .int (-1), .int 20000, .int 100, .int 0, .ref m_methods, .ref m_packed, .ref m_sizes, .ref m_sums, .ref m_datas, .ref m_locals, .ref m_localEnds, .ref m_names, .ref m_nameSizes, .ref m_states, .ref m_starts, .ref m_counts, .ref m_written, .int 0, .int 0, .int 0, .int 0, .ref m_lengths, .ref m_small, .ref m_codes, .ref m_smallCodes, .int 0, .int 0, .int 1]))] := hD
  have hK : va_K D zcl [(cB, .byte), (cM, .byte), (cZ, .long), (cZ, .long)] s := hK
  refine lv_istore (lv' := [(6, .int r3), (5, .int 1), (4, .int 0), (3, .ref qz), (2, .ref mm), (1, .ref h0), (0, .ref b)]) hx hb d_L_law_453 hl (by decide) rfl (fun ls hl => ?_)
  refine lv_aload_n hx hb d_L_law_455 rfl (lv_at hl 4 rfl) ?_
  refine zji (wr := [(qt, .inr (1, [.ref qb, .int 0])), (qb, .inl (cB, 20000, .inl (fun _ => 0))), (qa, .inr (3, [.int 20000, .int 100, .int 0, .ref qo, .int (-1)])), (m_tape, .inl (cM, 20000, .inl (fun _ => 0))), (qz, .inl (cZ, 1, .inr (.inl (fun _ => 0))))]) (va_runV (As := []) (rest := []) ⟨hx, hb, hml, hown, ht⟩ (c_M_thrown l D _ mm m_tape m_methods m_packed m_sizes m_sums m_datas m_locals m_localEnds m_names m_nameSizes m_states m_starts m_counts m_written m_lengths m_small m_codes m_smallCodes 0 0 (-1) 20000 100 0 0 0 0 0 0 0 1 ) (cwV 0 ht (zt_goodV zm_847 zm_848 zm_849 zm_79 zm_850) rfl rfl rfl (by decide +kernel) ⟨Nat.le_of_ble_eq_true rfl, Nat.le_of_ble_eq_true rfl⟩) (zpreV zBlind_t hK hP hD [5] [] rfl (by decide) rfl (fun _ _ _ => trivial) (va_recv (q := ("ZipGuardModel", F_M, 31)) hK hP rfl (q0 := 5) (ci := 8) rfl)) rfl rfl hl.1 rfl (lv_room (Nat.le_of_ble_eq_true rfl)) d_L_law_456 ⟨Nat.le_of_ble_eq_true rfl, Nat.le_of_ble_eq_true rfl⟩) hK hP hD hS hA [5] [0, 1, 2, 3, 4] rfl rfl (by decide) (by decide) (fun r5 u H locs hp6 hP hD hK hS => ?_)
  have hP : va_P D zcl [(qt, .inr (1, [.ref qb, .int 0])), (qb, .inl (cB, 20000, .inl (fun _ => 0))), (qa, .inr (3, [.int 20000, .int 100, .int 0, .ref qo, .int (-1)])), (m_tape, .inl (cM, 20000, .inl (fun _ => 0))), (qz, .inl (cZ, 1, .inr (.inl (fun _ => 0)))), (mm, .inr (8, [.ref m_tape, .int 0, .int 0, .int (-1), .int 20000, .int 100, .int 0, .ref m_methods, .ref m_packed, .ref m_sizes, .ref m_sums, .ref m_datas, .ref m_locals, .ref m_localEnds, .ref m_names, .ref m_nameSizes, .ref m_states, .ref m_starts, .ref m_counts, .ref m_written, .int 0, .int 0, .int 0, .int 0, .ref m_lengths, .ref m_small, .ref m_codes, .ref m_smallCodes, .int 0, .int 0, .int 1]))] H := hP
  have hD : va_D A [(qt, .inr (1, [.ref qb, .int 0])), (qb, .inl (cB, 20000, .inl (fun _ => 0))), (qa, .inr (3, [.int 20000, .int 100, .int 0, .ref qo, .int (-1)])), (m_tape, .inl (cM, 20000, .inl (fun _ => 0))), (qz, .inl (cZ, 1, .inr (.inl (fun _ => 0)))), (mm, .inr (8, [.ref m_tape, .int 0, .int 0, .int (-1), .int 20000, .int 100, .int 0, .ref m_methods, .ref m_packed, .ref m_sizes, .ref m_sums, .ref m_datas, .ref m_locals, .ref m_localEnds, .ref m_names, .ref m_nameSizes, .ref m_states, .ref m_starts, .ref m_counts, .ref m_written, .int 0, .int 0, .int 0, .int 0, .ref m_lengths, .ref m_small, .ref m_codes, .ref m_smallCodes, .int 0, .int 0, .int 1]))] := hD
  have hK : va_K D zcl [(cB, .byte), (cM, .byte), (cZ, .long), (cZ, .long)] s := hK
  have hp6 := hp6.symm
  subst hp6
  refine lv_iload hx hb d_L_law_459 (lv_at hl 1 rfl) ?_
  refine lv_icmp_eq (tgt := 466) hx hb d_L_law_461 (by decide) (fun _ => ?_) (fun h => absurd (rfl) h)
  refine lv_iload hx hb d_L_law_466 (lv_at hl 1 rfl) ?_
  refine lv_if_ne (tgt := 483) hx hb d_L_law_468 (by decide) (fun _ => ?_) (fun h => absurd h (by decide))
  refine lv_goto (tgt := 746) hx hb d_L_law_483 (by decide) ?_
  exact zl_tail hx hb hr hml hown ht hX hbl hlk hl9 hG hA hAe hS (lv_sub hl [2, 6] rfl) (Nat.le_of_ble_eq_true rfl) (Nat.le_of_ble_eq_true rfl)
set_option maxHeartbeats 4000000 in
set_option maxRecDepth 100000 in
theorem zl_8 {p : Program} {l : Launch} {e : Env} {s : State} {m : MethodId} {below : List Frame} {meth : Method} {c : Code} {b : Nat} {xs : Nat → Int32} {A : Nat → Prop} {D : va_G} {H : Heap} {locs : List Loc} {ls : Array Slot} (hx : p.tables.exec = Jvm.exec) (hb : c.code = code) (hr : meth.sig.returnType = ret) (hml : c.maxLocals = 7) (hown : s.vm.findClass "ZipGuardLaw" = some m.cls) (ht : ∀ w ∈ zt, w.before #[Value.ref b] s = true) (hX : va_X b 6 xs s s.heap) (hbl : b < s.heap.size) (hlk : meth.locks = false) (hl9 : l.stackTraces = false) (hG : zG s) (hA : ∀ q, s.heap.size ≤ q → A q) (hAe : ∀ q, A q → s.heap.size ≤ q) (h0 : Nat) (qt : Nat) (qd : Nat) (qa : Nat) (qu : Nat) (qb : Nat) (qe : Nat) (qo : Nat) (cB : ClassId) (mm : Nat) (m_tape : Nat) (m_methods : Nat) (m_packed : Nat) (m_sizes : Nat) (m_sums : Nat) (m_datas : Nat) (m_locals : Nat) (m_localEnds : Nat) (m_names : Nat) (m_nameSizes : Nat) (m_states : Nat) (m_starts : Nat) (m_counts : Nat) (m_written : Nat) (m_lengths : Nat) (m_small : Nat) (m_codes : Nat) (m_smallCodes : Nat) (cM : ClassId) (qz : Nat) (cZ : ClassId) (v1 : Int32) (v2 : Int32) (hv1 : xs (1 : Int32).toNatClampNeg = v1) (hv2 : xs (2 : Int32).toNatClampNeg = v2) (hK : va_K D zcl [(cB, .byte), (cM, .byte), (cZ, .long)] s) (hP : va_P D zcl [(h0, .inr (0, [.ref qt, .ref qd, .ref qa, .ref qu])), (qt, .inr (1, [.ref qb, .int 0])), (qb, .inl (cB, 20000, .inl (fun _ => 0))), (qd, .inr (2, [.ref qe, .int 0, .int 0, .int (-1), .ref qt])), (qa, .inr (3, [.int 20000, .int 100, .int 0, .ref qo, .int (-1)])), (mm, .inr (8, [.ref m_tape, .int 0, .int 0, .int (-1), .int 20000, .int 100, .int 0, .ref m_methods, .ref m_packed, .ref m_sizes, .ref m_sums, .ref m_datas, .ref m_locals, .ref m_localEnds, .ref m_names, .ref m_nameSizes, .ref m_states, .ref m_starts, .ref m_counts, .ref m_written, .int 0, .int 0, .int 0, .int 0, .ref m_lengths, .ref m_small, .ref m_codes, .ref m_smallCodes, .int 0, .int 0, .int 0])), (m_tape, .inl (cM, 20000, .inl (fun _ => 0))), (qz, .inl (cZ, 1, .inr (.inl (fun _ => 0))))] H) (hD : va_D A [(h0, .inr (0, [.ref qt, .ref qd, .ref qa, .ref qu])), (qt, .inr (1, [.ref qb, .int 0])), (qb, .inl (cB, 20000, .inl (fun _ => 0))), (qd, .inr (2, [.ref qe, .int 0, .int 0, .int (-1), .ref qt])), (qa, .inr (3, [.int 20000, .int 100, .int 0, .ref qo, .int (-1)])), (mm, .inr (8, [.ref m_tape, .int 0, .int 0, .int (-1), .int 20000, .int 100, .int 0, .ref m_methods, .ref m_packed, .ref m_sizes, .ref m_sums, .ref m_datas, .ref m_locals, .ref m_localEnds, .ref m_names, .ref m_nameSizes, .ref m_states, .ref m_starts, .ref m_counts, .ref m_written, .int 0, .int 0, .int 0, .int 0, .ref m_lengths, .ref m_small, .ref m_codes, .ref m_smallCodes, .int 0, .int 0, .int 0])), (m_tape, .inl (cM, 20000, .inl (fun _ => 0))), (qz, .inl (cZ, 1, .inr (.inl (fun _ => 0))))]) (hS : va_S A s.heap H locs) (hl : lv_has ls 7 [(4, .int 0), (3, .ref qz), (2, .ref mm), (1, .ref h0), (0, .ref b)]) : W p l e room_1 s m #[Value.ref b] below meth c H locs 178 131109 (lw_Z below #[Value.ref b] s) (F0 m 486 ls []) := by
  have hbA : ¬ A b := fun h => absurd (hAe b h) (Nat.not_le.mpr hbl)
  refine lv_aload_n hx hb d_L_law_486 rfl (lv_at hl 3 rfl) ?_
  refine lv_aload_n hx hb d_L_law_487 rfl (lv_at hl 4 rfl) ?_
  refine lv_iload hx hb d_L_law_488 (lv_at hl 0 rfl) ?_
  refine lv_iconst (v := 1) hx hb d_L_law_490 (by decide) ?_
  refine lv_iadd hx hb d_L_law_491 ?_
  refine lv_topi (fun z1 e_z1 => ?_)
  have e_z1 : z1 = 1 := e_z1.trans (by decide)
  subst e_z1
  refine va_sld hx hb hX hbl hbA hS (by unfold vp_in; decide) d_L_law_492 ?_
  rw [hv1]
  refine lv_aload_n hx hb d_L_law_493 rfl (lv_at hl 4 rfl) ?_
  refine lv_iload hx hb d_L_law_494 (lv_at hl 0 rfl) ?_
  refine lv_iconst (v := 2) hx hb d_L_law_496 (by decide) ?_
  refine lv_iadd hx hb d_L_law_497 ?_
  refine lv_topi (fun z2 e_z2 => ?_)
  have e_z2 : z2 = 2 := e_z2.trans (by decide)
  subst e_z2
  refine va_sld hx hb hX hbl hbA hS (by unfold vp_in; decide) d_L_law_498 ?_
  rw [hv2]
  refine lv_aload_n hx hb d_L_law_499 rfl (lv_at hl 1 rfl) ?_
  refine zji (wr := [(qt, .inr (1, [.ref qb, .int 0])), (qb, .inl (cB, 20000, .inl (fun _ => 0))), (qa, .inr (3, [.int 20000, .int 100, .int 0, .ref qo, .int (-1)])), (mm, .inr (8, [.ref m_tape, .int 0, .int 0, .int (-1), .int 20000, .int 100, .int 0, .ref m_methods, .ref m_packed, .ref m_sizes, .ref m_sums, .ref m_datas, .ref m_locals, .ref m_localEnds, .ref m_names, .ref m_nameSizes, .ref m_states, .ref m_starts, .ref m_counts, .ref m_written, .int 0, .int 0, .int 0, .int 0, .ref m_lengths, .ref m_small, .ref m_codes, .ref m_smallCodes, .int 0, .int 0, .int 0])), (m_tape, .inl (cM, 20000, .inl (fun _ => 0)))]) (zrunSW (n := 4) (As := [.ref h0, .int v1, .int v2, .ref qz]) (rest := []) ⟨hx, hb, hml, hown, ht⟩ (c_L_entX l D _ h0 qt qd qa qu qe 0 (-1) v1 v2 qz cZ (fun _ => 0) hl9) zm_716 zm_717 zm_64 zm_718 rfl rfl (by decide +kernel) ⟨Nat.le_of_ble_eq_true rfl, Nat.le_of_ble_eq_true rfl⟩ (zpre zBlind_G hK hP hD [0, 3, 7] [2] rfl (by decide) rfl (fun U hU hW => zG_keep hW.alike (fun q hq => by rw [hU]; exact hS.2.1 q hq (fun h => absurd (hAe q h) (Nat.not_le.mpr hq))) hG)) rfl rfl hl.1 rfl (lv_room (Nat.le_of_ble_eq_true rfl)) d_L_law_500 ⟨Nat.le_of_ble_eq_true rfl, Nat.le_of_ble_eq_true rfl⟩) hK hP hD hS hA [0, 3, 7] [1, 2, 4, 5, 6] rfl rfl (by decide) (by decide) (fun r3 u H locs hp4 hP hD hK hS => ?_)
  have hP : va_P D zcl [(qt, .inr (1, [.ref qb, .int 0])), (qb, .inl (cB, 20000, .inl (fun _ => 0))), (qa, .inr (3, [.int 20000, .int 100, .int 0, .ref qo, .int (-1)])), (mm, .inr (8, [.ref m_tape, .int 0, .int 0, .int (-1), .int 20000, .int 100, .int 0, .ref m_methods, .ref m_packed, .ref m_sizes, .ref m_sums, .ref m_datas, .ref m_locals, .ref m_localEnds, .ref m_names, .ref m_nameSizes, .ref m_states, .ref m_starts, .ref m_counts, .ref m_written, .int 0, .int 0, .int 0, .int 0, .ref m_lengths, .ref m_small, .ref m_codes, .ref m_smallCodes, .int 0, .int 0, .int 0])), (m_tape, .inl (cM, 20000, .inl (fun _ => 0))), (qz, .inl (cZ, 1, .inr (.inl (fun _ => 0))))] H := hP
  have hD : va_D A [(qt, .inr (1, [.ref qb, .int 0])), (qb, .inl (cB, 20000, .inl (fun _ => 0))), (qa, .inr (3, [.int 20000, .int 100, .int 0, .ref qo, .int (-1)])), (mm, .inr (8, [.ref m_tape, .int 0, .int 0, .int (-1), .int 20000, .int 100, .int 0, .ref m_methods, .ref m_packed, .ref m_sizes, .ref m_sums, .ref m_datas, .ref m_locals, .ref m_localEnds, .ref m_names, .ref m_nameSizes, .ref m_states, .ref m_starts, .ref m_counts, .ref m_written, .int 0, .int 0, .int 0, .int 0, .ref m_lengths, .ref m_small, .ref m_codes, .ref m_smallCodes, .int 0, .int 0, .int 0])), (m_tape, .inl (cM, 20000, .inl (fun _ => 0))), (qz, .inl (cZ, 1, .inr (.inl (fun _ => 0))))] := hD
  have hK : va_K D zcl [(cB, .byte), (cM, .byte), (cZ, .long), (cZ, .long)] s := hK
  have hp4 := hp4.symm
  subst hp4
  refine lv_istore (lv' := [(5, .int 1), (4, .int 0), (3, .ref qz), (2, .ref mm), (1, .ref h0), (0, .ref b)]) hx hb d_L_law_503 hl (by decide) rfl (fun ls hl => ?_)
  refine lv_aload_n hx hb d_L_law_505 rfl (lv_at hl 3 rfl) ?_
  refine lv_aload_n hx hb d_L_law_506 rfl (lv_at hl 5 rfl) ?_
  refine lv_iload hx hb d_L_law_507 (lv_at hl 1 rfl) ?_
  refine lv_iconst (v := 1) hx hb d_L_law_509 (by decide) ?_
  refine lv_iadd hx hb d_L_law_510 ?_
  refine lv_topi (fun z5 e_z5 => ?_)
  have e_z5 : z5 = 1 := e_z5.trans (by decide)
  subst e_z5
  refine va_sld hx hb hX hbl hbA hS (by unfold vp_in; decide) d_L_law_511 ?_
  rw [hv1]
  refine lv_aload_n hx hb d_L_law_512 rfl (lv_at hl 5 rfl) ?_
  refine lv_iload hx hb d_L_law_513 (lv_at hl 1 rfl) ?_
  refine lv_iconst (v := 2) hx hb d_L_law_515 (by decide) ?_
  refine lv_iadd hx hb d_L_law_516 ?_
  refine lv_topi (fun z6 e_z6 => ?_)
  have e_z6 : z6 = 2 := e_z6.trans (by decide)
  subst e_z6
  refine va_sld hx hb hX hbl hbA hS (by unfold vp_in; decide) d_L_law_517 ?_
  rw [hv2]
  refine zji (wr := [(qt, .inr (1, [.ref qb, .int 0])), (qb, .inl (cB, 20000, .inl (fun _ => 0))), (qa, .inr (3, [.int 20000, .int 100, .int 0, .ref qo, .int (-1)])), (m_tape, .inl (cM, 20000, .inl (fun _ => 0))), (qz, .inl (cZ, 1, .inr (.inl (fun _ => 0))))]) (va_runV (As := [.int v1, .int v2]) (rest := []) ⟨hx, hb, hml, hown, ht⟩ (c_M_ent1 l D _ mm m_tape m_methods m_packed m_sizes m_sums m_datas m_locals m_localEnds m_names m_nameSizes m_states m_starts m_counts m_written m_lengths m_small m_codes m_smallCodes 0 (-1) 20000 100 0 0 0 0 0 0 0 0 v1 v2 ) (cwV 2 ht (zt_goodV zm_1017 zm_1018 zm_1019 zm_79 zm_1020) rfl rfl rfl (by decide +kernel) ⟨Nat.le_of_ble_eq_true rfl, Nat.le_of_ble_eq_true rfl⟩) (zpreV zBlind_t hK hP hD [3] [] rfl (by decide) rfl (fun _ _ _ => trivial) (va_recv (q := ("ZipGuardModel", F_M, 31)) hK hP rfl (q0 := 3) (ci := 8) rfl)) rfl rfl hl.1 rfl (lv_room (Nat.le_of_ble_eq_true rfl)) d_L_law_518 ⟨Nat.le_of_ble_eq_true rfl, Nat.le_of_ble_eq_true rfl⟩) hK hP hD hS hA [3] [0, 1, 2, 4, 5] rfl rfl (by decide) (by decide) (fun r7 u H locs hp8 hP hD hK hS => ?_)
  have hP : va_P D zcl [(qt, .inr (1, [.ref qb, .int 0])), (qb, .inl (cB, 20000, .inl (fun _ => 0))), (qa, .inr (3, [.int 20000, .int 100, .int 0, .ref qo, .int (-1)])), (m_tape, .inl (cM, 20000, .inl (fun _ => 0))), (qz, .inl (cZ, 1, .inr (.inl (fun _ => 0)))), (mm, .inr (8, [.ref m_tape, .int 0, .int 0, .int (-1), .int 20000, .int 100, .int 0, .ref m_methods, .ref m_packed, .ref m_sizes, .ref m_sums, .ref m_datas, .ref m_locals, .ref m_localEnds, .ref m_names, .ref m_nameSizes, .ref m_states, .ref m_starts, .ref m_counts, .ref m_written, .int 0, .int 0, .int 0, .int 0, .ref m_lengths, .ref m_small, .ref m_codes, .ref m_smallCodes, .int 0, .int 0, .int 1]))] H := hP
  have hD : va_D A [(qt, .inr (1, [.ref qb, .int 0])), (qb, .inl (cB, 20000, .inl (fun _ => 0))), (qa, .inr (3, [.int 20000, .int 100, .int 0, .ref qo, .int (-1)])), (m_tape, .inl (cM, 20000, .inl (fun _ => 0))), (qz, .inl (cZ, 1, .inr (.inl (fun _ => 0)))), (mm, .inr (8, [.ref m_tape, .int 0, .int 0, .int (-1), .int 20000, .int 100, .int 0, .ref m_methods, .ref m_packed, .ref m_sizes, .ref m_sums, .ref m_datas, .ref m_locals, .ref m_localEnds, .ref m_names, .ref m_nameSizes, .ref m_states, .ref m_starts, .ref m_counts, .ref m_written, .int 0, .int 0, .int 0, .int 0, .ref m_lengths, .ref m_small, .ref m_codes, .ref m_smallCodes, .int 0, .int 0, .int 1]))] := hD
  have hK : va_K D zcl [(cB, .byte), (cM, .byte), (cZ, .long), (cZ, .long)] s := hK
  refine lv_istore (lv' := [(6, .int r7), (5, .int 1), (4, .int 0), (3, .ref qz), (2, .ref mm), (1, .ref h0), (0, .ref b)]) hx hb d_L_law_521 hl (by decide) rfl (fun ls hl => ?_)
  refine lv_aload_n hx hb d_L_law_523 rfl (lv_at hl 4 rfl) ?_
  refine zji (wr := [(qt, .inr (1, [.ref qb, .int 0])), (qb, .inl (cB, 20000, .inl (fun _ => 0))), (qa, .inr (3, [.int 20000, .int 100, .int 0, .ref qo, .int (-1)])), (m_tape, .inl (cM, 20000, .inl (fun _ => 0))), (qz, .inl (cZ, 1, .inr (.inl (fun _ => 0))))]) (va_runV (As := []) (rest := []) ⟨hx, hb, hml, hown, ht⟩ (c_M_thrown l D _ mm m_tape m_methods m_packed m_sizes m_sums m_datas m_locals m_localEnds m_names m_nameSizes m_states m_starts m_counts m_written m_lengths m_small m_codes m_smallCodes 0 0 (-1) 20000 100 0 0 0 0 0 0 0 1 ) (cwV 0 ht (zt_goodV zm_847 zm_848 zm_849 zm_79 zm_850) rfl rfl rfl (by decide +kernel) ⟨Nat.le_of_ble_eq_true rfl, Nat.le_of_ble_eq_true rfl⟩) (zpreV zBlind_t hK hP hD [5] [] rfl (by decide) rfl (fun _ _ _ => trivial) (va_recv (q := ("ZipGuardModel", F_M, 31)) hK hP rfl (q0 := 5) (ci := 8) rfl)) rfl rfl hl.1 rfl (lv_room (Nat.le_of_ble_eq_true rfl)) d_L_law_524 ⟨Nat.le_of_ble_eq_true rfl, Nat.le_of_ble_eq_true rfl⟩) hK hP hD hS hA [5] [0, 1, 2, 3, 4] rfl rfl (by decide) (by decide) (fun r9 u H locs hp10 hP hD hK hS => ?_)
  have hP : va_P D zcl [(qt, .inr (1, [.ref qb, .int 0])), (qb, .inl (cB, 20000, .inl (fun _ => 0))), (qa, .inr (3, [.int 20000, .int 100, .int 0, .ref qo, .int (-1)])), (m_tape, .inl (cM, 20000, .inl (fun _ => 0))), (qz, .inl (cZ, 1, .inr (.inl (fun _ => 0)))), (mm, .inr (8, [.ref m_tape, .int 0, .int 0, .int (-1), .int 20000, .int 100, .int 0, .ref m_methods, .ref m_packed, .ref m_sizes, .ref m_sums, .ref m_datas, .ref m_locals, .ref m_localEnds, .ref m_names, .ref m_nameSizes, .ref m_states, .ref m_starts, .ref m_counts, .ref m_written, .int 0, .int 0, .int 0, .int 0, .ref m_lengths, .ref m_small, .ref m_codes, .ref m_smallCodes, .int 0, .int 0, .int 1]))] H := hP
  have hD : va_D A [(qt, .inr (1, [.ref qb, .int 0])), (qb, .inl (cB, 20000, .inl (fun _ => 0))), (qa, .inr (3, [.int 20000, .int 100, .int 0, .ref qo, .int (-1)])), (m_tape, .inl (cM, 20000, .inl (fun _ => 0))), (qz, .inl (cZ, 1, .inr (.inl (fun _ => 0)))), (mm, .inr (8, [.ref m_tape, .int 0, .int 0, .int (-1), .int 20000, .int 100, .int 0, .ref m_methods, .ref m_packed, .ref m_sizes, .ref m_sums, .ref m_datas, .ref m_locals, .ref m_localEnds, .ref m_names, .ref m_nameSizes, .ref m_states, .ref m_starts, .ref m_counts, .ref m_written, .int 0, .int 0, .int 0, .int 0, .ref m_lengths, .ref m_small, .ref m_codes, .ref m_smallCodes, .int 0, .int 0, .int 1]))] := hD
  have hK : va_K D zcl [(cB, .byte), (cM, .byte), (cZ, .long), (cZ, .long)] s := hK
  have hp10 := hp10.symm
  subst hp10
  refine lv_iload hx hb d_L_law_527 (lv_at hl 1 rfl) ?_
  refine lv_icmp_eq (tgt := 534) hx hb d_L_law_529 (by decide) (fun _ => ?_) (fun h => absurd (rfl) h)
  refine lv_iload hx hb d_L_law_534 (lv_at hl 1 rfl) ?_
  refine lv_if_ne (tgt := 551) hx hb d_L_law_536 (by decide) (fun _ => ?_) (fun h => absurd h (by decide))
  refine lv_goto (tgt := 746) hx hb d_L_law_551 (by decide) ?_
  exact zl_tail hx hb hr hml hown ht hX hbl hlk hl9 hG hA hAe hS (lv_sub hl [2, 6] rfl) (Nat.le_of_ble_eq_true rfl) (Nat.le_of_ble_eq_true rfl)
set_option maxHeartbeats 4000000 in
set_option maxRecDepth 100000 in
theorem zl_9 {p : Program} {l : Launch} {e : Env} {s : State} {m : MethodId} {below : List Frame} {meth : Method} {c : Code} {b : Nat} {xs : Nat → Int32} {A : Nat → Prop} {D : va_G} {H : Heap} {locs : List Loc} {ls : Array Slot} (hx : p.tables.exec = Jvm.exec) (hb : c.code = code) (hr : meth.sig.returnType = ret) (hml : c.maxLocals = 7) (hown : s.vm.findClass "ZipGuardLaw" = some m.cls) (ht : ∀ w ∈ zt, w.before #[Value.ref b] s = true) (hX : va_X b 6 xs s s.heap) (hbl : b < s.heap.size) (hlk : meth.locks = false) (hl9 : l.stackTraces = false) (hG : zG s) (hA : ∀ q, s.heap.size ≤ q → A q) (hAe : ∀ q, A q → s.heap.size ≤ q) (h0 : Nat) (qt : Nat) (qd : Nat) (qa : Nat) (qu : Nat) (qb : Nat) (qe : Nat) (qo : Nat) (cB : ClassId) (mm : Nat) (m_tape : Nat) (m_methods : Nat) (m_packed : Nat) (m_sizes : Nat) (m_sums : Nat) (m_datas : Nat) (m_locals : Nat) (m_localEnds : Nat) (m_names : Nat) (m_nameSizes : Nat) (m_states : Nat) (m_starts : Nat) (m_counts : Nat) (m_written : Nat) (m_lengths : Nat) (m_small : Nat) (m_codes : Nat) (m_smallCodes : Nat) (cM : ClassId) (qz : Nat) (cZ : ClassId) (v1 : Int32) (v2 : Int32) (hv1 : xs (1 : Int32).toNatClampNeg = v1) (hv2 : xs (2 : Int32).toNatClampNeg = v2) (hK : va_K D zcl [(cB, .byte), (cM, .byte), (cZ, .long)] s) (hP : va_P D zcl [(h0, .inr (0, [.ref qt, .ref qd, .ref qa, .ref qu])), (qt, .inr (1, [.ref qb, .int 0])), (qb, .inl (cB, 20000, .inl (fun _ => 0))), (qd, .inr (2, [.ref qe, .int 0, .int 0, .int (-1), .ref qt])), (qa, .inr (3, [.int 20000, .int 100, .int 0, .ref qo, .int (-1)])), (mm, .inr (8, [.ref m_tape, .int 0, .int 0, .int (-1), .int 20000, .int 100, .int 0, .ref m_methods, .ref m_packed, .ref m_sizes, .ref m_sums, .ref m_datas, .ref m_locals, .ref m_localEnds, .ref m_names, .ref m_nameSizes, .ref m_states, .ref m_starts, .ref m_counts, .ref m_written, .int 0, .int 0, .int 0, .int 0, .ref m_lengths, .ref m_small, .ref m_codes, .ref m_smallCodes, .int 0, .int 0, .int 0])), (m_tape, .inl (cM, 20000, .inl (fun _ => 0))), (qz, .inl (cZ, 1, .inr (.inl (fun _ => 0))))] H) (hD : va_D A [(h0, .inr (0, [.ref qt, .ref qd, .ref qa, .ref qu])), (qt, .inr (1, [.ref qb, .int 0])), (qb, .inl (cB, 20000, .inl (fun _ => 0))), (qd, .inr (2, [.ref qe, .int 0, .int 0, .int (-1), .ref qt])), (qa, .inr (3, [.int 20000, .int 100, .int 0, .ref qo, .int (-1)])), (mm, .inr (8, [.ref m_tape, .int 0, .int 0, .int (-1), .int 20000, .int 100, .int 0, .ref m_methods, .ref m_packed, .ref m_sizes, .ref m_sums, .ref m_datas, .ref m_locals, .ref m_localEnds, .ref m_names, .ref m_nameSizes, .ref m_states, .ref m_starts, .ref m_counts, .ref m_written, .int 0, .int 0, .int 0, .int 0, .ref m_lengths, .ref m_small, .ref m_codes, .ref m_smallCodes, .int 0, .int 0, .int 0])), (m_tape, .inl (cM, 20000, .inl (fun _ => 0))), (qz, .inl (cZ, 1, .inr (.inl (fun _ => 0))))]) (hS : va_S A s.heap H locs) (hl : lv_has ls 7 [(4, .int 0), (3, .ref qz), (2, .ref mm), (1, .ref h0), (0, .ref b)]) : W p l e room_1 s m #[Value.ref b] below meth c H locs 178 131109 (lw_Z below #[Value.ref b] s) (F0 m 554 ls []) := by
  have hbA : ¬ A b := fun h => absurd (hAe b h) (Nat.not_le.mpr hbl)
  refine lv_aload_n hx hb d_L_law_554 rfl (lv_at hl 3 rfl) ?_
  refine lv_aload_n hx hb d_L_law_555 rfl (lv_at hl 4 rfl) ?_
  refine lv_iload hx hb d_L_law_556 (lv_at hl 0 rfl) ?_
  refine lv_iconst (v := 1) hx hb d_L_law_558 (by decide) ?_
  refine lv_iadd hx hb d_L_law_559 ?_
  refine lv_topi (fun z1 e_z1 => ?_)
  have e_z1 : z1 = 1 := e_z1.trans (by decide)
  subst e_z1
  refine va_sld hx hb hX hbl hbA hS (by unfold vp_in; decide) d_L_law_560 ?_
  rw [hv1]
  refine lv_aload_n hx hb d_L_law_561 rfl (lv_at hl 4 rfl) ?_
  refine lv_iload hx hb d_L_law_562 (lv_at hl 0 rfl) ?_
  refine lv_iconst (v := 2) hx hb d_L_law_564 (by decide) ?_
  refine lv_iadd hx hb d_L_law_565 ?_
  refine lv_topi (fun z2 e_z2 => ?_)
  have e_z2 : z2 = 2 := e_z2.trans (by decide)
  subst e_z2
  refine va_sld hx hb hX hbl hbA hS (by unfold vp_in; decide) d_L_law_566 ?_
  rw [hv2]
  refine lv_aload_n hx hb d_L_law_567 rfl (lv_at hl 1 rfl) ?_
  refine zji (wr := [(qt, .inr (1, [.ref qb, .int 0])), (qb, .inl (cB, 20000, .inl (fun _ => 0))), (qa, .inr (3, [.int 20000, .int 100, .int 0, .ref qo, .int (-1)])), (mm, .inr (8, [.ref m_tape, .int 0, .int 0, .int (-1), .int 20000, .int 100, .int 0, .ref m_methods, .ref m_packed, .ref m_sizes, .ref m_sums, .ref m_datas, .ref m_locals, .ref m_localEnds, .ref m_names, .ref m_nameSizes, .ref m_states, .ref m_starts, .ref m_counts, .ref m_written, .int 0, .int 0, .int 0, .int 0, .ref m_lengths, .ref m_small, .ref m_codes, .ref m_smallCodes, .int 0, .int 0, .int 0])), (m_tape, .inl (cM, 20000, .inl (fun _ => 0)))]) (zrunSW (n := 4) (As := [.ref h0, .int v1, .int v2, .ref qz]) (rest := []) ⟨hx, hb, hml, hown, ht⟩ (c_L_namX l D _ h0 qt qd qa qu qe 0 (-1) v1 v2 qz cZ (fun _ => 0) hl9) zm_723 zm_724 zm_64 zm_725 rfl rfl (by decide +kernel) ⟨Nat.le_of_ble_eq_true rfl, Nat.le_of_ble_eq_true rfl⟩ (zpre zBlind_G hK hP hD [0, 3, 7] [2] rfl (by decide) rfl (fun U hU hW => zG_keep hW.alike (fun q hq => by rw [hU]; exact hS.2.1 q hq (fun h => absurd (hAe q h) (Nat.not_le.mpr hq))) hG)) rfl rfl hl.1 rfl (lv_room (Nat.le_of_ble_eq_true rfl)) d_L_law_568 ⟨Nat.le_of_ble_eq_true rfl, Nat.le_of_ble_eq_true rfl⟩) hK hP hD hS hA [0, 3, 7] [1, 2, 4, 5, 6] rfl rfl (by decide) (by decide) (fun r3 u H locs hp4 hP hD hK hS => ?_)
  have hP : va_P D zcl [(qt, .inr (1, [.ref qb, .int 0])), (qb, .inl (cB, 20000, .inl (fun _ => 0))), (qa, .inr (3, [.int 20000, .int 100, .int 0, .ref qo, .int (-1)])), (mm, .inr (8, [.ref m_tape, .int 0, .int 0, .int (-1), .int 20000, .int 100, .int 0, .ref m_methods, .ref m_packed, .ref m_sizes, .ref m_sums, .ref m_datas, .ref m_locals, .ref m_localEnds, .ref m_names, .ref m_nameSizes, .ref m_states, .ref m_starts, .ref m_counts, .ref m_written, .int 0, .int 0, .int 0, .int 0, .ref m_lengths, .ref m_small, .ref m_codes, .ref m_smallCodes, .int 0, .int 0, .int 0])), (m_tape, .inl (cM, 20000, .inl (fun _ => 0))), (qz, .inl (cZ, 1, .inr (.inl (fun _ => 0))))] H := hP
  have hD : va_D A [(qt, .inr (1, [.ref qb, .int 0])), (qb, .inl (cB, 20000, .inl (fun _ => 0))), (qa, .inr (3, [.int 20000, .int 100, .int 0, .ref qo, .int (-1)])), (mm, .inr (8, [.ref m_tape, .int 0, .int 0, .int (-1), .int 20000, .int 100, .int 0, .ref m_methods, .ref m_packed, .ref m_sizes, .ref m_sums, .ref m_datas, .ref m_locals, .ref m_localEnds, .ref m_names, .ref m_nameSizes, .ref m_states, .ref m_starts, .ref m_counts, .ref m_written, .int 0, .int 0, .int 0, .int 0, .ref m_lengths, .ref m_small, .ref m_codes, .ref m_smallCodes, .int 0, .int 0, .int 0])), (m_tape, .inl (cM, 20000, .inl (fun _ => 0))), (qz, .inl (cZ, 1, .inr (.inl (fun _ => 0))))] := hD
  have hK : va_K D zcl [(cB, .byte), (cM, .byte), (cZ, .long), (cZ, .long)] s := hK
  have hp4 := hp4.symm
  subst hp4
  refine lv_istore (lv' := [(5, .int 1), (4, .int 0), (3, .ref qz), (2, .ref mm), (1, .ref h0), (0, .ref b)]) hx hb d_L_law_571 hl (by decide) rfl (fun ls hl => ?_)
  refine lv_aload_n hx hb d_L_law_573 rfl (lv_at hl 3 rfl) ?_
  refine lv_aload_n hx hb d_L_law_574 rfl (lv_at hl 5 rfl) ?_
  refine lv_iload hx hb d_L_law_575 (lv_at hl 1 rfl) ?_
  refine lv_iconst (v := 1) hx hb d_L_law_577 (by decide) ?_
  refine lv_iadd hx hb d_L_law_578 ?_
  refine lv_topi (fun z5 e_z5 => ?_)
  have e_z5 : z5 = 1 := e_z5.trans (by decide)
  subst e_z5
  refine va_sld hx hb hX hbl hbA hS (by unfold vp_in; decide) d_L_law_579 ?_
  rw [hv1]
  refine lv_aload_n hx hb d_L_law_580 rfl (lv_at hl 5 rfl) ?_
  refine lv_iload hx hb d_L_law_581 (lv_at hl 1 rfl) ?_
  refine lv_iconst (v := 2) hx hb d_L_law_583 (by decide) ?_
  refine lv_iadd hx hb d_L_law_584 ?_
  refine lv_topi (fun z6 e_z6 => ?_)
  have e_z6 : z6 = 2 := e_z6.trans (by decide)
  subst e_z6
  refine va_sld hx hb hX hbl hbA hS (by unfold vp_in; decide) d_L_law_585 ?_
  rw [hv2]
  refine zji (wr := [(qt, .inr (1, [.ref qb, .int 0])), (qb, .inl (cB, 20000, .inl (fun _ => 0))), (qa, .inr (3, [.int 20000, .int 100, .int 0, .ref qo, .int (-1)])), (m_tape, .inl (cM, 20000, .inl (fun _ => 0))), (qz, .inl (cZ, 1, .inr (.inl (fun _ => 0))))]) (va_runV (As := [.int v1, .int v2]) (rest := []) ⟨hx, hb, hml, hown, ht⟩ (c_M_nam1 l D _ mm m_tape m_methods m_packed m_sizes m_sums m_datas m_locals m_localEnds m_names m_nameSizes m_states m_starts m_counts m_written m_lengths m_small m_codes m_smallCodes 0 (-1) 20000 100 0 0 0 0 0 0 0 0 v1 v2 ) (cwV 2 ht (zt_goodV zm_1021 zm_1022 zm_1023 zm_79 zm_1024) rfl rfl rfl (by decide +kernel) ⟨Nat.le_of_ble_eq_true rfl, Nat.le_of_ble_eq_true rfl⟩) (zpreV zBlind_t hK hP hD [3] [] rfl (by decide) rfl (fun _ _ _ => trivial) (va_recv (q := ("ZipGuardModel", F_M, 31)) hK hP rfl (q0 := 3) (ci := 8) rfl)) rfl rfl hl.1 rfl (lv_room (Nat.le_of_ble_eq_true rfl)) d_L_law_586 ⟨Nat.le_of_ble_eq_true rfl, Nat.le_of_ble_eq_true rfl⟩) hK hP hD hS hA [3] [0, 1, 2, 4, 5] rfl rfl (by decide) (by decide) (fun r7 u H locs hp8 hP hD hK hS => ?_)
  have hP : va_P D zcl [(qt, .inr (1, [.ref qb, .int 0])), (qb, .inl (cB, 20000, .inl (fun _ => 0))), (qa, .inr (3, [.int 20000, .int 100, .int 0, .ref qo, .int (-1)])), (m_tape, .inl (cM, 20000, .inl (fun _ => 0))), (qz, .inl (cZ, 1, .inr (.inl (fun _ => 0)))), (mm, .inr (8, [.ref m_tape, .int 0, .int 0, .int (-1), .int 20000, .int 100, .int 0, .ref m_methods, .ref m_packed, .ref m_sizes, .ref m_sums, .ref m_datas, .ref m_locals, .ref m_localEnds, .ref m_names, .ref m_nameSizes, .ref m_states, .ref m_starts, .ref m_counts, .ref m_written, .int 0, .int 0, .int 0, .int 0, .ref m_lengths, .ref m_small, .ref m_codes, .ref m_smallCodes, .int 0, .int 0, .int 1]))] H := hP
  have hD : va_D A [(qt, .inr (1, [.ref qb, .int 0])), (qb, .inl (cB, 20000, .inl (fun _ => 0))), (qa, .inr (3, [.int 20000, .int 100, .int 0, .ref qo, .int (-1)])), (m_tape, .inl (cM, 20000, .inl (fun _ => 0))), (qz, .inl (cZ, 1, .inr (.inl (fun _ => 0)))), (mm, .inr (8, [.ref m_tape, .int 0, .int 0, .int (-1), .int 20000, .int 100, .int 0, .ref m_methods, .ref m_packed, .ref m_sizes, .ref m_sums, .ref m_datas, .ref m_locals, .ref m_localEnds, .ref m_names, .ref m_nameSizes, .ref m_states, .ref m_starts, .ref m_counts, .ref m_written, .int 0, .int 0, .int 0, .int 0, .ref m_lengths, .ref m_small, .ref m_codes, .ref m_smallCodes, .int 0, .int 0, .int 1]))] := hD
  have hK : va_K D zcl [(cB, .byte), (cM, .byte), (cZ, .long), (cZ, .long)] s := hK
  refine lv_istore (lv' := [(6, .int r7), (5, .int 1), (4, .int 0), (3, .ref qz), (2, .ref mm), (1, .ref h0), (0, .ref b)]) hx hb d_L_law_589 hl (by decide) rfl (fun ls hl => ?_)
  refine lv_aload_n hx hb d_L_law_591 rfl (lv_at hl 4 rfl) ?_
  refine zji (wr := [(qt, .inr (1, [.ref qb, .int 0])), (qb, .inl (cB, 20000, .inl (fun _ => 0))), (qa, .inr (3, [.int 20000, .int 100, .int 0, .ref qo, .int (-1)])), (m_tape, .inl (cM, 20000, .inl (fun _ => 0))), (qz, .inl (cZ, 1, .inr (.inl (fun _ => 0))))]) (va_runV (As := []) (rest := []) ⟨hx, hb, hml, hown, ht⟩ (c_M_thrown l D _ mm m_tape m_methods m_packed m_sizes m_sums m_datas m_locals m_localEnds m_names m_nameSizes m_states m_starts m_counts m_written m_lengths m_small m_codes m_smallCodes 0 0 (-1) 20000 100 0 0 0 0 0 0 0 1 ) (cwV 0 ht (zt_goodV zm_847 zm_848 zm_849 zm_79 zm_850) rfl rfl rfl (by decide +kernel) ⟨Nat.le_of_ble_eq_true rfl, Nat.le_of_ble_eq_true rfl⟩) (zpreV zBlind_t hK hP hD [5] [] rfl (by decide) rfl (fun _ _ _ => trivial) (va_recv (q := ("ZipGuardModel", F_M, 31)) hK hP rfl (q0 := 5) (ci := 8) rfl)) rfl rfl hl.1 rfl (lv_room (Nat.le_of_ble_eq_true rfl)) d_L_law_592 ⟨Nat.le_of_ble_eq_true rfl, Nat.le_of_ble_eq_true rfl⟩) hK hP hD hS hA [5] [0, 1, 2, 3, 4] rfl rfl (by decide) (by decide) (fun r9 u H locs hp10 hP hD hK hS => ?_)
  have hP : va_P D zcl [(qt, .inr (1, [.ref qb, .int 0])), (qb, .inl (cB, 20000, .inl (fun _ => 0))), (qa, .inr (3, [.int 20000, .int 100, .int 0, .ref qo, .int (-1)])), (m_tape, .inl (cM, 20000, .inl (fun _ => 0))), (qz, .inl (cZ, 1, .inr (.inl (fun _ => 0)))), (mm, .inr (8, [.ref m_tape, .int 0, .int 0, .int (-1), .int 20000, .int 100, .int 0, .ref m_methods, .ref m_packed, .ref m_sizes, .ref m_sums, .ref m_datas, .ref m_locals, .ref m_localEnds, .ref m_names, .ref m_nameSizes, .ref m_states, .ref m_starts, .ref m_counts, .ref m_written, .int 0, .int 0, .int 0, .int 0, .ref m_lengths, .ref m_small, .ref m_codes, .ref m_smallCodes, .int 0, .int 0, .int 1]))] H := hP
  have hD : va_D A [(qt, .inr (1, [.ref qb, .int 0])), (qb, .inl (cB, 20000, .inl (fun _ => 0))), (qa, .inr (3, [.int 20000, .int 100, .int 0, .ref qo, .int (-1)])), (m_tape, .inl (cM, 20000, .inl (fun _ => 0))), (qz, .inl (cZ, 1, .inr (.inl (fun _ => 0)))), (mm, .inr (8, [.ref m_tape, .int 0, .int 0, .int (-1), .int 20000, .int 100, .int 0, .ref m_methods, .ref m_packed, .ref m_sizes, .ref m_sums, .ref m_datas, .ref m_locals, .ref m_localEnds, .ref m_names, .ref m_nameSizes, .ref m_states, .ref m_starts, .ref m_counts, .ref m_written, .int 0, .int 0, .int 0, .int 0, .ref m_lengths, .ref m_small, .ref m_codes, .ref m_smallCodes, .int 0, .int 0, .int 1]))] := hD
  have hK : va_K D zcl [(cB, .byte), (cM, .byte), (cZ, .long), (cZ, .long)] s := hK
  have hp10 := hp10.symm
  subst hp10
  refine lv_iload hx hb d_L_law_595 (lv_at hl 1 rfl) ?_
  refine lv_icmp_eq (tgt := 602) hx hb d_L_law_597 (by decide) (fun _ => ?_) (fun h => absurd (rfl) h)
  refine lv_iload hx hb d_L_law_602 (lv_at hl 1 rfl) ?_
  refine lv_if_ne (tgt := 619) hx hb d_L_law_604 (by decide) (fun _ => ?_) (fun h => absurd h (by decide))
  refine lv_goto (tgt := 746) hx hb d_L_law_619 (by decide) ?_
  exact zl_tail hx hb hr hml hown ht hX hbl hlk hl9 hG hA hAe hS (lv_sub hl [2, 6] rfl) (Nat.le_of_ble_eq_true rfl) (Nat.le_of_ble_eq_true rfl)
set_option maxHeartbeats 4000000 in
set_option maxRecDepth 100000 in
theorem zl_10 {p : Program} {l : Launch} {e : Env} {s : State} {m : MethodId} {below : List Frame} {meth : Method} {c : Code} {b : Nat} {xs : Nat → Int32} {A : Nat → Prop} {D : va_G} {H : Heap} {locs : List Loc} {ls : Array Slot} (hx : p.tables.exec = Jvm.exec) (hb : c.code = code) (hr : meth.sig.returnType = ret) (hml : c.maxLocals = 7) (hown : s.vm.findClass "ZipGuardLaw" = some m.cls) (ht : ∀ w ∈ zt, w.before #[Value.ref b] s = true) (hX : va_X b 6 xs s s.heap) (hbl : b < s.heap.size) (hlk : meth.locks = false) (hl9 : l.stackTraces = false) (hG : zG s) (hA : ∀ q, s.heap.size ≤ q → A q) (hAe : ∀ q, A q → s.heap.size ≤ q) (h0 : Nat) (qt : Nat) (qd : Nat) (qa : Nat) (qu : Nat) (qb : Nat) (qe : Nat) (qo : Nat) (cB : ClassId) (mm : Nat) (m_tape : Nat) (m_methods : Nat) (m_packed : Nat) (m_sizes : Nat) (m_sums : Nat) (m_datas : Nat) (m_locals : Nat) (m_localEnds : Nat) (m_names : Nat) (m_nameSizes : Nat) (m_states : Nat) (m_starts : Nat) (m_counts : Nat) (m_written : Nat) (m_lengths : Nat) (m_small : Nat) (m_codes : Nat) (m_smallCodes : Nat) (cM : ClassId) (qz : Nat) (cZ : ClassId) (v1 : Int32) (v2 : Int32) (hv1 : xs (1 : Int32).toNatClampNeg = v1) (hv2 : xs (2 : Int32).toNatClampNeg = v2) (hK : va_K D zcl [(cB, .byte), (cM, .byte), (cZ, .long)] s) (hP : va_P D zcl [(h0, .inr (0, [.ref qt, .ref qd, .ref qa, .ref qu])), (qt, .inr (1, [.ref qb, .int 0])), (qb, .inl (cB, 20000, .inl (fun _ => 0))), (qd, .inr (2, [.ref qe, .int 0, .int 0, .int (-1), .ref qt])), (qa, .inr (3, [.int 20000, .int 100, .int 0, .ref qo, .int (-1)])), (mm, .inr (8, [.ref m_tape, .int 0, .int 0, .int (-1), .int 20000, .int 100, .int 0, .ref m_methods, .ref m_packed, .ref m_sizes, .ref m_sums, .ref m_datas, .ref m_locals, .ref m_localEnds, .ref m_names, .ref m_nameSizes, .ref m_states, .ref m_starts, .ref m_counts, .ref m_written, .int 0, .int 0, .int 0, .int 0, .ref m_lengths, .ref m_small, .ref m_codes, .ref m_smallCodes, .int 0, .int 0, .int 0])), (m_tape, .inl (cM, 20000, .inl (fun _ => 0))), (qz, .inl (cZ, 1, .inr (.inl (fun _ => 0))))] H) (hD : va_D A [(h0, .inr (0, [.ref qt, .ref qd, .ref qa, .ref qu])), (qt, .inr (1, [.ref qb, .int 0])), (qb, .inl (cB, 20000, .inl (fun _ => 0))), (qd, .inr (2, [.ref qe, .int 0, .int 0, .int (-1), .ref qt])), (qa, .inr (3, [.int 20000, .int 100, .int 0, .ref qo, .int (-1)])), (mm, .inr (8, [.ref m_tape, .int 0, .int 0, .int (-1), .int 20000, .int 100, .int 0, .ref m_methods, .ref m_packed, .ref m_sizes, .ref m_sums, .ref m_datas, .ref m_locals, .ref m_localEnds, .ref m_names, .ref m_nameSizes, .ref m_states, .ref m_starts, .ref m_counts, .ref m_written, .int 0, .int 0, .int 0, .int 0, .ref m_lengths, .ref m_small, .ref m_codes, .ref m_smallCodes, .int 0, .int 0, .int 0])), (m_tape, .inl (cM, 20000, .inl (fun _ => 0))), (qz, .inl (cZ, 1, .inr (.inl (fun _ => 0))))]) (hS : va_S A s.heap H locs) (hl : lv_has ls 7 [(4, .int 0), (3, .ref qz), (2, .ref mm), (1, .ref h0), (0, .ref b)]) : W p l e room_1 s m #[Value.ref b] below meth c H locs 178 131109 (lw_Z below #[Value.ref b] s) (F0 m 622 ls []) := by
  have hbA : ¬ A b := fun h => absurd (hAe b h) (Nat.not_le.mpr hbl)
  refine lv_aload_n hx hb d_L_law_622 rfl (lv_at hl 3 rfl) ?_
  refine lv_aload_n hx hb d_L_law_623 rfl (lv_at hl 4 rfl) ?_
  refine lv_iload hx hb d_L_law_624 (lv_at hl 0 rfl) ?_
  refine lv_iconst (v := 1) hx hb d_L_law_626 (by decide) ?_
  refine lv_iadd hx hb d_L_law_627 ?_
  refine lv_topi (fun z1 e_z1 => ?_)
  have e_z1 : z1 = 1 := e_z1.trans (by decide)
  subst e_z1
  refine va_sld hx hb hX hbl hbA hS (by unfold vp_in; decide) d_L_law_628 ?_
  rw [hv1]
  refine lv_aload_n hx hb d_L_law_629 rfl (lv_at hl 4 rfl) ?_
  refine lv_iload hx hb d_L_law_630 (lv_at hl 0 rfl) ?_
  refine lv_iconst (v := 2) hx hb d_L_law_632 (by decide) ?_
  refine lv_iadd hx hb d_L_law_633 ?_
  refine lv_topi (fun z2 e_z2 => ?_)
  have e_z2 : z2 = 2 := e_z2.trans (by decide)
  subst e_z2
  refine va_sld hx hb hX hbl hbA hS (by unfold vp_in; decide) d_L_law_634 ?_
  rw [hv2]
  refine lv_aload_n hx hb d_L_law_635 rfl (lv_at hl 1 rfl) ?_
  refine zji (wr := [(qt, .inr (1, [.ref qb, .int 0])), (qb, .inl (cB, 20000, .inl (fun _ => 0))), (qa, .inr (3, [.int 20000, .int 100, .int 0, .ref qo, .int (-1)])), (mm, .inr (8, [.ref m_tape, .int 0, .int 0, .int (-1), .int 20000, .int 100, .int 0, .ref m_methods, .ref m_packed, .ref m_sizes, .ref m_sums, .ref m_datas, .ref m_locals, .ref m_localEnds, .ref m_names, .ref m_nameSizes, .ref m_states, .ref m_starts, .ref m_counts, .ref m_written, .int 0, .int 0, .int 0, .int 0, .ref m_lengths, .ref m_small, .ref m_codes, .ref m_smallCodes, .int 0, .int 0, .int 0])), (m_tape, .inl (cM, 20000, .inl (fun _ => 0)))]) (zrunSW (n := 4) (As := [.ref h0, .int v1, .int v2, .ref qz]) (rest := []) ⟨hx, hb, hml, hown, ht⟩ (c_L_wriX l D _ h0 qt qd qa qu qe 0 (-1) v1 v2 qz cZ (fun _ => 0) hl9) zm_730 zm_731 zm_64 zm_732 rfl rfl (by decide +kernel) ⟨Nat.le_of_ble_eq_true rfl, Nat.le_of_ble_eq_true rfl⟩ (zpre zBlind_G hK hP hD [0, 3, 7] [2] rfl (by decide) rfl (fun U hU hW => zG_keep hW.alike (fun q hq => by rw [hU]; exact hS.2.1 q hq (fun h => absurd (hAe q h) (Nat.not_le.mpr hq))) hG)) rfl rfl hl.1 rfl (lv_room (Nat.le_of_ble_eq_true rfl)) d_L_law_636 ⟨Nat.le_of_ble_eq_true rfl, Nat.le_of_ble_eq_true rfl⟩) hK hP hD hS hA [0, 3, 7] [1, 2, 4, 5, 6] rfl rfl (by decide) (by decide) (fun r3 u H locs hp4 hP hD hK hS => ?_)
  have hP : va_P D zcl [(qt, .inr (1, [.ref qb, .int 0])), (qb, .inl (cB, 20000, .inl (fun _ => 0))), (qa, .inr (3, [.int 20000, .int 100, .int 0, .ref qo, .int (-1)])), (mm, .inr (8, [.ref m_tape, .int 0, .int 0, .int (-1), .int 20000, .int 100, .int 0, .ref m_methods, .ref m_packed, .ref m_sizes, .ref m_sums, .ref m_datas, .ref m_locals, .ref m_localEnds, .ref m_names, .ref m_nameSizes, .ref m_states, .ref m_starts, .ref m_counts, .ref m_written, .int 0, .int 0, .int 0, .int 0, .ref m_lengths, .ref m_small, .ref m_codes, .ref m_smallCodes, .int 0, .int 0, .int 0])), (m_tape, .inl (cM, 20000, .inl (fun _ => 0))), (qz, .inl (cZ, 1, .inr (.inl (fun _ => 0))))] H := hP
  have hD : va_D A [(qt, .inr (1, [.ref qb, .int 0])), (qb, .inl (cB, 20000, .inl (fun _ => 0))), (qa, .inr (3, [.int 20000, .int 100, .int 0, .ref qo, .int (-1)])), (mm, .inr (8, [.ref m_tape, .int 0, .int 0, .int (-1), .int 20000, .int 100, .int 0, .ref m_methods, .ref m_packed, .ref m_sizes, .ref m_sums, .ref m_datas, .ref m_locals, .ref m_localEnds, .ref m_names, .ref m_nameSizes, .ref m_states, .ref m_starts, .ref m_counts, .ref m_written, .int 0, .int 0, .int 0, .int 0, .ref m_lengths, .ref m_small, .ref m_codes, .ref m_smallCodes, .int 0, .int 0, .int 0])), (m_tape, .inl (cM, 20000, .inl (fun _ => 0))), (qz, .inl (cZ, 1, .inr (.inl (fun _ => 0))))] := hD
  have hK : va_K D zcl [(cB, .byte), (cM, .byte), (cZ, .long), (cZ, .long)] s := hK
  have hp4 := hp4.symm
  subst hp4
  refine lv_istore (lv' := [(5, .int 1), (4, .int 0), (3, .ref qz), (2, .ref mm), (1, .ref h0), (0, .ref b)]) hx hb d_L_law_639 hl (by decide) rfl (fun ls hl => ?_)
  refine lv_aload_n hx hb d_L_law_641 rfl (lv_at hl 3 rfl) ?_
  refine lv_aload_n hx hb d_L_law_642 rfl (lv_at hl 5 rfl) ?_
  refine lv_iload hx hb d_L_law_643 (lv_at hl 1 rfl) ?_
  refine lv_iconst (v := 1) hx hb d_L_law_645 (by decide) ?_
  refine lv_iadd hx hb d_L_law_646 ?_
  refine lv_topi (fun z5 e_z5 => ?_)
  have e_z5 : z5 = 1 := e_z5.trans (by decide)
  subst e_z5
  refine va_sld hx hb hX hbl hbA hS (by unfold vp_in; decide) d_L_law_647 ?_
  rw [hv1]
  refine lv_aload_n hx hb d_L_law_648 rfl (lv_at hl 5 rfl) ?_
  refine lv_iload hx hb d_L_law_649 (lv_at hl 1 rfl) ?_
  refine lv_iconst (v := 2) hx hb d_L_law_651 (by decide) ?_
  refine lv_iadd hx hb d_L_law_652 ?_
  refine lv_topi (fun z6 e_z6 => ?_)
  have e_z6 : z6 = 2 := e_z6.trans (by decide)
  subst e_z6
  refine va_sld hx hb hX hbl hbA hS (by unfold vp_in; decide) d_L_law_653 ?_
  rw [hv2]
  refine zji (wr := [(qt, .inr (1, [.ref qb, .int 0])), (qb, .inl (cB, 20000, .inl (fun _ => 0))), (qa, .inr (3, [.int 20000, .int 100, .int 0, .ref qo, .int (-1)])), (m_tape, .inl (cM, 20000, .inl (fun _ => 0))), (qz, .inl (cZ, 1, .inr (.inl (fun _ => 0))))]) (va_runV (As := [.int v1, .int v2]) (rest := []) ⟨hx, hb, hml, hown, ht⟩ (c_M_wri1 l D _ mm m_tape m_methods m_packed m_sizes m_sums m_datas m_locals m_localEnds m_names m_nameSizes m_states m_starts m_counts m_written m_lengths m_small m_codes m_smallCodes 0 (-1) 20000 100 0 0 0 0 0 0 0 0 v1 v2 ) (cwV 2 ht (zt_goodV zm_1025 zm_1026 zm_1027 zm_79 zm_1028) rfl rfl rfl (by decide +kernel) ⟨Nat.le_of_ble_eq_true rfl, Nat.le_of_ble_eq_true rfl⟩) (zpreV zBlind_t hK hP hD [3] [] rfl (by decide) rfl (fun _ _ _ => trivial) (va_recv (q := ("ZipGuardModel", F_M, 31)) hK hP rfl (q0 := 3) (ci := 8) rfl)) rfl rfl hl.1 rfl (lv_room (Nat.le_of_ble_eq_true rfl)) d_L_law_654 ⟨Nat.le_of_ble_eq_true rfl, Nat.le_of_ble_eq_true rfl⟩) hK hP hD hS hA [3] [0, 1, 2, 4, 5] rfl rfl (by decide) (by decide) (fun r7 u H locs hp8 hP hD hK hS => ?_)
  have hP : va_P D zcl [(qt, .inr (1, [.ref qb, .int 0])), (qb, .inl (cB, 20000, .inl (fun _ => 0))), (qa, .inr (3, [.int 20000, .int 100, .int 0, .ref qo, .int (-1)])), (m_tape, .inl (cM, 20000, .inl (fun _ => 0))), (qz, .inl (cZ, 1, .inr (.inl (fun _ => 0)))), (mm, .inr (8, [.ref m_tape, .int 0, .int 0, .int (-1), .int 20000, .int 100, .int 0, .ref m_methods, .ref m_packed, .ref m_sizes, .ref m_sums, .ref m_datas, .ref m_locals, .ref m_localEnds, .ref m_names, .ref m_nameSizes, .ref m_states, .ref m_starts, .ref m_counts, .ref m_written, .int 0, .int 0, .int 0, .int 0, .ref m_lengths, .ref m_small, .ref m_codes, .ref m_smallCodes, .int 0, .int 0, .int 1]))] H := hP
  have hD : va_D A [(qt, .inr (1, [.ref qb, .int 0])), (qb, .inl (cB, 20000, .inl (fun _ => 0))), (qa, .inr (3, [.int 20000, .int 100, .int 0, .ref qo, .int (-1)])), (m_tape, .inl (cM, 20000, .inl (fun _ => 0))), (qz, .inl (cZ, 1, .inr (.inl (fun _ => 0)))), (mm, .inr (8, [.ref m_tape, .int 0, .int 0, .int (-1), .int 20000, .int 100, .int 0, .ref m_methods, .ref m_packed, .ref m_sizes, .ref m_sums, .ref m_datas, .ref m_locals, .ref m_localEnds, .ref m_names, .ref m_nameSizes, .ref m_states, .ref m_starts, .ref m_counts, .ref m_written, .int 0, .int 0, .int 0, .int 0, .ref m_lengths, .ref m_small, .ref m_codes, .ref m_smallCodes, .int 0, .int 0, .int 1]))] := hD
  have hK : va_K D zcl [(cB, .byte), (cM, .byte), (cZ, .long), (cZ, .long)] s := hK
  refine lv_istore (lv' := [(6, .int r7), (5, .int 1), (4, .int 0), (3, .ref qz), (2, .ref mm), (1, .ref h0), (0, .ref b)]) hx hb d_L_law_657 hl (by decide) rfl (fun ls hl => ?_)
  refine lv_aload_n hx hb d_L_law_659 rfl (lv_at hl 4 rfl) ?_
  refine zji (wr := [(qt, .inr (1, [.ref qb, .int 0])), (qb, .inl (cB, 20000, .inl (fun _ => 0))), (qa, .inr (3, [.int 20000, .int 100, .int 0, .ref qo, .int (-1)])), (m_tape, .inl (cM, 20000, .inl (fun _ => 0))), (qz, .inl (cZ, 1, .inr (.inl (fun _ => 0))))]) (va_runV (As := []) (rest := []) ⟨hx, hb, hml, hown, ht⟩ (c_M_thrown l D _ mm m_tape m_methods m_packed m_sizes m_sums m_datas m_locals m_localEnds m_names m_nameSizes m_states m_starts m_counts m_written m_lengths m_small m_codes m_smallCodes 0 0 (-1) 20000 100 0 0 0 0 0 0 0 1 ) (cwV 0 ht (zt_goodV zm_847 zm_848 zm_849 zm_79 zm_850) rfl rfl rfl (by decide +kernel) ⟨Nat.le_of_ble_eq_true rfl, Nat.le_of_ble_eq_true rfl⟩) (zpreV zBlind_t hK hP hD [5] [] rfl (by decide) rfl (fun _ _ _ => trivial) (va_recv (q := ("ZipGuardModel", F_M, 31)) hK hP rfl (q0 := 5) (ci := 8) rfl)) rfl rfl hl.1 rfl (lv_room (Nat.le_of_ble_eq_true rfl)) d_L_law_660 ⟨Nat.le_of_ble_eq_true rfl, Nat.le_of_ble_eq_true rfl⟩) hK hP hD hS hA [5] [0, 1, 2, 3, 4] rfl rfl (by decide) (by decide) (fun r9 u H locs hp10 hP hD hK hS => ?_)
  have hP : va_P D zcl [(qt, .inr (1, [.ref qb, .int 0])), (qb, .inl (cB, 20000, .inl (fun _ => 0))), (qa, .inr (3, [.int 20000, .int 100, .int 0, .ref qo, .int (-1)])), (m_tape, .inl (cM, 20000, .inl (fun _ => 0))), (qz, .inl (cZ, 1, .inr (.inl (fun _ => 0)))), (mm, .inr (8, [.ref m_tape, .int 0, .int 0, .int (-1), .int 20000, .int 100, .int 0, .ref m_methods, .ref m_packed, .ref m_sizes, .ref m_sums, .ref m_datas, .ref m_locals, .ref m_localEnds, .ref m_names, .ref m_nameSizes, .ref m_states, .ref m_starts, .ref m_counts, .ref m_written, .int 0, .int 0, .int 0, .int 0, .ref m_lengths, .ref m_small, .ref m_codes, .ref m_smallCodes, .int 0, .int 0, .int 1]))] H := hP
  have hD : va_D A [(qt, .inr (1, [.ref qb, .int 0])), (qb, .inl (cB, 20000, .inl (fun _ => 0))), (qa, .inr (3, [.int 20000, .int 100, .int 0, .ref qo, .int (-1)])), (m_tape, .inl (cM, 20000, .inl (fun _ => 0))), (qz, .inl (cZ, 1, .inr (.inl (fun _ => 0)))), (mm, .inr (8, [.ref m_tape, .int 0, .int 0, .int (-1), .int 20000, .int 100, .int 0, .ref m_methods, .ref m_packed, .ref m_sizes, .ref m_sums, .ref m_datas, .ref m_locals, .ref m_localEnds, .ref m_names, .ref m_nameSizes, .ref m_states, .ref m_starts, .ref m_counts, .ref m_written, .int 0, .int 0, .int 0, .int 0, .ref m_lengths, .ref m_small, .ref m_codes, .ref m_smallCodes, .int 0, .int 0, .int 1]))] := hD
  have hK : va_K D zcl [(cB, .byte), (cM, .byte), (cZ, .long), (cZ, .long)] s := hK
  have hp10 := hp10.symm
  subst hp10
  refine lv_iload hx hb d_L_law_663 (lv_at hl 1 rfl) ?_
  refine lv_icmp_eq (tgt := 670) hx hb d_L_law_665 (by decide) (fun _ => ?_) (fun h => absurd (rfl) h)
  refine lv_iload hx hb d_L_law_670 (lv_at hl 1 rfl) ?_
  refine lv_if_ne (tgt := 687) hx hb d_L_law_672 (by decide) (fun _ => ?_) (fun h => absurd h (by decide))
  refine lv_goto (tgt := 746) hx hb d_L_law_687 (by decide) ?_
  exact zl_tail hx hb hr hml hown ht hX hbl hlk hl9 hG hA hAe hS (lv_sub hl [2, 6] rfl) (Nat.le_of_ble_eq_true rfl) (Nat.le_of_ble_eq_true rfl)
set_option maxHeartbeats 4000000 in
set_option maxRecDepth 100000 in
theorem zl_11_0 {p : Program} {l : Launch} {e : Env} {s : State} {m : MethodId} {below : List Frame} {meth : Method} {c : Code} {b : Nat} {xs : Nat → Int32} {A : Nat → Prop} {D : va_G} {H : Heap} {locs : List Loc} {ls : Array Slot} (hx : p.tables.exec = Jvm.exec) (hb : c.code = code) (hr : meth.sig.returnType = ret) (hml : c.maxLocals = 7) (hown : s.vm.findClass "ZipGuardLaw" = some m.cls) (ht : ∀ w ∈ zt, w.before #[Value.ref b] s = true) (hX : va_X b 6 xs s s.heap) (hbl : b < s.heap.size) (hlk : meth.locks = false) (hl9 : l.stackTraces = false) (hG : zG s) (hA : ∀ q, s.heap.size ≤ q → A q) (hAe : ∀ q, A q → s.heap.size ≤ q) (h0 : Nat) (qt : Nat) (qd : Nat) (qa : Nat) (qu : Nat) (qb : Nat) (qe : Nat) (qo : Nat) (cB : ClassId) (mm : Nat) (m_tape : Nat) (m_methods : Nat) (m_packed : Nat) (m_sizes : Nat) (m_sums : Nat) (m_datas : Nat) (m_locals : Nat) (m_localEnds : Nat) (m_names : Nat) (m_nameSizes : Nat) (m_states : Nat) (m_starts : Nat) (m_counts : Nat) (m_written : Nat) (m_lengths : Nat) (m_small : Nat) (m_codes : Nat) (m_smallCodes : Nat) (cM : ClassId) (qz : Nat) (cZ : ClassId) (hv1 : xs (1 : Int32).toNatClampNeg = 0) (hK : va_K D zcl [(cB, .byte), (cM, .byte), (cZ, .long)] s) (hP : va_P D zcl [(h0, .inr (0, [.ref qt, .ref qd, .ref qa, .ref qu])), (qt, .inr (1, [.ref qb, .int 0])), (qb, .inl (cB, 20000, .inl (fun _ => 0))), (qd, .inr (2, [.ref qe, .int 0, .int 0, .int (-1), .ref qt])), (qa, .inr (3, [.int 20000, .int 100, .int 0, .ref qo, .int (-1)])), (mm, .inr (8, [.ref m_tape, .int 0, .int 0, .int (-1), .int 20000, .int 100, .int 0, .ref m_methods, .ref m_packed, .ref m_sizes, .ref m_sums, .ref m_datas, .ref m_locals, .ref m_localEnds, .ref m_names, .ref m_nameSizes, .ref m_states, .ref m_starts, .ref m_counts, .ref m_written, .int 0, .int 0, .int 0, .int 0, .ref m_lengths, .ref m_small, .ref m_codes, .ref m_smallCodes, .int 0, .int 0, .int 0])), (m_tape, .inl (cM, 20000, .inl (fun _ => 0))), (qz, .inl (cZ, 1, .inr (.inl (fun _ => 0))))] H) (hD : va_D A [(h0, .inr (0, [.ref qt, .ref qd, .ref qa, .ref qu])), (qt, .inr (1, [.ref qb, .int 0])), (qb, .inl (cB, 20000, .inl (fun _ => 0))), (qd, .inr (2, [.ref qe, .int 0, .int 0, .int (-1), .ref qt])), (qa, .inr (3, [.int 20000, .int 100, .int 0, .ref qo, .int (-1)])), (mm, .inr (8, [.ref m_tape, .int 0, .int 0, .int (-1), .int 20000, .int 100, .int 0, .ref m_methods, .ref m_packed, .ref m_sizes, .ref m_sums, .ref m_datas, .ref m_locals, .ref m_localEnds, .ref m_names, .ref m_nameSizes, .ref m_states, .ref m_starts, .ref m_counts, .ref m_written, .int 0, .int 0, .int 0, .int 0, .ref m_lengths, .ref m_small, .ref m_codes, .ref m_smallCodes, .int 0, .int 0, .int 0])), (m_tape, .inl (cM, 20000, .inl (fun _ => 0))), (qz, .inl (cZ, 1, .inr (.inl (fun _ => 0))))]) (hS : va_S A s.heap H locs) (hl : lv_has ls 7 [(4, .int 0), (3, .ref qz), (2, .ref mm), (1, .ref h0), (0, .ref b)]) : W p l e room_1 s m #[Value.ref b] below meth c H locs 178 131109 (lw_Z below #[Value.ref b] s) (F0 m 690 ls []) := by
  have hbA : ¬ A b := fun h => absurd (hAe b h) (Nat.not_le.mpr hbl)
  refine lv_aload_n hx hb d_L_law_690 rfl (lv_at hl 3 rfl) ?_
  refine lv_aload_n hx hb d_L_law_691 rfl (lv_at hl 4 rfl) ?_
  refine lv_iload hx hb d_L_law_692 (lv_at hl 0 rfl) ?_
  refine lv_iconst (v := 1) hx hb d_L_law_694 (by decide) ?_
  refine lv_iadd hx hb d_L_law_695 ?_
  refine lv_topi (fun z1 e_z1 => ?_)
  have e_z1 : z1 = 1 := e_z1.trans (by decide)
  subst e_z1
  refine va_sld hx hb hX hbl hbA hS (by unfold vp_in; decide) d_L_law_696 ?_
  rw [hv1]
  refine lv_aload_n hx hb d_L_law_697 rfl (lv_at hl 1 rfl) ?_
  refine zji (wr := [(qb, .inl (cB, 20000, .inl (fun _ => 0))), (mm, .inr (8, [.ref m_tape, .int 0, .int 0, .int (-1), .int 20000, .int 100, .int 0, .ref m_methods, .ref m_packed, .ref m_sizes, .ref m_sums, .ref m_datas, .ref m_locals, .ref m_localEnds, .ref m_names, .ref m_nameSizes, .ref m_states, .ref m_starts, .ref m_counts, .ref m_written, .int 0, .int 0, .int 0, .int 0, .ref m_lengths, .ref m_small, .ref m_codes, .ref m_smallCodes, .int 0, .int 0, .int 0])), (m_tape, .inl (cM, 20000, .inl (fun _ => 0)))]) (zrunSW (n := 3) (As := [.ref h0, .int 0, .ref qz]) (rest := []) ⟨hx, hb, hml, hown, ht⟩ (c_L_ab0 l D _ h0 qt qd qa qu qb qe qo 0 0 (-1) 20000 100 0 (-1) qz cZ (fun _ => 0) ) zm_738 zm_739 zm_64 zm_740 rfl rfl (by decide +kernel) ⟨Nat.le_of_ble_eq_true rfl, Nat.le_of_ble_eq_true rfl⟩ (zpre zBlind_t hK hP hD [0, 1, 3, 4, 7] [2] rfl (by decide) rfl (fun _ _ _ => trivial)) rfl rfl hl.1 rfl (lv_room (Nat.le_of_ble_eq_true rfl)) d_L_law_698 ⟨Nat.le_of_ble_eq_true rfl, Nat.le_of_ble_eq_true rfl⟩) hK hP hD hS hA [0, 1, 3, 4, 7] [2, 5, 6] rfl rfl (by decide) (by decide) (fun r2 u H locs hp3 hP hD hK hS => ?_)
  have hP : va_P D zcl [(qb, .inl (cB, 20000, .inl (fun _ => 0))), (mm, .inr (8, [.ref m_tape, .int 0, .int 0, .int (-1), .int 20000, .int 100, .int 0, .ref m_methods, .ref m_packed, .ref m_sizes, .ref m_sums, .ref m_datas, .ref m_locals, .ref m_localEnds, .ref m_names, .ref m_nameSizes, .ref m_states, .ref m_starts, .ref m_counts, .ref m_written, .int 0, .int 0, .int 0, .int 0, .ref m_lengths, .ref m_small, .ref m_codes, .ref m_smallCodes, .int 0, .int 0, .int 0])), (m_tape, .inl (cM, 20000, .inl (fun _ => 0))), (qz, .inl (cZ, 1, .inr (.inl (vp_updL (fun _ => 0) (0 : Int32).toNatClampNeg (0 : Int32).toInt64))))] H := hP
  have hD : va_D A [(qb, .inl (cB, 20000, .inl (fun _ => 0))), (mm, .inr (8, [.ref m_tape, .int 0, .int 0, .int (-1), .int 20000, .int 100, .int 0, .ref m_methods, .ref m_packed, .ref m_sizes, .ref m_sums, .ref m_datas, .ref m_locals, .ref m_localEnds, .ref m_names, .ref m_nameSizes, .ref m_states, .ref m_starts, .ref m_counts, .ref m_written, .int 0, .int 0, .int 0, .int 0, .ref m_lengths, .ref m_small, .ref m_codes, .ref m_smallCodes, .int 0, .int 0, .int 0])), (m_tape, .inl (cM, 20000, .inl (fun _ => 0))), (qz, .inl (cZ, 1, .inr (.inl (vp_updL (fun _ => 0) (0 : Int32).toNatClampNeg (0 : Int32).toInt64))))] := hD
  have hK : va_K D zcl [(cB, .byte), (cM, .byte), (cZ, .long), (cZ, .long)] s := hK
  have hp3 := hp3.symm
  subst hp3
  refine lv_istore (lv' := [(5, .int 0), (4, .int 0), (3, .ref qz), (2, .ref mm), (1, .ref h0), (0, .ref b)]) hx hb d_L_law_701 hl (by decide) rfl (fun ls hl => ?_)
  refine lv_aload_n hx hb d_L_law_703 rfl (lv_at hl 3 rfl) ?_
  refine lv_aload_n hx hb d_L_law_704 rfl (lv_at hl 5 rfl) ?_
  refine lv_iload hx hb d_L_law_705 (lv_at hl 1 rfl) ?_
  refine lv_iconst (v := 1) hx hb d_L_law_707 (by decide) ?_
  refine lv_iadd hx hb d_L_law_708 ?_
  refine lv_topi (fun z4 e_z4 => ?_)
  have e_z4 : z4 = 1 := e_z4.trans (by decide)
  subst e_z4
  refine va_sld hx hb hX hbl hbA hS (by unfold vp_in; decide) d_L_law_709 ?_
  rw [hv1]
  refine zji (wr := [(qb, .inl (cB, 20000, .inl (fun _ => 0))), (m_tape, .inl (cM, 20000, .inl (fun _ => 0))), (qz, .inl (cZ, 1, .inr (.inl (vp_updL (fun _ => 0) (0 : Int32).toNatClampNeg (0 : Int32).toInt64))))]) (va_runV (As := [.int 0]) (rest := []) ⟨hx, hb, hml, hown, ht⟩ (c_M_ab0 l D _ mm m_tape m_methods m_packed m_sizes m_sums m_datas m_locals m_localEnds m_names m_nameSizes m_states m_starts m_counts m_written m_lengths m_small m_codes m_smallCodes 0 0 (-1) 20000 100 0 0 0 0 0 0 0 0 ) (cwV 1 ht (zt_goodV zm_1029 zm_1030 zm_1031 zm_79 zm_1032) rfl rfl rfl (by decide +kernel) ⟨Nat.le_of_ble_eq_true rfl, Nat.le_of_ble_eq_true rfl⟩) (zpreV zBlind_t hK hP hD [1] [] rfl (by decide) rfl (fun _ _ _ => trivial) (va_recv (q := ("ZipGuardModel", F_M, 31)) hK hP rfl (q0 := 1) (ci := 8) rfl)) rfl rfl hl.1 rfl (lv_room (Nat.le_of_ble_eq_true rfl)) d_L_law_710 ⟨Nat.le_of_ble_eq_true rfl, Nat.le_of_ble_eq_true rfl⟩) hK hP hD hS hA [1] [0, 2, 3] rfl rfl (by decide) (by decide) (fun r5 u H locs hp6 hP hD hK hS => ?_)
  have hP : va_P D zcl [(qb, .inl (cB, 20000, .inl (fun _ => 0))), (m_tape, .inl (cM, 20000, .inl (fun _ => 0))), (qz, .inl (cZ, 1, .inr (.inl (vp_updL (fun _ => 0) (0 : Int32).toNatClampNeg (0 : Int32).toInt64)))), (mm, .inr (8, [.ref m_tape, .int 0, .int 0, .int (-1), .int 20000, .int 100, .int 0, .ref m_methods, .ref m_packed, .ref m_sizes, .ref m_sums, .ref m_datas, .ref m_locals, .ref m_localEnds, .ref m_names, .ref m_nameSizes, .ref m_states, .ref m_starts, .ref m_counts, .ref m_written, .int 0, .int 0, .int 0, .int 0, .ref m_lengths, .ref m_small, .ref m_codes, .ref m_smallCodes, .int 0, .int 0, .int 0]))] H := hP
  have hD : va_D A [(qb, .inl (cB, 20000, .inl (fun _ => 0))), (m_tape, .inl (cM, 20000, .inl (fun _ => 0))), (qz, .inl (cZ, 1, .inr (.inl (vp_updL (fun _ => 0) (0 : Int32).toNatClampNeg (0 : Int32).toInt64)))), (mm, .inr (8, [.ref m_tape, .int 0, .int 0, .int (-1), .int 20000, .int 100, .int 0, .ref m_methods, .ref m_packed, .ref m_sizes, .ref m_sums, .ref m_datas, .ref m_locals, .ref m_localEnds, .ref m_names, .ref m_nameSizes, .ref m_states, .ref m_starts, .ref m_counts, .ref m_written, .int 0, .int 0, .int 0, .int 0, .ref m_lengths, .ref m_small, .ref m_codes, .ref m_smallCodes, .int 0, .int 0, .int 0]))] := hD
  have hK : va_K D zcl [(cB, .byte), (cM, .byte), (cZ, .long), (cZ, .long)] s := hK
  have hp6 := hp6.symm
  subst hp6
  refine lv_istore (lv' := [(6, .int 0), (5, .int 0), (4, .int 0), (3, .ref qz), (2, .ref mm), (1, .ref h0), (0, .ref b)]) hx hb d_L_law_713 hl (by decide) rfl (fun ls hl => ?_)
  refine lv_aload_n hx hb d_L_law_715 rfl (lv_at hl 4 rfl) ?_
  refine zji (wr := [(qb, .inl (cB, 20000, .inl (fun _ => 0))), (m_tape, .inl (cM, 20000, .inl (fun _ => 0))), (qz, .inl (cZ, 1, .inr (.inl (vp_updL (fun _ => 0) (0 : Int32).toNatClampNeg (0 : Int32).toInt64))))]) (va_runV (As := []) (rest := []) ⟨hx, hb, hml, hown, ht⟩ (c_M_thrown l D _ mm m_tape m_methods m_packed m_sizes m_sums m_datas m_locals m_localEnds m_names m_nameSizes m_states m_starts m_counts m_written m_lengths m_small m_codes m_smallCodes 0 0 (-1) 20000 100 0 0 0 0 0 0 0 0 ) (cwV 0 ht (zt_goodV zm_847 zm_848 zm_849 zm_79 zm_850) rfl rfl rfl (by decide +kernel) ⟨Nat.le_of_ble_eq_true rfl, Nat.le_of_ble_eq_true rfl⟩) (zpreV zBlind_t hK hP hD [3] [] rfl (by decide) rfl (fun _ _ _ => trivial) (va_recv (q := ("ZipGuardModel", F_M, 31)) hK hP rfl (q0 := 3) (ci := 8) rfl)) rfl rfl hl.1 rfl (lv_room (Nat.le_of_ble_eq_true rfl)) d_L_law_716 ⟨Nat.le_of_ble_eq_true rfl, Nat.le_of_ble_eq_true rfl⟩) hK hP hD hS hA [3] [0, 1, 2] rfl rfl (by decide) (by decide) (fun r7 u H locs hp8 hP hD hK hS => ?_)
  have hP : va_P D zcl [(qb, .inl (cB, 20000, .inl (fun _ => 0))), (m_tape, .inl (cM, 20000, .inl (fun _ => 0))), (qz, .inl (cZ, 1, .inr (.inl (vp_updL (fun _ => 0) (0 : Int32).toNatClampNeg (0 : Int32).toInt64)))), (mm, .inr (8, [.ref m_tape, .int 0, .int 0, .int (-1), .int 20000, .int 100, .int 0, .ref m_methods, .ref m_packed, .ref m_sizes, .ref m_sums, .ref m_datas, .ref m_locals, .ref m_localEnds, .ref m_names, .ref m_nameSizes, .ref m_states, .ref m_starts, .ref m_counts, .ref m_written, .int 0, .int 0, .int 0, .int 0, .ref m_lengths, .ref m_small, .ref m_codes, .ref m_smallCodes, .int 0, .int 0, .int 0]))] H := hP
  have hD : va_D A [(qb, .inl (cB, 20000, .inl (fun _ => 0))), (m_tape, .inl (cM, 20000, .inl (fun _ => 0))), (qz, .inl (cZ, 1, .inr (.inl (vp_updL (fun _ => 0) (0 : Int32).toNatClampNeg (0 : Int32).toInt64)))), (mm, .inr (8, [.ref m_tape, .int 0, .int 0, .int (-1), .int 20000, .int 100, .int 0, .ref m_methods, .ref m_packed, .ref m_sizes, .ref m_sums, .ref m_datas, .ref m_locals, .ref m_localEnds, .ref m_names, .ref m_nameSizes, .ref m_states, .ref m_starts, .ref m_counts, .ref m_written, .int 0, .int 0, .int 0, .int 0, .ref m_lengths, .ref m_small, .ref m_codes, .ref m_smallCodes, .int 0, .int 0, .int 0]))] := hD
  have hK : va_K D zcl [(cB, .byte), (cM, .byte), (cZ, .long), (cZ, .long)] s := hK
  have hp8 := hp8.symm
  subst hp8
  refine lv_iload hx hb d_L_law_719 (lv_at hl 1 rfl) ?_
  refine lv_icmp_eq (tgt := 726) hx hb d_L_law_721 (by decide) (fun _ => ?_) (fun h => absurd (rfl) h)
  refine lv_iload hx hb d_L_law_726 (lv_at hl 1 rfl) ?_
  refine lv_if_ne (tgt := 743) hx hb d_L_law_728 (by decide) (fun h => absurd (by decide) h) (fun _ => ?_)
  refine lv_aload_n hx hb d_L_law_731 rfl (lv_at hl 3 rfl) ?_
  refine lv_iconst (v := 0) hx hb d_L_law_732 (by decide) ?_
  refine va_lald hx hb hK hP 2 2 rfl rfl (by unfold vp_in; decide) d_L_law_733 ?_
  refine lv_topl (fun x11 e_x11 => ?_)
  have e_x11 : x11 = (0 : Int32).toInt64 := by rw [e_x11]; exact pk_uLs
  subst e_x11
  refine lv_iload hx hb d_L_law_734 (lv_at hl 0 rfl) ?_
  refine lv_i2l hx hb d_L_law_736 rfl ?_
  refine W.lcmp hx hb d_L_law_737 ?_
  refine lv_topi (fun x12 e_x12 => ?_)
  have e_x12 : x12 = 0 := by rw [e_x12]; simp [lg_cmp]
  subst e_x12
  refine lv_if_eq (tgt := 743) hx hb d_L_law_738 (by decide) (fun _ => ?_) (fun h => absurd (by decide) h)
  refine lv_goto (tgt := 746) hx hb d_L_law_743 (by decide) ?_
  exact zl_tail hx hb hr hml hown ht hX hbl hlk hl9 hG hA hAe hS (lv_sub hl [2, 6] rfl) (Nat.le_of_ble_eq_true rfl) (Nat.le_of_ble_eq_true rfl)
set_option maxHeartbeats 4000000 in
set_option maxRecDepth 100000 in
theorem zl_11_1 {p : Program} {l : Launch} {e : Env} {s : State} {m : MethodId} {below : List Frame} {meth : Method} {c : Code} {b : Nat} {xs : Nat → Int32} {A : Nat → Prop} {D : va_G} {H : Heap} {locs : List Loc} {ls : Array Slot} (hx : p.tables.exec = Jvm.exec) (hb : c.code = code) (hr : meth.sig.returnType = ret) (hml : c.maxLocals = 7) (hown : s.vm.findClass "ZipGuardLaw" = some m.cls) (ht : ∀ w ∈ zt, w.before #[Value.ref b] s = true) (hX : va_X b 6 xs s s.heap) (hbl : b < s.heap.size) (hlk : meth.locks = false) (hl9 : l.stackTraces = false) (hG : zG s) (hA : ∀ q, s.heap.size ≤ q → A q) (hAe : ∀ q, A q → s.heap.size ≤ q) (h0 : Nat) (qt : Nat) (qd : Nat) (qa : Nat) (qu : Nat) (qb : Nat) (qe : Nat) (qo : Nat) (cB : ClassId) (mm : Nat) (m_tape : Nat) (m_methods : Nat) (m_packed : Nat) (m_sizes : Nat) (m_sums : Nat) (m_datas : Nat) (m_locals : Nat) (m_localEnds : Nat) (m_names : Nat) (m_nameSizes : Nat) (m_states : Nat) (m_starts : Nat) (m_counts : Nat) (m_written : Nat) (m_lengths : Nat) (m_small : Nat) (m_codes : Nat) (m_smallCodes : Nat) (cM : ClassId) (qz : Nat) (cZ : ClassId) (hv1 : xs (1 : Int32).toNatClampNeg = 1) (hK : va_K D zcl [(cB, .byte), (cM, .byte), (cZ, .long)] s) (hP : va_P D zcl [(h0, .inr (0, [.ref qt, .ref qd, .ref qa, .ref qu])), (qt, .inr (1, [.ref qb, .int 0])), (qb, .inl (cB, 20000, .inl (fun _ => 0))), (qd, .inr (2, [.ref qe, .int 0, .int 0, .int (-1), .ref qt])), (qa, .inr (3, [.int 20000, .int 100, .int 0, .ref qo, .int (-1)])), (mm, .inr (8, [.ref m_tape, .int 0, .int 0, .int (-1), .int 20000, .int 100, .int 0, .ref m_methods, .ref m_packed, .ref m_sizes, .ref m_sums, .ref m_datas, .ref m_locals, .ref m_localEnds, .ref m_names, .ref m_nameSizes, .ref m_states, .ref m_starts, .ref m_counts, .ref m_written, .int 0, .int 0, .int 0, .int 0, .ref m_lengths, .ref m_small, .ref m_codes, .ref m_smallCodes, .int 0, .int 0, .int 0])), (m_tape, .inl (cM, 20000, .inl (fun _ => 0))), (qz, .inl (cZ, 1, .inr (.inl (fun _ => 0))))] H) (hD : va_D A [(h0, .inr (0, [.ref qt, .ref qd, .ref qa, .ref qu])), (qt, .inr (1, [.ref qb, .int 0])), (qb, .inl (cB, 20000, .inl (fun _ => 0))), (qd, .inr (2, [.ref qe, .int 0, .int 0, .int (-1), .ref qt])), (qa, .inr (3, [.int 20000, .int 100, .int 0, .ref qo, .int (-1)])), (mm, .inr (8, [.ref m_tape, .int 0, .int 0, .int (-1), .int 20000, .int 100, .int 0, .ref m_methods, .ref m_packed, .ref m_sizes, .ref m_sums, .ref m_datas, .ref m_locals, .ref m_localEnds, .ref m_names, .ref m_nameSizes, .ref m_states, .ref m_starts, .ref m_counts, .ref m_written, .int 0, .int 0, .int 0, .int 0, .ref m_lengths, .ref m_small, .ref m_codes, .ref m_smallCodes, .int 0, .int 0, .int 0])), (m_tape, .inl (cM, 20000, .inl (fun _ => 0))), (qz, .inl (cZ, 1, .inr (.inl (fun _ => 0))))]) (hS : va_S A s.heap H locs) (hl : lv_has ls 7 [(4, .int 0), (3, .ref qz), (2, .ref mm), (1, .ref h0), (0, .ref b)]) : W p l e room_1 s m #[Value.ref b] below meth c H locs 178 131109 (lw_Z below #[Value.ref b] s) (F0 m 690 ls []) := by
  have hbA : ¬ A b := fun h => absurd (hAe b h) (Nat.not_le.mpr hbl)
  refine lv_aload_n hx hb d_L_law_690 rfl (lv_at hl 3 rfl) ?_
  refine lv_aload_n hx hb d_L_law_691 rfl (lv_at hl 4 rfl) ?_
  refine lv_iload hx hb d_L_law_692 (lv_at hl 0 rfl) ?_
  refine lv_iconst (v := 1) hx hb d_L_law_694 (by decide) ?_
  refine lv_iadd hx hb d_L_law_695 ?_
  refine lv_topi (fun z1 e_z1 => ?_)
  have e_z1 : z1 = 1 := e_z1.trans (by decide)
  subst e_z1
  refine va_sld hx hb hX hbl hbA hS (by unfold vp_in; decide) d_L_law_696 ?_
  rw [hv1]
  refine lv_aload_n hx hb d_L_law_697 rfl (lv_at hl 1 rfl) ?_
  refine zji (wr := [(qb, .inl (cB, 20000, .inl (fun _ => 0))), (mm, .inr (8, [.ref m_tape, .int 0, .int 0, .int (-1), .int 20000, .int 100, .int 0, .ref m_methods, .ref m_packed, .ref m_sizes, .ref m_sums, .ref m_datas, .ref m_locals, .ref m_localEnds, .ref m_names, .ref m_nameSizes, .ref m_states, .ref m_starts, .ref m_counts, .ref m_written, .int 0, .int 0, .int 0, .int 0, .ref m_lengths, .ref m_small, .ref m_codes, .ref m_smallCodes, .int 0, .int 0, .int 0])), (m_tape, .inl (cM, 20000, .inl (fun _ => 0)))]) (zrunSW (n := 3) (As := [.ref h0, .int 1, .ref qz]) (rest := []) ⟨hx, hb, hml, hown, ht⟩ (c_L_ab1 l D _ h0 qt qd qa qu qb qe qo 0 0 (-1) 20000 100 0 (-1) qz cZ (fun _ => 0) ) zm_738 zm_739 zm_64 zm_740 rfl rfl (by decide +kernel) ⟨Nat.le_of_ble_eq_true rfl, Nat.le_of_ble_eq_true rfl⟩ (zpre zBlind_t hK hP hD [0, 1, 3, 4, 7] [2] rfl (by decide) rfl (fun _ _ _ => trivial)) rfl rfl hl.1 rfl (lv_room (Nat.le_of_ble_eq_true rfl)) d_L_law_698 ⟨Nat.le_of_ble_eq_true rfl, Nat.le_of_ble_eq_true rfl⟩) hK hP hD hS hA [0, 1, 3, 4, 7] [2, 5, 6] rfl rfl (by decide) (by decide) (fun r2 u H locs hp3 hP hD hK hS => ?_)
  have hP : va_P D zcl [(qb, .inl (cB, 20000, .inl (fun _ => 0))), (mm, .inr (8, [.ref m_tape, .int 0, .int 0, .int (-1), .int 20000, .int 100, .int 0, .ref m_methods, .ref m_packed, .ref m_sizes, .ref m_sums, .ref m_datas, .ref m_locals, .ref m_localEnds, .ref m_names, .ref m_nameSizes, .ref m_states, .ref m_starts, .ref m_counts, .ref m_written, .int 0, .int 0, .int 0, .int 0, .ref m_lengths, .ref m_small, .ref m_codes, .ref m_smallCodes, .int 0, .int 0, .int 0])), (m_tape, .inl (cM, 20000, .inl (fun _ => 0))), (qz, .inl (cZ, 1, .inr (.inl (vp_updL (fun _ => 0) (0 : Int32).toNatClampNeg (0 : Int32).toInt64))))] H := hP
  have hD : va_D A [(qb, .inl (cB, 20000, .inl (fun _ => 0))), (mm, .inr (8, [.ref m_tape, .int 0, .int 0, .int (-1), .int 20000, .int 100, .int 0, .ref m_methods, .ref m_packed, .ref m_sizes, .ref m_sums, .ref m_datas, .ref m_locals, .ref m_localEnds, .ref m_names, .ref m_nameSizes, .ref m_states, .ref m_starts, .ref m_counts, .ref m_written, .int 0, .int 0, .int 0, .int 0, .ref m_lengths, .ref m_small, .ref m_codes, .ref m_smallCodes, .int 0, .int 0, .int 0])), (m_tape, .inl (cM, 20000, .inl (fun _ => 0))), (qz, .inl (cZ, 1, .inr (.inl (vp_updL (fun _ => 0) (0 : Int32).toNatClampNeg (0 : Int32).toInt64))))] := hD
  have hK : va_K D zcl [(cB, .byte), (cM, .byte), (cZ, .long), (cZ, .long)] s := hK
  have hp3 := hp3.symm
  subst hp3
  refine lv_istore (lv' := [(5, .int 0), (4, .int 0), (3, .ref qz), (2, .ref mm), (1, .ref h0), (0, .ref b)]) hx hb d_L_law_701 hl (by decide) rfl (fun ls hl => ?_)
  refine lv_aload_n hx hb d_L_law_703 rfl (lv_at hl 3 rfl) ?_
  refine lv_aload_n hx hb d_L_law_704 rfl (lv_at hl 5 rfl) ?_
  refine lv_iload hx hb d_L_law_705 (lv_at hl 1 rfl) ?_
  refine lv_iconst (v := 1) hx hb d_L_law_707 (by decide) ?_
  refine lv_iadd hx hb d_L_law_708 ?_
  refine lv_topi (fun z4 e_z4 => ?_)
  have e_z4 : z4 = 1 := e_z4.trans (by decide)
  subst e_z4
  refine va_sld hx hb hX hbl hbA hS (by unfold vp_in; decide) d_L_law_709 ?_
  rw [hv1]
  refine zji (wr := [(qb, .inl (cB, 20000, .inl (fun _ => 0))), (m_tape, .inl (cM, 20000, .inl (fun _ => 0))), (qz, .inl (cZ, 1, .inr (.inl (vp_updL (fun _ => 0) (0 : Int32).toNatClampNeg (0 : Int32).toInt64))))]) (va_runV (As := [.int 1]) (rest := []) ⟨hx, hb, hml, hown, ht⟩ (c_M_ab1 l D _ mm m_tape m_methods m_packed m_sizes m_sums m_datas m_locals m_localEnds m_names m_nameSizes m_states m_starts m_counts m_written m_lengths m_small m_codes m_smallCodes 0 0 (-1) 20000 100 0 0 0 0 0 0 0 0 ) (cwV 1 ht (zt_goodV zm_1029 zm_1030 zm_1031 zm_79 zm_1032) rfl rfl rfl (by decide +kernel) ⟨Nat.le_of_ble_eq_true rfl, Nat.le_of_ble_eq_true rfl⟩) (zpreV zBlind_t hK hP hD [1] [] rfl (by decide) rfl (fun _ _ _ => trivial) (va_recv (q := ("ZipGuardModel", F_M, 31)) hK hP rfl (q0 := 1) (ci := 8) rfl)) rfl rfl hl.1 rfl (lv_room (Nat.le_of_ble_eq_true rfl)) d_L_law_710 ⟨Nat.le_of_ble_eq_true rfl, Nat.le_of_ble_eq_true rfl⟩) hK hP hD hS hA [1] [0, 2, 3] rfl rfl (by decide) (by decide) (fun r5 u H locs hp6 hP hD hK hS => ?_)
  have hP : va_P D zcl [(qb, .inl (cB, 20000, .inl (fun _ => 0))), (m_tape, .inl (cM, 20000, .inl (fun _ => 0))), (qz, .inl (cZ, 1, .inr (.inl (vp_updL (fun _ => 0) (0 : Int32).toNatClampNeg (0 : Int32).toInt64)))), (mm, .inr (8, [.ref m_tape, .int 0, .int 0, .int (-1), .int 20000, .int 100, .int 0, .ref m_methods, .ref m_packed, .ref m_sizes, .ref m_sums, .ref m_datas, .ref m_locals, .ref m_localEnds, .ref m_names, .ref m_nameSizes, .ref m_states, .ref m_starts, .ref m_counts, .ref m_written, .int 0, .int 0, .int 0, .int 0, .ref m_lengths, .ref m_small, .ref m_codes, .ref m_smallCodes, .int 0, .int 0, .int 0]))] H := hP
  have hD : va_D A [(qb, .inl (cB, 20000, .inl (fun _ => 0))), (m_tape, .inl (cM, 20000, .inl (fun _ => 0))), (qz, .inl (cZ, 1, .inr (.inl (vp_updL (fun _ => 0) (0 : Int32).toNatClampNeg (0 : Int32).toInt64)))), (mm, .inr (8, [.ref m_tape, .int 0, .int 0, .int (-1), .int 20000, .int 100, .int 0, .ref m_methods, .ref m_packed, .ref m_sizes, .ref m_sums, .ref m_datas, .ref m_locals, .ref m_localEnds, .ref m_names, .ref m_nameSizes, .ref m_states, .ref m_starts, .ref m_counts, .ref m_written, .int 0, .int 0, .int 0, .int 0, .ref m_lengths, .ref m_small, .ref m_codes, .ref m_smallCodes, .int 0, .int 0, .int 0]))] := hD
  have hK : va_K D zcl [(cB, .byte), (cM, .byte), (cZ, .long), (cZ, .long)] s := hK
  have hp6 := hp6.symm
  subst hp6
  refine lv_istore (lv' := [(6, .int 0), (5, .int 0), (4, .int 0), (3, .ref qz), (2, .ref mm), (1, .ref h0), (0, .ref b)]) hx hb d_L_law_713 hl (by decide) rfl (fun ls hl => ?_)
  refine lv_aload_n hx hb d_L_law_715 rfl (lv_at hl 4 rfl) ?_
  refine zji (wr := [(qb, .inl (cB, 20000, .inl (fun _ => 0))), (m_tape, .inl (cM, 20000, .inl (fun _ => 0))), (qz, .inl (cZ, 1, .inr (.inl (vp_updL (fun _ => 0) (0 : Int32).toNatClampNeg (0 : Int32).toInt64))))]) (va_runV (As := []) (rest := []) ⟨hx, hb, hml, hown, ht⟩ (c_M_thrown l D _ mm m_tape m_methods m_packed m_sizes m_sums m_datas m_locals m_localEnds m_names m_nameSizes m_states m_starts m_counts m_written m_lengths m_small m_codes m_smallCodes 0 0 (-1) 20000 100 0 0 0 0 0 0 0 0 ) (cwV 0 ht (zt_goodV zm_847 zm_848 zm_849 zm_79 zm_850) rfl rfl rfl (by decide +kernel) ⟨Nat.le_of_ble_eq_true rfl, Nat.le_of_ble_eq_true rfl⟩) (zpreV zBlind_t hK hP hD [3] [] rfl (by decide) rfl (fun _ _ _ => trivial) (va_recv (q := ("ZipGuardModel", F_M, 31)) hK hP rfl (q0 := 3) (ci := 8) rfl)) rfl rfl hl.1 rfl (lv_room (Nat.le_of_ble_eq_true rfl)) d_L_law_716 ⟨Nat.le_of_ble_eq_true rfl, Nat.le_of_ble_eq_true rfl⟩) hK hP hD hS hA [3] [0, 1, 2] rfl rfl (by decide) (by decide) (fun r7 u H locs hp8 hP hD hK hS => ?_)
  have hP : va_P D zcl [(qb, .inl (cB, 20000, .inl (fun _ => 0))), (m_tape, .inl (cM, 20000, .inl (fun _ => 0))), (qz, .inl (cZ, 1, .inr (.inl (vp_updL (fun _ => 0) (0 : Int32).toNatClampNeg (0 : Int32).toInt64)))), (mm, .inr (8, [.ref m_tape, .int 0, .int 0, .int (-1), .int 20000, .int 100, .int 0, .ref m_methods, .ref m_packed, .ref m_sizes, .ref m_sums, .ref m_datas, .ref m_locals, .ref m_localEnds, .ref m_names, .ref m_nameSizes, .ref m_states, .ref m_starts, .ref m_counts, .ref m_written, .int 0, .int 0, .int 0, .int 0, .ref m_lengths, .ref m_small, .ref m_codes, .ref m_smallCodes, .int 0, .int 0, .int 0]))] H := hP
  have hD : va_D A [(qb, .inl (cB, 20000, .inl (fun _ => 0))), (m_tape, .inl (cM, 20000, .inl (fun _ => 0))), (qz, .inl (cZ, 1, .inr (.inl (vp_updL (fun _ => 0) (0 : Int32).toNatClampNeg (0 : Int32).toInt64)))), (mm, .inr (8, [.ref m_tape, .int 0, .int 0, .int (-1), .int 20000, .int 100, .int 0, .ref m_methods, .ref m_packed, .ref m_sizes, .ref m_sums, .ref m_datas, .ref m_locals, .ref m_localEnds, .ref m_names, .ref m_nameSizes, .ref m_states, .ref m_starts, .ref m_counts, .ref m_written, .int 0, .int 0, .int 0, .int 0, .ref m_lengths, .ref m_small, .ref m_codes, .ref m_smallCodes, .int 0, .int 0, .int 0]))] := hD
  have hK : va_K D zcl [(cB, .byte), (cM, .byte), (cZ, .long), (cZ, .long)] s := hK
  have hp8 := hp8.symm
  subst hp8
  refine lv_iload hx hb d_L_law_719 (lv_at hl 1 rfl) ?_
  refine lv_icmp_eq (tgt := 726) hx hb d_L_law_721 (by decide) (fun _ => ?_) (fun h => absurd (rfl) h)
  refine lv_iload hx hb d_L_law_726 (lv_at hl 1 rfl) ?_
  refine lv_if_ne (tgt := 743) hx hb d_L_law_728 (by decide) (fun h => absurd (by decide) h) (fun _ => ?_)
  refine lv_aload_n hx hb d_L_law_731 rfl (lv_at hl 3 rfl) ?_
  refine lv_iconst (v := 0) hx hb d_L_law_732 (by decide) ?_
  refine va_lald hx hb hK hP 2 2 rfl rfl (by unfold vp_in; decide) d_L_law_733 ?_
  refine lv_topl (fun x11 e_x11 => ?_)
  have e_x11 : x11 = (0 : Int32).toInt64 := by rw [e_x11]; exact pk_uLs
  subst e_x11
  refine lv_iload hx hb d_L_law_734 (lv_at hl 0 rfl) ?_
  refine lv_i2l hx hb d_L_law_736 rfl ?_
  refine W.lcmp hx hb d_L_law_737 ?_
  refine lv_topi (fun x12 e_x12 => ?_)
  have e_x12 : x12 = 0 := by rw [e_x12]; simp [lg_cmp]
  subst e_x12
  refine lv_if_eq (tgt := 743) hx hb d_L_law_738 (by decide) (fun _ => ?_) (fun h => absurd (by decide) h)
  refine lv_goto (tgt := 746) hx hb d_L_law_743 (by decide) ?_
  exact zl_tail hx hb hr hml hown ht hX hbl hlk hl9 hG hA hAe hS (lv_sub hl [2, 6] rfl) (Nat.le_of_ble_eq_true rfl) (Nat.le_of_ble_eq_true rfl)
set_option maxHeartbeats 4000000 in
set_option maxRecDepth 100000 in
theorem zl_11_2 {p : Program} {l : Launch} {e : Env} {s : State} {m : MethodId} {below : List Frame} {meth : Method} {c : Code} {b : Nat} {xs : Nat → Int32} {A : Nat → Prop} {D : va_G} {H : Heap} {locs : List Loc} {ls : Array Slot} (hx : p.tables.exec = Jvm.exec) (hb : c.code = code) (hr : meth.sig.returnType = ret) (hml : c.maxLocals = 7) (hown : s.vm.findClass "ZipGuardLaw" = some m.cls) (ht : ∀ w ∈ zt, w.before #[Value.ref b] s = true) (hX : va_X b 6 xs s s.heap) (hbl : b < s.heap.size) (hlk : meth.locks = false) (hl9 : l.stackTraces = false) (hG : zG s) (hA : ∀ q, s.heap.size ≤ q → A q) (hAe : ∀ q, A q → s.heap.size ≤ q) (h0 : Nat) (qt : Nat) (qd : Nat) (qa : Nat) (qu : Nat) (qb : Nat) (qe : Nat) (qo : Nat) (cB : ClassId) (mm : Nat) (m_tape : Nat) (m_methods : Nat) (m_packed : Nat) (m_sizes : Nat) (m_sums : Nat) (m_datas : Nat) (m_locals : Nat) (m_localEnds : Nat) (m_names : Nat) (m_nameSizes : Nat) (m_states : Nat) (m_starts : Nat) (m_counts : Nat) (m_written : Nat) (m_lengths : Nat) (m_small : Nat) (m_codes : Nat) (m_smallCodes : Nat) (cM : ClassId) (qz : Nat) (cZ : ClassId) (hv1 : xs (1 : Int32).toNatClampNeg = 2) (hK : va_K D zcl [(cB, .byte), (cM, .byte), (cZ, .long)] s) (hP : va_P D zcl [(h0, .inr (0, [.ref qt, .ref qd, .ref qa, .ref qu])), (qt, .inr (1, [.ref qb, .int 0])), (qb, .inl (cB, 20000, .inl (fun _ => 0))), (qd, .inr (2, [.ref qe, .int 0, .int 0, .int (-1), .ref qt])), (qa, .inr (3, [.int 20000, .int 100, .int 0, .ref qo, .int (-1)])), (mm, .inr (8, [.ref m_tape, .int 0, .int 0, .int (-1), .int 20000, .int 100, .int 0, .ref m_methods, .ref m_packed, .ref m_sizes, .ref m_sums, .ref m_datas, .ref m_locals, .ref m_localEnds, .ref m_names, .ref m_nameSizes, .ref m_states, .ref m_starts, .ref m_counts, .ref m_written, .int 0, .int 0, .int 0, .int 0, .ref m_lengths, .ref m_small, .ref m_codes, .ref m_smallCodes, .int 0, .int 0, .int 0])), (m_tape, .inl (cM, 20000, .inl (fun _ => 0))), (qz, .inl (cZ, 1, .inr (.inl (fun _ => 0))))] H) (hD : va_D A [(h0, .inr (0, [.ref qt, .ref qd, .ref qa, .ref qu])), (qt, .inr (1, [.ref qb, .int 0])), (qb, .inl (cB, 20000, .inl (fun _ => 0))), (qd, .inr (2, [.ref qe, .int 0, .int 0, .int (-1), .ref qt])), (qa, .inr (3, [.int 20000, .int 100, .int 0, .ref qo, .int (-1)])), (mm, .inr (8, [.ref m_tape, .int 0, .int 0, .int (-1), .int 20000, .int 100, .int 0, .ref m_methods, .ref m_packed, .ref m_sizes, .ref m_sums, .ref m_datas, .ref m_locals, .ref m_localEnds, .ref m_names, .ref m_nameSizes, .ref m_states, .ref m_starts, .ref m_counts, .ref m_written, .int 0, .int 0, .int 0, .int 0, .ref m_lengths, .ref m_small, .ref m_codes, .ref m_smallCodes, .int 0, .int 0, .int 0])), (m_tape, .inl (cM, 20000, .inl (fun _ => 0))), (qz, .inl (cZ, 1, .inr (.inl (fun _ => 0))))]) (hS : va_S A s.heap H locs) (hl : lv_has ls 7 [(4, .int 0), (3, .ref qz), (2, .ref mm), (1, .ref h0), (0, .ref b)]) : W p l e room_1 s m #[Value.ref b] below meth c H locs 178 131109 (lw_Z below #[Value.ref b] s) (F0 m 690 ls []) := by
  have hbA : ¬ A b := fun h => absurd (hAe b h) (Nat.not_le.mpr hbl)
  refine lv_aload_n hx hb d_L_law_690 rfl (lv_at hl 3 rfl) ?_
  refine lv_aload_n hx hb d_L_law_691 rfl (lv_at hl 4 rfl) ?_
  refine lv_iload hx hb d_L_law_692 (lv_at hl 0 rfl) ?_
  refine lv_iconst (v := 1) hx hb d_L_law_694 (by decide) ?_
  refine lv_iadd hx hb d_L_law_695 ?_
  refine lv_topi (fun z1 e_z1 => ?_)
  have e_z1 : z1 = 1 := e_z1.trans (by decide)
  subst e_z1
  refine va_sld hx hb hX hbl hbA hS (by unfold vp_in; decide) d_L_law_696 ?_
  rw [hv1]
  refine lv_aload_n hx hb d_L_law_697 rfl (lv_at hl 1 rfl) ?_
  refine zji (wr := [(qb, .inl (cB, 20000, .inl (fun _ => 0))), (mm, .inr (8, [.ref m_tape, .int 0, .int 0, .int (-1), .int 20000, .int 100, .int 0, .ref m_methods, .ref m_packed, .ref m_sizes, .ref m_sums, .ref m_datas, .ref m_locals, .ref m_localEnds, .ref m_names, .ref m_nameSizes, .ref m_states, .ref m_starts, .ref m_counts, .ref m_written, .int 0, .int 0, .int 0, .int 0, .ref m_lengths, .ref m_small, .ref m_codes, .ref m_smallCodes, .int 0, .int 0, .int 0])), (m_tape, .inl (cM, 20000, .inl (fun _ => 0)))]) (zrunSW (n := 3) (As := [.ref h0, .int 2, .ref qz]) (rest := []) ⟨hx, hb, hml, hown, ht⟩ (c_L_ab2 l D _ h0 qt qd qa qu qb qe qo 0 0 (-1) 20000 100 0 (-1) qz cZ (fun _ => 0) ) zm_738 zm_739 zm_64 zm_740 rfl rfl (by decide +kernel) ⟨Nat.le_of_ble_eq_true rfl, Nat.le_of_ble_eq_true rfl⟩ (zpre zBlind_t hK hP hD [0, 1, 3, 4, 7] [2] rfl (by decide) rfl (fun _ _ _ => trivial)) rfl rfl hl.1 rfl (lv_room (Nat.le_of_ble_eq_true rfl)) d_L_law_698 ⟨Nat.le_of_ble_eq_true rfl, Nat.le_of_ble_eq_true rfl⟩) hK hP hD hS hA [0, 1, 3, 4, 7] [2, 5, 6] rfl rfl (by decide) (by decide) (fun r2 u H locs hp3 hP hD hK hS => ?_)
  have hP : va_P D zcl [(qb, .inl (cB, 20000, .inl (fun _ => 0))), (mm, .inr (8, [.ref m_tape, .int 0, .int 0, .int (-1), .int 20000, .int 100, .int 0, .ref m_methods, .ref m_packed, .ref m_sizes, .ref m_sums, .ref m_datas, .ref m_locals, .ref m_localEnds, .ref m_names, .ref m_nameSizes, .ref m_states, .ref m_starts, .ref m_counts, .ref m_written, .int 0, .int 0, .int 0, .int 0, .ref m_lengths, .ref m_small, .ref m_codes, .ref m_smallCodes, .int 0, .int 0, .int 0])), (m_tape, .inl (cM, 20000, .inl (fun _ => 0))), (qz, .inl (cZ, 1, .inr (.inl (vp_updL (fun _ => 0) (0 : Int32).toNatClampNeg (0 : Int32).toInt64))))] H := hP
  have hD : va_D A [(qb, .inl (cB, 20000, .inl (fun _ => 0))), (mm, .inr (8, [.ref m_tape, .int 0, .int 0, .int (-1), .int 20000, .int 100, .int 0, .ref m_methods, .ref m_packed, .ref m_sizes, .ref m_sums, .ref m_datas, .ref m_locals, .ref m_localEnds, .ref m_names, .ref m_nameSizes, .ref m_states, .ref m_starts, .ref m_counts, .ref m_written, .int 0, .int 0, .int 0, .int 0, .ref m_lengths, .ref m_small, .ref m_codes, .ref m_smallCodes, .int 0, .int 0, .int 0])), (m_tape, .inl (cM, 20000, .inl (fun _ => 0))), (qz, .inl (cZ, 1, .inr (.inl (vp_updL (fun _ => 0) (0 : Int32).toNatClampNeg (0 : Int32).toInt64))))] := hD
  have hK : va_K D zcl [(cB, .byte), (cM, .byte), (cZ, .long), (cZ, .long)] s := hK
  have hp3 := hp3.symm
  subst hp3
  refine lv_istore (lv' := [(5, .int 0), (4, .int 0), (3, .ref qz), (2, .ref mm), (1, .ref h0), (0, .ref b)]) hx hb d_L_law_701 hl (by decide) rfl (fun ls hl => ?_)
  refine lv_aload_n hx hb d_L_law_703 rfl (lv_at hl 3 rfl) ?_
  refine lv_aload_n hx hb d_L_law_704 rfl (lv_at hl 5 rfl) ?_
  refine lv_iload hx hb d_L_law_705 (lv_at hl 1 rfl) ?_
  refine lv_iconst (v := 1) hx hb d_L_law_707 (by decide) ?_
  refine lv_iadd hx hb d_L_law_708 ?_
  refine lv_topi (fun z4 e_z4 => ?_)
  have e_z4 : z4 = 1 := e_z4.trans (by decide)
  subst e_z4
  refine va_sld hx hb hX hbl hbA hS (by unfold vp_in; decide) d_L_law_709 ?_
  rw [hv1]
  refine zji (wr := [(qb, .inl (cB, 20000, .inl (fun _ => 0))), (m_tape, .inl (cM, 20000, .inl (fun _ => 0))), (qz, .inl (cZ, 1, .inr (.inl (vp_updL (fun _ => 0) (0 : Int32).toNatClampNeg (0 : Int32).toInt64))))]) (va_runV (As := [.int 2]) (rest := []) ⟨hx, hb, hml, hown, ht⟩ (c_M_ab2 l D _ mm m_tape m_methods m_packed m_sizes m_sums m_datas m_locals m_localEnds m_names m_nameSizes m_states m_starts m_counts m_written m_lengths m_small m_codes m_smallCodes 0 0 (-1) 20000 100 0 0 0 0 0 0 0 0 ) (cwV 1 ht (zt_goodV zm_1029 zm_1030 zm_1031 zm_79 zm_1032) rfl rfl rfl (by decide +kernel) ⟨Nat.le_of_ble_eq_true rfl, Nat.le_of_ble_eq_true rfl⟩) (zpreV zBlind_t hK hP hD [1] [] rfl (by decide) rfl (fun _ _ _ => trivial) (va_recv (q := ("ZipGuardModel", F_M, 31)) hK hP rfl (q0 := 1) (ci := 8) rfl)) rfl rfl hl.1 rfl (lv_room (Nat.le_of_ble_eq_true rfl)) d_L_law_710 ⟨Nat.le_of_ble_eq_true rfl, Nat.le_of_ble_eq_true rfl⟩) hK hP hD hS hA [1] [0, 2, 3] rfl rfl (by decide) (by decide) (fun r5 u H locs hp6 hP hD hK hS => ?_)
  have hP : va_P D zcl [(qb, .inl (cB, 20000, .inl (fun _ => 0))), (m_tape, .inl (cM, 20000, .inl (fun _ => 0))), (qz, .inl (cZ, 1, .inr (.inl (vp_updL (fun _ => 0) (0 : Int32).toNatClampNeg (0 : Int32).toInt64)))), (mm, .inr (8, [.ref m_tape, .int 0, .int 0, .int (-1), .int 20000, .int 100, .int 0, .ref m_methods, .ref m_packed, .ref m_sizes, .ref m_sums, .ref m_datas, .ref m_locals, .ref m_localEnds, .ref m_names, .ref m_nameSizes, .ref m_states, .ref m_starts, .ref m_counts, .ref m_written, .int 0, .int 0, .int 0, .int 0, .ref m_lengths, .ref m_small, .ref m_codes, .ref m_smallCodes, .int 0, .int 0, .int 0]))] H := hP
  have hD : va_D A [(qb, .inl (cB, 20000, .inl (fun _ => 0))), (m_tape, .inl (cM, 20000, .inl (fun _ => 0))), (qz, .inl (cZ, 1, .inr (.inl (vp_updL (fun _ => 0) (0 : Int32).toNatClampNeg (0 : Int32).toInt64)))), (mm, .inr (8, [.ref m_tape, .int 0, .int 0, .int (-1), .int 20000, .int 100, .int 0, .ref m_methods, .ref m_packed, .ref m_sizes, .ref m_sums, .ref m_datas, .ref m_locals, .ref m_localEnds, .ref m_names, .ref m_nameSizes, .ref m_states, .ref m_starts, .ref m_counts, .ref m_written, .int 0, .int 0, .int 0, .int 0, .ref m_lengths, .ref m_small, .ref m_codes, .ref m_smallCodes, .int 0, .int 0, .int 0]))] := hD
  have hK : va_K D zcl [(cB, .byte), (cM, .byte), (cZ, .long), (cZ, .long)] s := hK
  have hp6 := hp6.symm
  subst hp6
  refine lv_istore (lv' := [(6, .int 0), (5, .int 0), (4, .int 0), (3, .ref qz), (2, .ref mm), (1, .ref h0), (0, .ref b)]) hx hb d_L_law_713 hl (by decide) rfl (fun ls hl => ?_)
  refine lv_aload_n hx hb d_L_law_715 rfl (lv_at hl 4 rfl) ?_
  refine zji (wr := [(qb, .inl (cB, 20000, .inl (fun _ => 0))), (m_tape, .inl (cM, 20000, .inl (fun _ => 0))), (qz, .inl (cZ, 1, .inr (.inl (vp_updL (fun _ => 0) (0 : Int32).toNatClampNeg (0 : Int32).toInt64))))]) (va_runV (As := []) (rest := []) ⟨hx, hb, hml, hown, ht⟩ (c_M_thrown l D _ mm m_tape m_methods m_packed m_sizes m_sums m_datas m_locals m_localEnds m_names m_nameSizes m_states m_starts m_counts m_written m_lengths m_small m_codes m_smallCodes 0 0 (-1) 20000 100 0 0 0 0 0 0 0 0 ) (cwV 0 ht (zt_goodV zm_847 zm_848 zm_849 zm_79 zm_850) rfl rfl rfl (by decide +kernel) ⟨Nat.le_of_ble_eq_true rfl, Nat.le_of_ble_eq_true rfl⟩) (zpreV zBlind_t hK hP hD [3] [] rfl (by decide) rfl (fun _ _ _ => trivial) (va_recv (q := ("ZipGuardModel", F_M, 31)) hK hP rfl (q0 := 3) (ci := 8) rfl)) rfl rfl hl.1 rfl (lv_room (Nat.le_of_ble_eq_true rfl)) d_L_law_716 ⟨Nat.le_of_ble_eq_true rfl, Nat.le_of_ble_eq_true rfl⟩) hK hP hD hS hA [3] [0, 1, 2] rfl rfl (by decide) (by decide) (fun r7 u H locs hp8 hP hD hK hS => ?_)
  have hP : va_P D zcl [(qb, .inl (cB, 20000, .inl (fun _ => 0))), (m_tape, .inl (cM, 20000, .inl (fun _ => 0))), (qz, .inl (cZ, 1, .inr (.inl (vp_updL (fun _ => 0) (0 : Int32).toNatClampNeg (0 : Int32).toInt64)))), (mm, .inr (8, [.ref m_tape, .int 0, .int 0, .int (-1), .int 20000, .int 100, .int 0, .ref m_methods, .ref m_packed, .ref m_sizes, .ref m_sums, .ref m_datas, .ref m_locals, .ref m_localEnds, .ref m_names, .ref m_nameSizes, .ref m_states, .ref m_starts, .ref m_counts, .ref m_written, .int 0, .int 0, .int 0, .int 0, .ref m_lengths, .ref m_small, .ref m_codes, .ref m_smallCodes, .int 0, .int 0, .int 0]))] H := hP
  have hD : va_D A [(qb, .inl (cB, 20000, .inl (fun _ => 0))), (m_tape, .inl (cM, 20000, .inl (fun _ => 0))), (qz, .inl (cZ, 1, .inr (.inl (vp_updL (fun _ => 0) (0 : Int32).toNatClampNeg (0 : Int32).toInt64)))), (mm, .inr (8, [.ref m_tape, .int 0, .int 0, .int (-1), .int 20000, .int 100, .int 0, .ref m_methods, .ref m_packed, .ref m_sizes, .ref m_sums, .ref m_datas, .ref m_locals, .ref m_localEnds, .ref m_names, .ref m_nameSizes, .ref m_states, .ref m_starts, .ref m_counts, .ref m_written, .int 0, .int 0, .int 0, .int 0, .ref m_lengths, .ref m_small, .ref m_codes, .ref m_smallCodes, .int 0, .int 0, .int 0]))] := hD
  have hK : va_K D zcl [(cB, .byte), (cM, .byte), (cZ, .long), (cZ, .long)] s := hK
  have hp8 := hp8.symm
  subst hp8
  refine lv_iload hx hb d_L_law_719 (lv_at hl 1 rfl) ?_
  refine lv_icmp_eq (tgt := 726) hx hb d_L_law_721 (by decide) (fun _ => ?_) (fun h => absurd (rfl) h)
  refine lv_iload hx hb d_L_law_726 (lv_at hl 1 rfl) ?_
  refine lv_if_ne (tgt := 743) hx hb d_L_law_728 (by decide) (fun h => absurd (by decide) h) (fun _ => ?_)
  refine lv_aload_n hx hb d_L_law_731 rfl (lv_at hl 3 rfl) ?_
  refine lv_iconst (v := 0) hx hb d_L_law_732 (by decide) ?_
  refine va_lald hx hb hK hP 2 2 rfl rfl (by unfold vp_in; decide) d_L_law_733 ?_
  refine lv_topl (fun x11 e_x11 => ?_)
  have e_x11 : x11 = (0 : Int32).toInt64 := by rw [e_x11]; exact pk_uLs
  subst e_x11
  refine lv_iload hx hb d_L_law_734 (lv_at hl 0 rfl) ?_
  refine lv_i2l hx hb d_L_law_736 rfl ?_
  refine W.lcmp hx hb d_L_law_737 ?_
  refine lv_topi (fun x12 e_x12 => ?_)
  have e_x12 : x12 = 0 := by rw [e_x12]; simp [lg_cmp]
  subst e_x12
  refine lv_if_eq (tgt := 743) hx hb d_L_law_738 (by decide) (fun _ => ?_) (fun h => absurd (by decide) h)
  refine lv_goto (tgt := 746) hx hb d_L_law_743 (by decide) ?_
  exact zl_tail hx hb hr hml hown ht hX hbl hlk hl9 hG hA hAe hS (lv_sub hl [2, 6] rfl) (Nat.le_of_ble_eq_true rfl) (Nat.le_of_ble_eq_true rfl)
set_option maxHeartbeats 4000000 in
set_option maxRecDepth 100000 in
theorem zl_11_3 {p : Program} {l : Launch} {e : Env} {s : State} {m : MethodId} {below : List Frame} {meth : Method} {c : Code} {b : Nat} {xs : Nat → Int32} {A : Nat → Prop} {D : va_G} {H : Heap} {locs : List Loc} {ls : Array Slot} (hx : p.tables.exec = Jvm.exec) (hb : c.code = code) (hr : meth.sig.returnType = ret) (hml : c.maxLocals = 7) (hown : s.vm.findClass "ZipGuardLaw" = some m.cls) (ht : ∀ w ∈ zt, w.before #[Value.ref b] s = true) (hX : va_X b 6 xs s s.heap) (hbl : b < s.heap.size) (hlk : meth.locks = false) (hl9 : l.stackTraces = false) (hG : zG s) (hA : ∀ q, s.heap.size ≤ q → A q) (hAe : ∀ q, A q → s.heap.size ≤ q) (h0 : Nat) (qt : Nat) (qd : Nat) (qa : Nat) (qu : Nat) (qb : Nat) (qe : Nat) (qo : Nat) (cB : ClassId) (mm : Nat) (m_tape : Nat) (m_methods : Nat) (m_packed : Nat) (m_sizes : Nat) (m_sums : Nat) (m_datas : Nat) (m_locals : Nat) (m_localEnds : Nat) (m_names : Nat) (m_nameSizes : Nat) (m_states : Nat) (m_starts : Nat) (m_counts : Nat) (m_written : Nat) (m_lengths : Nat) (m_small : Nat) (m_codes : Nat) (m_smallCodes : Nat) (cM : ClassId) (qz : Nat) (cZ : ClassId) (hv1 : xs (1 : Int32).toNatClampNeg = 3) (hK : va_K D zcl [(cB, .byte), (cM, .byte), (cZ, .long)] s) (hP : va_P D zcl [(h0, .inr (0, [.ref qt, .ref qd, .ref qa, .ref qu])), (qt, .inr (1, [.ref qb, .int 0])), (qb, .inl (cB, 20000, .inl (fun _ => 0))), (qd, .inr (2, [.ref qe, .int 0, .int 0, .int (-1), .ref qt])), (qa, .inr (3, [.int 20000, .int 100, .int 0, .ref qo, .int (-1)])), (mm, .inr (8, [.ref m_tape, .int 0, .int 0, .int (-1), .int 20000, .int 100, .int 0, .ref m_methods, .ref m_packed, .ref m_sizes, .ref m_sums, .ref m_datas, .ref m_locals, .ref m_localEnds, .ref m_names, .ref m_nameSizes, .ref m_states, .ref m_starts, .ref m_counts, .ref m_written, .int 0, .int 0, .int 0, .int 0, .ref m_lengths, .ref m_small, .ref m_codes, .ref m_smallCodes, .int 0, .int 0, .int 0])), (m_tape, .inl (cM, 20000, .inl (fun _ => 0))), (qz, .inl (cZ, 1, .inr (.inl (fun _ => 0))))] H) (hD : va_D A [(h0, .inr (0, [.ref qt, .ref qd, .ref qa, .ref qu])), (qt, .inr (1, [.ref qb, .int 0])), (qb, .inl (cB, 20000, .inl (fun _ => 0))), (qd, .inr (2, [.ref qe, .int 0, .int 0, .int (-1), .ref qt])), (qa, .inr (3, [.int 20000, .int 100, .int 0, .ref qo, .int (-1)])), (mm, .inr (8, [.ref m_tape, .int 0, .int 0, .int (-1), .int 20000, .int 100, .int 0, .ref m_methods, .ref m_packed, .ref m_sizes, .ref m_sums, .ref m_datas, .ref m_locals, .ref m_localEnds, .ref m_names, .ref m_nameSizes, .ref m_states, .ref m_starts, .ref m_counts, .ref m_written, .int 0, .int 0, .int 0, .int 0, .ref m_lengths, .ref m_small, .ref m_codes, .ref m_smallCodes, .int 0, .int 0, .int 0])), (m_tape, .inl (cM, 20000, .inl (fun _ => 0))), (qz, .inl (cZ, 1, .inr (.inl (fun _ => 0))))]) (hS : va_S A s.heap H locs) (hl : lv_has ls 7 [(4, .int 0), (3, .ref qz), (2, .ref mm), (1, .ref h0), (0, .ref b)]) : W p l e room_1 s m #[Value.ref b] below meth c H locs 178 131109 (lw_Z below #[Value.ref b] s) (F0 m 690 ls []) := by
  have hbA : ¬ A b := fun h => absurd (hAe b h) (Nat.not_le.mpr hbl)
  refine lv_aload_n hx hb d_L_law_690 rfl (lv_at hl 3 rfl) ?_
  refine lv_aload_n hx hb d_L_law_691 rfl (lv_at hl 4 rfl) ?_
  refine lv_iload hx hb d_L_law_692 (lv_at hl 0 rfl) ?_
  refine lv_iconst (v := 1) hx hb d_L_law_694 (by decide) ?_
  refine lv_iadd hx hb d_L_law_695 ?_
  refine lv_topi (fun z1 e_z1 => ?_)
  have e_z1 : z1 = 1 := e_z1.trans (by decide)
  subst e_z1
  refine va_sld hx hb hX hbl hbA hS (by unfold vp_in; decide) d_L_law_696 ?_
  rw [hv1]
  refine lv_aload_n hx hb d_L_law_697 rfl (lv_at hl 1 rfl) ?_
  refine zji (wr := [(qb, .inl (cB, 20000, .inl (fun _ => 0))), (mm, .inr (8, [.ref m_tape, .int 0, .int 0, .int (-1), .int 20000, .int 100, .int 0, .ref m_methods, .ref m_packed, .ref m_sizes, .ref m_sums, .ref m_datas, .ref m_locals, .ref m_localEnds, .ref m_names, .ref m_nameSizes, .ref m_states, .ref m_starts, .ref m_counts, .ref m_written, .int 0, .int 0, .int 0, .int 0, .ref m_lengths, .ref m_small, .ref m_codes, .ref m_smallCodes, .int 0, .int 0, .int 0])), (m_tape, .inl (cM, 20000, .inl (fun _ => 0)))]) (zrunSW (n := 3) (As := [.ref h0, .int 3, .ref qz]) (rest := []) ⟨hx, hb, hml, hown, ht⟩ (c_L_ab3 l D _ h0 qt qd qa qu qb qe qo 0 0 (-1) 20000 100 0 (-1) qz cZ (fun _ => 0) ) zm_738 zm_739 zm_64 zm_740 rfl rfl (by decide +kernel) ⟨Nat.le_of_ble_eq_true rfl, Nat.le_of_ble_eq_true rfl⟩ (zpre zBlind_t hK hP hD [0, 1, 3, 4, 7] [2] rfl (by decide) rfl (fun _ _ _ => trivial)) rfl rfl hl.1 rfl (lv_room (Nat.le_of_ble_eq_true rfl)) d_L_law_698 ⟨Nat.le_of_ble_eq_true rfl, Nat.le_of_ble_eq_true rfl⟩) hK hP hD hS hA [0, 1, 3, 4, 7] [2, 5, 6] rfl rfl (by decide) (by decide) (fun r2 u H locs hp3 hP hD hK hS => ?_)
  have hP : va_P D zcl [(qb, .inl (cB, 20000, .inl (fun _ => 0))), (mm, .inr (8, [.ref m_tape, .int 0, .int 0, .int (-1), .int 20000, .int 100, .int 0, .ref m_methods, .ref m_packed, .ref m_sizes, .ref m_sums, .ref m_datas, .ref m_locals, .ref m_localEnds, .ref m_names, .ref m_nameSizes, .ref m_states, .ref m_starts, .ref m_counts, .ref m_written, .int 0, .int 0, .int 0, .int 0, .ref m_lengths, .ref m_small, .ref m_codes, .ref m_smallCodes, .int 0, .int 0, .int 0])), (m_tape, .inl (cM, 20000, .inl (fun _ => 0))), (qz, .inl (cZ, 1, .inr (.inl (vp_updL (fun _ => 0) (0 : Int32).toNatClampNeg (20000 : Int32).toInt64))))] H := hP
  have hD : va_D A [(qb, .inl (cB, 20000, .inl (fun _ => 0))), (mm, .inr (8, [.ref m_tape, .int 0, .int 0, .int (-1), .int 20000, .int 100, .int 0, .ref m_methods, .ref m_packed, .ref m_sizes, .ref m_sums, .ref m_datas, .ref m_locals, .ref m_localEnds, .ref m_names, .ref m_nameSizes, .ref m_states, .ref m_starts, .ref m_counts, .ref m_written, .int 0, .int 0, .int 0, .int 0, .ref m_lengths, .ref m_small, .ref m_codes, .ref m_smallCodes, .int 0, .int 0, .int 0])), (m_tape, .inl (cM, 20000, .inl (fun _ => 0))), (qz, .inl (cZ, 1, .inr (.inl (vp_updL (fun _ => 0) (0 : Int32).toNatClampNeg (20000 : Int32).toInt64))))] := hD
  have hK : va_K D zcl [(cB, .byte), (cM, .byte), (cZ, .long), (cZ, .long)] s := hK
  have hp3 := hp3.symm
  subst hp3
  refine lv_istore (lv' := [(5, .int 0), (4, .int 0), (3, .ref qz), (2, .ref mm), (1, .ref h0), (0, .ref b)]) hx hb d_L_law_701 hl (by decide) rfl (fun ls hl => ?_)
  refine lv_aload_n hx hb d_L_law_703 rfl (lv_at hl 3 rfl) ?_
  refine lv_aload_n hx hb d_L_law_704 rfl (lv_at hl 5 rfl) ?_
  refine lv_iload hx hb d_L_law_705 (lv_at hl 1 rfl) ?_
  refine lv_iconst (v := 1) hx hb d_L_law_707 (by decide) ?_
  refine lv_iadd hx hb d_L_law_708 ?_
  refine lv_topi (fun z4 e_z4 => ?_)
  have e_z4 : z4 = 1 := e_z4.trans (by decide)
  subst e_z4
  refine va_sld hx hb hX hbl hbA hS (by unfold vp_in; decide) d_L_law_709 ?_
  rw [hv1]
  refine zji (wr := [(qb, .inl (cB, 20000, .inl (fun _ => 0))), (m_tape, .inl (cM, 20000, .inl (fun _ => 0))), (qz, .inl (cZ, 1, .inr (.inl (vp_updL (fun _ => 0) (0 : Int32).toNatClampNeg (20000 : Int32).toInt64))))]) (va_runV (As := [.int 3]) (rest := []) ⟨hx, hb, hml, hown, ht⟩ (c_M_ab3 l D _ mm m_tape m_methods m_packed m_sizes m_sums m_datas m_locals m_localEnds m_names m_nameSizes m_states m_starts m_counts m_written m_lengths m_small m_codes m_smallCodes 0 0 (-1) 20000 100 0 0 0 0 0 0 0 0 ) (cwV 1 ht (zt_goodV zm_1029 zm_1030 zm_1031 zm_79 zm_1032) rfl rfl rfl (by decide +kernel) ⟨Nat.le_of_ble_eq_true rfl, Nat.le_of_ble_eq_true rfl⟩) (zpreV zBlind_t hK hP hD [1] [] rfl (by decide) rfl (fun _ _ _ => trivial) (va_recv (q := ("ZipGuardModel", F_M, 31)) hK hP rfl (q0 := 1) (ci := 8) rfl)) rfl rfl hl.1 rfl (lv_room (Nat.le_of_ble_eq_true rfl)) d_L_law_710 ⟨Nat.le_of_ble_eq_true rfl, Nat.le_of_ble_eq_true rfl⟩) hK hP hD hS hA [1] [0, 2, 3] rfl rfl (by decide) (by decide) (fun r5 u H locs hp6 hP hD hK hS => ?_)
  have hP : va_P D zcl [(qb, .inl (cB, 20000, .inl (fun _ => 0))), (m_tape, .inl (cM, 20000, .inl (fun _ => 0))), (qz, .inl (cZ, 1, .inr (.inl (vp_updL (fun _ => 0) (0 : Int32).toNatClampNeg (20000 : Int32).toInt64)))), (mm, .inr (8, [.ref m_tape, .int 0, .int 0, .int (-1), .int 20000, .int 100, .int 0, .ref m_methods, .ref m_packed, .ref m_sizes, .ref m_sums, .ref m_datas, .ref m_locals, .ref m_localEnds, .ref m_names, .ref m_nameSizes, .ref m_states, .ref m_starts, .ref m_counts, .ref m_written, .int 0, .int 0, .int 0, .int 0, .ref m_lengths, .ref m_small, .ref m_codes, .ref m_smallCodes, .int 0, .int 0, .int 0]))] H := hP
  have hD : va_D A [(qb, .inl (cB, 20000, .inl (fun _ => 0))), (m_tape, .inl (cM, 20000, .inl (fun _ => 0))), (qz, .inl (cZ, 1, .inr (.inl (vp_updL (fun _ => 0) (0 : Int32).toNatClampNeg (20000 : Int32).toInt64)))), (mm, .inr (8, [.ref m_tape, .int 0, .int 0, .int (-1), .int 20000, .int 100, .int 0, .ref m_methods, .ref m_packed, .ref m_sizes, .ref m_sums, .ref m_datas, .ref m_locals, .ref m_localEnds, .ref m_names, .ref m_nameSizes, .ref m_states, .ref m_starts, .ref m_counts, .ref m_written, .int 0, .int 0, .int 0, .int 0, .ref m_lengths, .ref m_small, .ref m_codes, .ref m_smallCodes, .int 0, .int 0, .int 0]))] := hD
  have hK : va_K D zcl [(cB, .byte), (cM, .byte), (cZ, .long), (cZ, .long)] s := hK
  have hp6 := hp6.symm
  subst hp6
  refine lv_istore (lv' := [(6, .int 20000), (5, .int 0), (4, .int 0), (3, .ref qz), (2, .ref mm), (1, .ref h0), (0, .ref b)]) hx hb d_L_law_713 hl (by decide) rfl (fun ls hl => ?_)
  refine lv_aload_n hx hb d_L_law_715 rfl (lv_at hl 4 rfl) ?_
  refine zji (wr := [(qb, .inl (cB, 20000, .inl (fun _ => 0))), (m_tape, .inl (cM, 20000, .inl (fun _ => 0))), (qz, .inl (cZ, 1, .inr (.inl (vp_updL (fun _ => 0) (0 : Int32).toNatClampNeg (20000 : Int32).toInt64))))]) (va_runV (As := []) (rest := []) ⟨hx, hb, hml, hown, ht⟩ (c_M_thrown l D _ mm m_tape m_methods m_packed m_sizes m_sums m_datas m_locals m_localEnds m_names m_nameSizes m_states m_starts m_counts m_written m_lengths m_small m_codes m_smallCodes 0 0 (-1) 20000 100 0 0 0 0 0 0 0 0 ) (cwV 0 ht (zt_goodV zm_847 zm_848 zm_849 zm_79 zm_850) rfl rfl rfl (by decide +kernel) ⟨Nat.le_of_ble_eq_true rfl, Nat.le_of_ble_eq_true rfl⟩) (zpreV zBlind_t hK hP hD [3] [] rfl (by decide) rfl (fun _ _ _ => trivial) (va_recv (q := ("ZipGuardModel", F_M, 31)) hK hP rfl (q0 := 3) (ci := 8) rfl)) rfl rfl hl.1 rfl (lv_room (Nat.le_of_ble_eq_true rfl)) d_L_law_716 ⟨Nat.le_of_ble_eq_true rfl, Nat.le_of_ble_eq_true rfl⟩) hK hP hD hS hA [3] [0, 1, 2] rfl rfl (by decide) (by decide) (fun r7 u H locs hp8 hP hD hK hS => ?_)
  have hP : va_P D zcl [(qb, .inl (cB, 20000, .inl (fun _ => 0))), (m_tape, .inl (cM, 20000, .inl (fun _ => 0))), (qz, .inl (cZ, 1, .inr (.inl (vp_updL (fun _ => 0) (0 : Int32).toNatClampNeg (20000 : Int32).toInt64)))), (mm, .inr (8, [.ref m_tape, .int 0, .int 0, .int (-1), .int 20000, .int 100, .int 0, .ref m_methods, .ref m_packed, .ref m_sizes, .ref m_sums, .ref m_datas, .ref m_locals, .ref m_localEnds, .ref m_names, .ref m_nameSizes, .ref m_states, .ref m_starts, .ref m_counts, .ref m_written, .int 0, .int 0, .int 0, .int 0, .ref m_lengths, .ref m_small, .ref m_codes, .ref m_smallCodes, .int 0, .int 0, .int 0]))] H := hP
  have hD : va_D A [(qb, .inl (cB, 20000, .inl (fun _ => 0))), (m_tape, .inl (cM, 20000, .inl (fun _ => 0))), (qz, .inl (cZ, 1, .inr (.inl (vp_updL (fun _ => 0) (0 : Int32).toNatClampNeg (20000 : Int32).toInt64)))), (mm, .inr (8, [.ref m_tape, .int 0, .int 0, .int (-1), .int 20000, .int 100, .int 0, .ref m_methods, .ref m_packed, .ref m_sizes, .ref m_sums, .ref m_datas, .ref m_locals, .ref m_localEnds, .ref m_names, .ref m_nameSizes, .ref m_states, .ref m_starts, .ref m_counts, .ref m_written, .int 0, .int 0, .int 0, .int 0, .ref m_lengths, .ref m_small, .ref m_codes, .ref m_smallCodes, .int 0, .int 0, .int 0]))] := hD
  have hK : va_K D zcl [(cB, .byte), (cM, .byte), (cZ, .long), (cZ, .long)] s := hK
  have hp8 := hp8.symm
  subst hp8
  refine lv_iload hx hb d_L_law_719 (lv_at hl 1 rfl) ?_
  refine lv_icmp_eq (tgt := 726) hx hb d_L_law_721 (by decide) (fun _ => ?_) (fun h => absurd (rfl) h)
  refine lv_iload hx hb d_L_law_726 (lv_at hl 1 rfl) ?_
  refine lv_if_ne (tgt := 743) hx hb d_L_law_728 (by decide) (fun h => absurd (by decide) h) (fun _ => ?_)
  refine lv_aload_n hx hb d_L_law_731 rfl (lv_at hl 3 rfl) ?_
  refine lv_iconst (v := 0) hx hb d_L_law_732 (by decide) ?_
  refine va_lald hx hb hK hP 2 2 rfl rfl (by unfold vp_in; decide) d_L_law_733 ?_
  refine lv_topl (fun x11 e_x11 => ?_)
  have e_x11 : x11 = (20000 : Int32).toInt64 := by rw [e_x11]; exact pk_uLs
  subst e_x11
  refine lv_iload hx hb d_L_law_734 (lv_at hl 0 rfl) ?_
  refine lv_i2l hx hb d_L_law_736 rfl ?_
  refine W.lcmp hx hb d_L_law_737 ?_
  refine lv_topi (fun x12 e_x12 => ?_)
  have e_x12 : x12 = 0 := by rw [e_x12]; simp [lg_cmp]
  subst e_x12
  refine lv_if_eq (tgt := 743) hx hb d_L_law_738 (by decide) (fun _ => ?_) (fun h => absurd (by decide) h)
  refine lv_goto (tgt := 746) hx hb d_L_law_743 (by decide) ?_
  exact zl_tail hx hb hr hml hown ht hX hbl hlk hl9 hG hA hAe hS (lv_sub hl [2, 6] rfl) (Nat.le_of_ble_eq_true rfl) (Nat.le_of_ble_eq_true rfl)
set_option maxHeartbeats 4000000 in
set_option maxRecDepth 100000 in
theorem zl_11_4 {p : Program} {l : Launch} {e : Env} {s : State} {m : MethodId} {below : List Frame} {meth : Method} {c : Code} {b : Nat} {xs : Nat → Int32} {A : Nat → Prop} {D : va_G} {H : Heap} {locs : List Loc} {ls : Array Slot} (hx : p.tables.exec = Jvm.exec) (hb : c.code = code) (hr : meth.sig.returnType = ret) (hml : c.maxLocals = 7) (hown : s.vm.findClass "ZipGuardLaw" = some m.cls) (ht : ∀ w ∈ zt, w.before #[Value.ref b] s = true) (hX : va_X b 6 xs s s.heap) (hbl : b < s.heap.size) (hlk : meth.locks = false) (hl9 : l.stackTraces = false) (hG : zG s) (hA : ∀ q, s.heap.size ≤ q → A q) (hAe : ∀ q, A q → s.heap.size ≤ q) (h0 : Nat) (qt : Nat) (qd : Nat) (qa : Nat) (qu : Nat) (qb : Nat) (qe : Nat) (qo : Nat) (cB : ClassId) (mm : Nat) (m_tape : Nat) (m_methods : Nat) (m_packed : Nat) (m_sizes : Nat) (m_sums : Nat) (m_datas : Nat) (m_locals : Nat) (m_localEnds : Nat) (m_names : Nat) (m_nameSizes : Nat) (m_states : Nat) (m_starts : Nat) (m_counts : Nat) (m_written : Nat) (m_lengths : Nat) (m_small : Nat) (m_codes : Nat) (m_smallCodes : Nat) (cM : ClassId) (qz : Nat) (cZ : ClassId) (hv1 : xs (1 : Int32).toNatClampNeg = 4) (hK : va_K D zcl [(cB, .byte), (cM, .byte), (cZ, .long)] s) (hP : va_P D zcl [(h0, .inr (0, [.ref qt, .ref qd, .ref qa, .ref qu])), (qt, .inr (1, [.ref qb, .int 0])), (qb, .inl (cB, 20000, .inl (fun _ => 0))), (qd, .inr (2, [.ref qe, .int 0, .int 0, .int (-1), .ref qt])), (qa, .inr (3, [.int 20000, .int 100, .int 0, .ref qo, .int (-1)])), (mm, .inr (8, [.ref m_tape, .int 0, .int 0, .int (-1), .int 20000, .int 100, .int 0, .ref m_methods, .ref m_packed, .ref m_sizes, .ref m_sums, .ref m_datas, .ref m_locals, .ref m_localEnds, .ref m_names, .ref m_nameSizes, .ref m_states, .ref m_starts, .ref m_counts, .ref m_written, .int 0, .int 0, .int 0, .int 0, .ref m_lengths, .ref m_small, .ref m_codes, .ref m_smallCodes, .int 0, .int 0, .int 0])), (m_tape, .inl (cM, 20000, .inl (fun _ => 0))), (qz, .inl (cZ, 1, .inr (.inl (fun _ => 0))))] H) (hD : va_D A [(h0, .inr (0, [.ref qt, .ref qd, .ref qa, .ref qu])), (qt, .inr (1, [.ref qb, .int 0])), (qb, .inl (cB, 20000, .inl (fun _ => 0))), (qd, .inr (2, [.ref qe, .int 0, .int 0, .int (-1), .ref qt])), (qa, .inr (3, [.int 20000, .int 100, .int 0, .ref qo, .int (-1)])), (mm, .inr (8, [.ref m_tape, .int 0, .int 0, .int (-1), .int 20000, .int 100, .int 0, .ref m_methods, .ref m_packed, .ref m_sizes, .ref m_sums, .ref m_datas, .ref m_locals, .ref m_localEnds, .ref m_names, .ref m_nameSizes, .ref m_states, .ref m_starts, .ref m_counts, .ref m_written, .int 0, .int 0, .int 0, .int 0, .ref m_lengths, .ref m_small, .ref m_codes, .ref m_smallCodes, .int 0, .int 0, .int 0])), (m_tape, .inl (cM, 20000, .inl (fun _ => 0))), (qz, .inl (cZ, 1, .inr (.inl (fun _ => 0))))]) (hS : va_S A s.heap H locs) (hl : lv_has ls 7 [(4, .int 0), (3, .ref qz), (2, .ref mm), (1, .ref h0), (0, .ref b)]) : W p l e room_1 s m #[Value.ref b] below meth c H locs 178 131109 (lw_Z below #[Value.ref b] s) (F0 m 690 ls []) := by
  have hbA : ¬ A b := fun h => absurd (hAe b h) (Nat.not_le.mpr hbl)
  refine lv_aload_n hx hb d_L_law_690 rfl (lv_at hl 3 rfl) ?_
  refine lv_aload_n hx hb d_L_law_691 rfl (lv_at hl 4 rfl) ?_
  refine lv_iload hx hb d_L_law_692 (lv_at hl 0 rfl) ?_
  refine lv_iconst (v := 1) hx hb d_L_law_694 (by decide) ?_
  refine lv_iadd hx hb d_L_law_695 ?_
  refine lv_topi (fun z1 e_z1 => ?_)
  have e_z1 : z1 = 1 := e_z1.trans (by decide)
  subst e_z1
  refine va_sld hx hb hX hbl hbA hS (by unfold vp_in; decide) d_L_law_696 ?_
  rw [hv1]
  refine lv_aload_n hx hb d_L_law_697 rfl (lv_at hl 1 rfl) ?_
  refine zji (wr := [(qb, .inl (cB, 20000, .inl (fun _ => 0))), (mm, .inr (8, [.ref m_tape, .int 0, .int 0, .int (-1), .int 20000, .int 100, .int 0, .ref m_methods, .ref m_packed, .ref m_sizes, .ref m_sums, .ref m_datas, .ref m_locals, .ref m_localEnds, .ref m_names, .ref m_nameSizes, .ref m_states, .ref m_starts, .ref m_counts, .ref m_written, .int 0, .int 0, .int 0, .int 0, .ref m_lengths, .ref m_small, .ref m_codes, .ref m_smallCodes, .int 0, .int 0, .int 0])), (m_tape, .inl (cM, 20000, .inl (fun _ => 0)))]) (zrunSW (n := 3) (As := [.ref h0, .int 4, .ref qz]) (rest := []) ⟨hx, hb, hml, hown, ht⟩ (c_L_ab4 l D _ h0 qt qd qa qu qb qe qo 0 0 (-1) 20000 100 0 (-1) qz cZ (fun _ => 0) ) zm_738 zm_739 zm_64 zm_740 rfl rfl (by decide +kernel) ⟨Nat.le_of_ble_eq_true rfl, Nat.le_of_ble_eq_true rfl⟩ (zpre zBlind_t hK hP hD [0, 1, 3, 4, 7] [2] rfl (by decide) rfl (fun _ _ _ => trivial)) rfl rfl hl.1 rfl (lv_room (Nat.le_of_ble_eq_true rfl)) d_L_law_698 ⟨Nat.le_of_ble_eq_true rfl, Nat.le_of_ble_eq_true rfl⟩) hK hP hD hS hA [0, 1, 3, 4, 7] [2, 5, 6] rfl rfl (by decide) (by decide) (fun r2 u H locs hp3 hP hD hK hS => ?_)
  have hP : va_P D zcl [(qb, .inl (cB, 20000, .inl (fun _ => 0))), (mm, .inr (8, [.ref m_tape, .int 0, .int 0, .int (-1), .int 20000, .int 100, .int 0, .ref m_methods, .ref m_packed, .ref m_sizes, .ref m_sums, .ref m_datas, .ref m_locals, .ref m_localEnds, .ref m_names, .ref m_nameSizes, .ref m_states, .ref m_starts, .ref m_counts, .ref m_written, .int 0, .int 0, .int 0, .int 0, .ref m_lengths, .ref m_small, .ref m_codes, .ref m_smallCodes, .int 0, .int 0, .int 0])), (m_tape, .inl (cM, 20000, .inl (fun _ => 0))), (qz, .inl (cZ, 1, .inr (.inl (vp_updL (fun _ => 0) (0 : Int32).toNatClampNeg (100 : Int32).toInt64))))] H := hP
  have hD : va_D A [(qb, .inl (cB, 20000, .inl (fun _ => 0))), (mm, .inr (8, [.ref m_tape, .int 0, .int 0, .int (-1), .int 20000, .int 100, .int 0, .ref m_methods, .ref m_packed, .ref m_sizes, .ref m_sums, .ref m_datas, .ref m_locals, .ref m_localEnds, .ref m_names, .ref m_nameSizes, .ref m_states, .ref m_starts, .ref m_counts, .ref m_written, .int 0, .int 0, .int 0, .int 0, .ref m_lengths, .ref m_small, .ref m_codes, .ref m_smallCodes, .int 0, .int 0, .int 0])), (m_tape, .inl (cM, 20000, .inl (fun _ => 0))), (qz, .inl (cZ, 1, .inr (.inl (vp_updL (fun _ => 0) (0 : Int32).toNatClampNeg (100 : Int32).toInt64))))] := hD
  have hK : va_K D zcl [(cB, .byte), (cM, .byte), (cZ, .long), (cZ, .long)] s := hK
  have hp3 := hp3.symm
  subst hp3
  refine lv_istore (lv' := [(5, .int 0), (4, .int 0), (3, .ref qz), (2, .ref mm), (1, .ref h0), (0, .ref b)]) hx hb d_L_law_701 hl (by decide) rfl (fun ls hl => ?_)
  refine lv_aload_n hx hb d_L_law_703 rfl (lv_at hl 3 rfl) ?_
  refine lv_aload_n hx hb d_L_law_704 rfl (lv_at hl 5 rfl) ?_
  refine lv_iload hx hb d_L_law_705 (lv_at hl 1 rfl) ?_
  refine lv_iconst (v := 1) hx hb d_L_law_707 (by decide) ?_
  refine lv_iadd hx hb d_L_law_708 ?_
  refine lv_topi (fun z4 e_z4 => ?_)
  have e_z4 : z4 = 1 := e_z4.trans (by decide)
  subst e_z4
  refine va_sld hx hb hX hbl hbA hS (by unfold vp_in; decide) d_L_law_709 ?_
  rw [hv1]
  refine zji (wr := [(qb, .inl (cB, 20000, .inl (fun _ => 0))), (m_tape, .inl (cM, 20000, .inl (fun _ => 0))), (qz, .inl (cZ, 1, .inr (.inl (vp_updL (fun _ => 0) (0 : Int32).toNatClampNeg (100 : Int32).toInt64))))]) (va_runV (As := [.int 4]) (rest := []) ⟨hx, hb, hml, hown, ht⟩ (c_M_ab4 l D _ mm m_tape m_methods m_packed m_sizes m_sums m_datas m_locals m_localEnds m_names m_nameSizes m_states m_starts m_counts m_written m_lengths m_small m_codes m_smallCodes 0 0 (-1) 20000 100 0 0 0 0 0 0 0 0 ) (cwV 1 ht (zt_goodV zm_1029 zm_1030 zm_1031 zm_79 zm_1032) rfl rfl rfl (by decide +kernel) ⟨Nat.le_of_ble_eq_true rfl, Nat.le_of_ble_eq_true rfl⟩) (zpreV zBlind_t hK hP hD [1] [] rfl (by decide) rfl (fun _ _ _ => trivial) (va_recv (q := ("ZipGuardModel", F_M, 31)) hK hP rfl (q0 := 1) (ci := 8) rfl)) rfl rfl hl.1 rfl (lv_room (Nat.le_of_ble_eq_true rfl)) d_L_law_710 ⟨Nat.le_of_ble_eq_true rfl, Nat.le_of_ble_eq_true rfl⟩) hK hP hD hS hA [1] [0, 2, 3] rfl rfl (by decide) (by decide) (fun r5 u H locs hp6 hP hD hK hS => ?_)
  have hP : va_P D zcl [(qb, .inl (cB, 20000, .inl (fun _ => 0))), (m_tape, .inl (cM, 20000, .inl (fun _ => 0))), (qz, .inl (cZ, 1, .inr (.inl (vp_updL (fun _ => 0) (0 : Int32).toNatClampNeg (100 : Int32).toInt64)))), (mm, .inr (8, [.ref m_tape, .int 0, .int 0, .int (-1), .int 20000, .int 100, .int 0, .ref m_methods, .ref m_packed, .ref m_sizes, .ref m_sums, .ref m_datas, .ref m_locals, .ref m_localEnds, .ref m_names, .ref m_nameSizes, .ref m_states, .ref m_starts, .ref m_counts, .ref m_written, .int 0, .int 0, .int 0, .int 0, .ref m_lengths, .ref m_small, .ref m_codes, .ref m_smallCodes, .int 0, .int 0, .int 0]))] H := hP
  have hD : va_D A [(qb, .inl (cB, 20000, .inl (fun _ => 0))), (m_tape, .inl (cM, 20000, .inl (fun _ => 0))), (qz, .inl (cZ, 1, .inr (.inl (vp_updL (fun _ => 0) (0 : Int32).toNatClampNeg (100 : Int32).toInt64)))), (mm, .inr (8, [.ref m_tape, .int 0, .int 0, .int (-1), .int 20000, .int 100, .int 0, .ref m_methods, .ref m_packed, .ref m_sizes, .ref m_sums, .ref m_datas, .ref m_locals, .ref m_localEnds, .ref m_names, .ref m_nameSizes, .ref m_states, .ref m_starts, .ref m_counts, .ref m_written, .int 0, .int 0, .int 0, .int 0, .ref m_lengths, .ref m_small, .ref m_codes, .ref m_smallCodes, .int 0, .int 0, .int 0]))] := hD
  have hK : va_K D zcl [(cB, .byte), (cM, .byte), (cZ, .long), (cZ, .long)] s := hK
  have hp6 := hp6.symm
  subst hp6
  refine lv_istore (lv' := [(6, .int 100), (5, .int 0), (4, .int 0), (3, .ref qz), (2, .ref mm), (1, .ref h0), (0, .ref b)]) hx hb d_L_law_713 hl (by decide) rfl (fun ls hl => ?_)
  refine lv_aload_n hx hb d_L_law_715 rfl (lv_at hl 4 rfl) ?_
  refine zji (wr := [(qb, .inl (cB, 20000, .inl (fun _ => 0))), (m_tape, .inl (cM, 20000, .inl (fun _ => 0))), (qz, .inl (cZ, 1, .inr (.inl (vp_updL (fun _ => 0) (0 : Int32).toNatClampNeg (100 : Int32).toInt64))))]) (va_runV (As := []) (rest := []) ⟨hx, hb, hml, hown, ht⟩ (c_M_thrown l D _ mm m_tape m_methods m_packed m_sizes m_sums m_datas m_locals m_localEnds m_names m_nameSizes m_states m_starts m_counts m_written m_lengths m_small m_codes m_smallCodes 0 0 (-1) 20000 100 0 0 0 0 0 0 0 0 ) (cwV 0 ht (zt_goodV zm_847 zm_848 zm_849 zm_79 zm_850) rfl rfl rfl (by decide +kernel) ⟨Nat.le_of_ble_eq_true rfl, Nat.le_of_ble_eq_true rfl⟩) (zpreV zBlind_t hK hP hD [3] [] rfl (by decide) rfl (fun _ _ _ => trivial) (va_recv (q := ("ZipGuardModel", F_M, 31)) hK hP rfl (q0 := 3) (ci := 8) rfl)) rfl rfl hl.1 rfl (lv_room (Nat.le_of_ble_eq_true rfl)) d_L_law_716 ⟨Nat.le_of_ble_eq_true rfl, Nat.le_of_ble_eq_true rfl⟩) hK hP hD hS hA [3] [0, 1, 2] rfl rfl (by decide) (by decide) (fun r7 u H locs hp8 hP hD hK hS => ?_)
  have hP : va_P D zcl [(qb, .inl (cB, 20000, .inl (fun _ => 0))), (m_tape, .inl (cM, 20000, .inl (fun _ => 0))), (qz, .inl (cZ, 1, .inr (.inl (vp_updL (fun _ => 0) (0 : Int32).toNatClampNeg (100 : Int32).toInt64)))), (mm, .inr (8, [.ref m_tape, .int 0, .int 0, .int (-1), .int 20000, .int 100, .int 0, .ref m_methods, .ref m_packed, .ref m_sizes, .ref m_sums, .ref m_datas, .ref m_locals, .ref m_localEnds, .ref m_names, .ref m_nameSizes, .ref m_states, .ref m_starts, .ref m_counts, .ref m_written, .int 0, .int 0, .int 0, .int 0, .ref m_lengths, .ref m_small, .ref m_codes, .ref m_smallCodes, .int 0, .int 0, .int 0]))] H := hP
  have hD : va_D A [(qb, .inl (cB, 20000, .inl (fun _ => 0))), (m_tape, .inl (cM, 20000, .inl (fun _ => 0))), (qz, .inl (cZ, 1, .inr (.inl (vp_updL (fun _ => 0) (0 : Int32).toNatClampNeg (100 : Int32).toInt64)))), (mm, .inr (8, [.ref m_tape, .int 0, .int 0, .int (-1), .int 20000, .int 100, .int 0, .ref m_methods, .ref m_packed, .ref m_sizes, .ref m_sums, .ref m_datas, .ref m_locals, .ref m_localEnds, .ref m_names, .ref m_nameSizes, .ref m_states, .ref m_starts, .ref m_counts, .ref m_written, .int 0, .int 0, .int 0, .int 0, .ref m_lengths, .ref m_small, .ref m_codes, .ref m_smallCodes, .int 0, .int 0, .int 0]))] := hD
  have hK : va_K D zcl [(cB, .byte), (cM, .byte), (cZ, .long), (cZ, .long)] s := hK
  have hp8 := hp8.symm
  subst hp8
  refine lv_iload hx hb d_L_law_719 (lv_at hl 1 rfl) ?_
  refine lv_icmp_eq (tgt := 726) hx hb d_L_law_721 (by decide) (fun _ => ?_) (fun h => absurd (rfl) h)
  refine lv_iload hx hb d_L_law_726 (lv_at hl 1 rfl) ?_
  refine lv_if_ne (tgt := 743) hx hb d_L_law_728 (by decide) (fun h => absurd (by decide) h) (fun _ => ?_)
  refine lv_aload_n hx hb d_L_law_731 rfl (lv_at hl 3 rfl) ?_
  refine lv_iconst (v := 0) hx hb d_L_law_732 (by decide) ?_
  refine va_lald hx hb hK hP 2 2 rfl rfl (by unfold vp_in; decide) d_L_law_733 ?_
  refine lv_topl (fun x11 e_x11 => ?_)
  have e_x11 : x11 = (100 : Int32).toInt64 := by rw [e_x11]; exact pk_uLs
  subst e_x11
  refine lv_iload hx hb d_L_law_734 (lv_at hl 0 rfl) ?_
  refine lv_i2l hx hb d_L_law_736 rfl ?_
  refine W.lcmp hx hb d_L_law_737 ?_
  refine lv_topi (fun x12 e_x12 => ?_)
  have e_x12 : x12 = 0 := by rw [e_x12]; simp [lg_cmp]
  subst e_x12
  refine lv_if_eq (tgt := 743) hx hb d_L_law_738 (by decide) (fun _ => ?_) (fun h => absurd (by decide) h)
  refine lv_goto (tgt := 746) hx hb d_L_law_743 (by decide) ?_
  exact zl_tail hx hb hr hml hown ht hX hbl hlk hl9 hG hA hAe hS (lv_sub hl [2, 6] rfl) (Nat.le_of_ble_eq_true rfl) (Nat.le_of_ble_eq_true rfl)
set_option maxHeartbeats 4000000 in
set_option maxRecDepth 100000 in
theorem zl_11_X {p : Program} {l : Launch} {e : Env} {s : State} {m : MethodId} {below : List Frame} {meth : Method} {c : Code} {b : Nat} {xs : Nat → Int32} {A : Nat → Prop} {D : va_G} {H : Heap} {locs : List Loc} {ls : Array Slot} (hx : p.tables.exec = Jvm.exec) (hb : c.code = code) (hr : meth.sig.returnType = ret) (hml : c.maxLocals = 7) (hown : s.vm.findClass "ZipGuardLaw" = some m.cls) (ht : ∀ w ∈ zt, w.before #[Value.ref b] s = true) (hX : va_X b 6 xs s s.heap) (hbl : b < s.heap.size) (hlk : meth.locks = false) (hl9 : l.stackTraces = false) (hG : zG s) (hA : ∀ q, s.heap.size ≤ q → A q) (hAe : ∀ q, A q → s.heap.size ≤ q) (h0 : Nat) (qt : Nat) (qd : Nat) (qa : Nat) (qu : Nat) (qb : Nat) (qe : Nat) (qo : Nat) (cB : ClassId) (mm : Nat) (m_tape : Nat) (m_methods : Nat) (m_packed : Nat) (m_sizes : Nat) (m_sums : Nat) (m_datas : Nat) (m_locals : Nat) (m_localEnds : Nat) (m_names : Nat) (m_nameSizes : Nat) (m_states : Nat) (m_starts : Nat) (m_counts : Nat) (m_written : Nat) (m_lengths : Nat) (m_small : Nat) (m_codes : Nat) (m_smallCodes : Nat) (cM : ClassId) (qz : Nat) (cZ : ClassId) (v1 : Int32) (hv1 : xs (1 : Int32).toNatClampNeg = v1) (hbad : v1.toInt < 0 ∨ 4 < v1.toInt) (hbad2 : v1 < 0 ∨ ¬ v1 ≤ 4) (hK : va_K D zcl [(cB, .byte), (cM, .byte), (cZ, .long)] s) (hP : va_P D zcl [(h0, .inr (0, [.ref qt, .ref qd, .ref qa, .ref qu])), (qt, .inr (1, [.ref qb, .int 0])), (qb, .inl (cB, 20000, .inl (fun _ => 0))), (qd, .inr (2, [.ref qe, .int 0, .int 0, .int (-1), .ref qt])), (qa, .inr (3, [.int 20000, .int 100, .int 0, .ref qo, .int (-1)])), (mm, .inr (8, [.ref m_tape, .int 0, .int 0, .int (-1), .int 20000, .int 100, .int 0, .ref m_methods, .ref m_packed, .ref m_sizes, .ref m_sums, .ref m_datas, .ref m_locals, .ref m_localEnds, .ref m_names, .ref m_nameSizes, .ref m_states, .ref m_starts, .ref m_counts, .ref m_written, .int 0, .int 0, .int 0, .int 0, .ref m_lengths, .ref m_small, .ref m_codes, .ref m_smallCodes, .int 0, .int 0, .int 0])), (m_tape, .inl (cM, 20000, .inl (fun _ => 0))), (qz, .inl (cZ, 1, .inr (.inl (fun _ => 0))))] H) (hD : va_D A [(h0, .inr (0, [.ref qt, .ref qd, .ref qa, .ref qu])), (qt, .inr (1, [.ref qb, .int 0])), (qb, .inl (cB, 20000, .inl (fun _ => 0))), (qd, .inr (2, [.ref qe, .int 0, .int 0, .int (-1), .ref qt])), (qa, .inr (3, [.int 20000, .int 100, .int 0, .ref qo, .int (-1)])), (mm, .inr (8, [.ref m_tape, .int 0, .int 0, .int (-1), .int 20000, .int 100, .int 0, .ref m_methods, .ref m_packed, .ref m_sizes, .ref m_sums, .ref m_datas, .ref m_locals, .ref m_localEnds, .ref m_names, .ref m_nameSizes, .ref m_states, .ref m_starts, .ref m_counts, .ref m_written, .int 0, .int 0, .int 0, .int 0, .ref m_lengths, .ref m_small, .ref m_codes, .ref m_smallCodes, .int 0, .int 0, .int 0])), (m_tape, .inl (cM, 20000, .inl (fun _ => 0))), (qz, .inl (cZ, 1, .inr (.inl (fun _ => 0))))]) (hS : va_S A s.heap H locs) (hl : lv_has ls 7 [(4, .int 0), (3, .ref qz), (2, .ref mm), (1, .ref h0), (0, .ref b)]) : W p l e room_1 s m #[Value.ref b] below meth c H locs 178 131109 (lw_Z below #[Value.ref b] s) (F0 m 690 ls []) := by
  have hbA : ¬ A b := fun h => absurd (hAe b h) (Nat.not_le.mpr hbl)
  refine lv_aload_n hx hb d_L_law_690 rfl (lv_at hl 3 rfl) ?_
  refine lv_aload_n hx hb d_L_law_691 rfl (lv_at hl 4 rfl) ?_
  refine lv_iload hx hb d_L_law_692 (lv_at hl 0 rfl) ?_
  refine lv_iconst (v := 1) hx hb d_L_law_694 (by decide) ?_
  refine lv_iadd hx hb d_L_law_695 ?_
  refine lv_topi (fun z1 e_z1 => ?_)
  have e_z1 : z1 = 1 := e_z1.trans (by decide)
  subst e_z1
  refine va_sld hx hb hX hbl hbA hS (by unfold vp_in; decide) d_L_law_696 ?_
  rw [hv1]
  refine lv_aload_n hx hb d_L_law_697 rfl (lv_at hl 1 rfl) ?_
  refine zji (wr := [(qt, .inr (1, [.ref qb, .int 0])), (qb, .inl (cB, 20000, .inl (fun _ => 0))), (qd, .inr (2, [.ref qe, .int 0, .int 0, .int (-1), .ref qt])), (qa, .inr (3, [.int 20000, .int 100, .int 0, .ref qo, .int (-1)])), (mm, .inr (8, [.ref m_tape, .int 0, .int 0, .int (-1), .int 20000, .int 100, .int 0, .ref m_methods, .ref m_packed, .ref m_sizes, .ref m_sums, .ref m_datas, .ref m_locals, .ref m_localEnds, .ref m_names, .ref m_nameSizes, .ref m_states, .ref m_starts, .ref m_counts, .ref m_written, .int 0, .int 0, .int 0, .int 0, .ref m_lengths, .ref m_small, .ref m_codes, .ref m_smallCodes, .int 0, .int 0, .int 0])), (m_tape, .inl (cM, 20000, .inl (fun _ => 0)))]) (zrunSW (n := 3) (As := [.ref h0, .int v1, .ref qz]) (rest := []) ⟨hx, hb, hml, hown, ht⟩ (c_L_abX l D _ h0 qt qd qa qu v1 qz cZ (fun _ => 0) hl9 hbad) zm_738 zm_739 zm_64 zm_740 rfl rfl (by decide +kernel) ⟨Nat.le_of_ble_eq_true rfl, Nat.le_of_ble_eq_true rfl⟩ (zpre zBlind_G hK hP hD [0, 7] [2] rfl (by decide) rfl (fun U hU hW => zG_keep hW.alike (fun q hq => by rw [hU]; exact hS.2.1 q hq (fun h => absurd (hAe q h) (Nat.not_le.mpr hq))) hG)) rfl rfl hl.1 rfl (lv_room (Nat.le_of_ble_eq_true rfl)) d_L_law_698 ⟨Nat.le_of_ble_eq_true rfl, Nat.le_of_ble_eq_true rfl⟩) hK hP hD hS hA [0, 7] [1, 2, 3, 4, 5, 6] rfl rfl (by decide) (by decide) (fun r2 u H locs hp3 hP hD hK hS => ?_)
  have hP : va_P D zcl [(qt, .inr (1, [.ref qb, .int 0])), (qb, .inl (cB, 20000, .inl (fun _ => 0))), (qd, .inr (2, [.ref qe, .int 0, .int 0, .int (-1), .ref qt])), (qa, .inr (3, [.int 20000, .int 100, .int 0, .ref qo, .int (-1)])), (mm, .inr (8, [.ref m_tape, .int 0, .int 0, .int (-1), .int 20000, .int 100, .int 0, .ref m_methods, .ref m_packed, .ref m_sizes, .ref m_sums, .ref m_datas, .ref m_locals, .ref m_localEnds, .ref m_names, .ref m_nameSizes, .ref m_states, .ref m_starts, .ref m_counts, .ref m_written, .int 0, .int 0, .int 0, .int 0, .ref m_lengths, .ref m_small, .ref m_codes, .ref m_smallCodes, .int 0, .int 0, .int 0])), (m_tape, .inl (cM, 20000, .inl (fun _ => 0))), (qz, .inl (cZ, 1, .inr (.inl (fun _ => 0))))] H := hP
  have hD : va_D A [(qt, .inr (1, [.ref qb, .int 0])), (qb, .inl (cB, 20000, .inl (fun _ => 0))), (qd, .inr (2, [.ref qe, .int 0, .int 0, .int (-1), .ref qt])), (qa, .inr (3, [.int 20000, .int 100, .int 0, .ref qo, .int (-1)])), (mm, .inr (8, [.ref m_tape, .int 0, .int 0, .int (-1), .int 20000, .int 100, .int 0, .ref m_methods, .ref m_packed, .ref m_sizes, .ref m_sums, .ref m_datas, .ref m_locals, .ref m_localEnds, .ref m_names, .ref m_nameSizes, .ref m_states, .ref m_starts, .ref m_counts, .ref m_written, .int 0, .int 0, .int 0, .int 0, .ref m_lengths, .ref m_small, .ref m_codes, .ref m_smallCodes, .int 0, .int 0, .int 0])), (m_tape, .inl (cM, 20000, .inl (fun _ => 0))), (qz, .inl (cZ, 1, .inr (.inl (fun _ => 0))))] := hD
  have hK : va_K D zcl [(cB, .byte), (cM, .byte), (cZ, .long), (cZ, .long)] s := hK
  have hp3 := hp3.symm
  subst hp3
  refine lv_istore (lv' := [(5, .int 1), (4, .int 0), (3, .ref qz), (2, .ref mm), (1, .ref h0), (0, .ref b)]) hx hb d_L_law_701 hl (by decide) rfl (fun ls hl => ?_)
  refine lv_aload_n hx hb d_L_law_703 rfl (lv_at hl 3 rfl) ?_
  refine lv_aload_n hx hb d_L_law_704 rfl (lv_at hl 5 rfl) ?_
  refine lv_iload hx hb d_L_law_705 (lv_at hl 1 rfl) ?_
  refine lv_iconst (v := 1) hx hb d_L_law_707 (by decide) ?_
  refine lv_iadd hx hb d_L_law_708 ?_
  refine lv_topi (fun z4 e_z4 => ?_)
  have e_z4 : z4 = 1 := e_z4.trans (by decide)
  subst e_z4
  refine va_sld hx hb hX hbl hbA hS (by unfold vp_in; decide) d_L_law_709 ?_
  rw [hv1]
  refine zji (wr := [(qt, .inr (1, [.ref qb, .int 0])), (qb, .inl (cB, 20000, .inl (fun _ => 0))), (qd, .inr (2, [.ref qe, .int 0, .int 0, .int (-1), .ref qt])), (qa, .inr (3, [.int 20000, .int 100, .int 0, .ref qo, .int (-1)])), (m_tape, .inl (cM, 20000, .inl (fun _ => 0))), (qz, .inl (cZ, 1, .inr (.inl (fun _ => 0))))]) (va_runV (As := [.int v1]) (rest := []) ⟨hx, hb, hml, hown, ht⟩ (c_M_abX l D _ mm m_tape m_methods m_packed m_sizes m_sums m_datas m_locals m_localEnds m_names m_nameSizes m_states m_starts m_counts m_written m_lengths m_small m_codes m_smallCodes 0 0 (-1) 20000 100 0 0 0 0 0 0 0 0 v1 hbad2) (cwV 1 ht (zt_goodV zm_1029 zm_1030 zm_1031 zm_79 zm_1032) rfl rfl rfl (by decide +kernel) ⟨Nat.le_of_ble_eq_true rfl, Nat.le_of_ble_eq_true rfl⟩) (zpreV zBlind_t hK hP hD [4] [] rfl (by decide) rfl (fun _ _ _ => trivial) (va_recv (q := ("ZipGuardModel", F_M, 31)) hK hP rfl (q0 := 4) (ci := 8) rfl)) rfl rfl hl.1 rfl (lv_room (Nat.le_of_ble_eq_true rfl)) d_L_law_710 ⟨Nat.le_of_ble_eq_true rfl, Nat.le_of_ble_eq_true rfl⟩) hK hP hD hS hA [4] [0, 1, 2, 3, 5, 6] rfl rfl (by decide) (by decide) (fun r5 u H locs hp6 hP hD hK hS => ?_)
  have hP : va_P D zcl [(qt, .inr (1, [.ref qb, .int 0])), (qb, .inl (cB, 20000, .inl (fun _ => 0))), (qd, .inr (2, [.ref qe, .int 0, .int 0, .int (-1), .ref qt])), (qa, .inr (3, [.int 20000, .int 100, .int 0, .ref qo, .int (-1)])), (m_tape, .inl (cM, 20000, .inl (fun _ => 0))), (qz, .inl (cZ, 1, .inr (.inl (fun _ => 0)))), (mm, .inr (8, [.ref m_tape, .int 0, .int 0, .int (-1), .int 20000, .int 100, .int 0, .ref m_methods, .ref m_packed, .ref m_sizes, .ref m_sums, .ref m_datas, .ref m_locals, .ref m_localEnds, .ref m_names, .ref m_nameSizes, .ref m_states, .ref m_starts, .ref m_counts, .ref m_written, .int 0, .int 0, .int 0, .int 0, .ref m_lengths, .ref m_small, .ref m_codes, .ref m_smallCodes, .int 0, .int 0, .int 1]))] H := hP
  have hD : va_D A [(qt, .inr (1, [.ref qb, .int 0])), (qb, .inl (cB, 20000, .inl (fun _ => 0))), (qd, .inr (2, [.ref qe, .int 0, .int 0, .int (-1), .ref qt])), (qa, .inr (3, [.int 20000, .int 100, .int 0, .ref qo, .int (-1)])), (m_tape, .inl (cM, 20000, .inl (fun _ => 0))), (qz, .inl (cZ, 1, .inr (.inl (fun _ => 0)))), (mm, .inr (8, [.ref m_tape, .int 0, .int 0, .int (-1), .int 20000, .int 100, .int 0, .ref m_methods, .ref m_packed, .ref m_sizes, .ref m_sums, .ref m_datas, .ref m_locals, .ref m_localEnds, .ref m_names, .ref m_nameSizes, .ref m_states, .ref m_starts, .ref m_counts, .ref m_written, .int 0, .int 0, .int 0, .int 0, .ref m_lengths, .ref m_small, .ref m_codes, .ref m_smallCodes, .int 0, .int 0, .int 1]))] := hD
  have hK : va_K D zcl [(cB, .byte), (cM, .byte), (cZ, .long), (cZ, .long)] s := hK
  refine lv_istore (lv' := [(6, .int r5), (5, .int 1), (4, .int 0), (3, .ref qz), (2, .ref mm), (1, .ref h0), (0, .ref b)]) hx hb d_L_law_713 hl (by decide) rfl (fun ls hl => ?_)
  refine lv_aload_n hx hb d_L_law_715 rfl (lv_at hl 4 rfl) ?_
  refine zji (wr := [(qt, .inr (1, [.ref qb, .int 0])), (qb, .inl (cB, 20000, .inl (fun _ => 0))), (qd, .inr (2, [.ref qe, .int 0, .int 0, .int (-1), .ref qt])), (qa, .inr (3, [.int 20000, .int 100, .int 0, .ref qo, .int (-1)])), (m_tape, .inl (cM, 20000, .inl (fun _ => 0))), (qz, .inl (cZ, 1, .inr (.inl (fun _ => 0))))]) (va_runV (As := []) (rest := []) ⟨hx, hb, hml, hown, ht⟩ (c_M_thrown l D _ mm m_tape m_methods m_packed m_sizes m_sums m_datas m_locals m_localEnds m_names m_nameSizes m_states m_starts m_counts m_written m_lengths m_small m_codes m_smallCodes 0 0 (-1) 20000 100 0 0 0 0 0 0 0 1 ) (cwV 0 ht (zt_goodV zm_847 zm_848 zm_849 zm_79 zm_850) rfl rfl rfl (by decide +kernel) ⟨Nat.le_of_ble_eq_true rfl, Nat.le_of_ble_eq_true rfl⟩) (zpreV zBlind_t hK hP hD [6] [] rfl (by decide) rfl (fun _ _ _ => trivial) (va_recv (q := ("ZipGuardModel", F_M, 31)) hK hP rfl (q0 := 6) (ci := 8) rfl)) rfl rfl hl.1 rfl (lv_room (Nat.le_of_ble_eq_true rfl)) d_L_law_716 ⟨Nat.le_of_ble_eq_true rfl, Nat.le_of_ble_eq_true rfl⟩) hK hP hD hS hA [6] [0, 1, 2, 3, 4, 5] rfl rfl (by decide) (by decide) (fun r7 u H locs hp8 hP hD hK hS => ?_)
  have hP : va_P D zcl [(qt, .inr (1, [.ref qb, .int 0])), (qb, .inl (cB, 20000, .inl (fun _ => 0))), (qd, .inr (2, [.ref qe, .int 0, .int 0, .int (-1), .ref qt])), (qa, .inr (3, [.int 20000, .int 100, .int 0, .ref qo, .int (-1)])), (m_tape, .inl (cM, 20000, .inl (fun _ => 0))), (qz, .inl (cZ, 1, .inr (.inl (fun _ => 0)))), (mm, .inr (8, [.ref m_tape, .int 0, .int 0, .int (-1), .int 20000, .int 100, .int 0, .ref m_methods, .ref m_packed, .ref m_sizes, .ref m_sums, .ref m_datas, .ref m_locals, .ref m_localEnds, .ref m_names, .ref m_nameSizes, .ref m_states, .ref m_starts, .ref m_counts, .ref m_written, .int 0, .int 0, .int 0, .int 0, .ref m_lengths, .ref m_small, .ref m_codes, .ref m_smallCodes, .int 0, .int 0, .int 1]))] H := hP
  have hD : va_D A [(qt, .inr (1, [.ref qb, .int 0])), (qb, .inl (cB, 20000, .inl (fun _ => 0))), (qd, .inr (2, [.ref qe, .int 0, .int 0, .int (-1), .ref qt])), (qa, .inr (3, [.int 20000, .int 100, .int 0, .ref qo, .int (-1)])), (m_tape, .inl (cM, 20000, .inl (fun _ => 0))), (qz, .inl (cZ, 1, .inr (.inl (fun _ => 0)))), (mm, .inr (8, [.ref m_tape, .int 0, .int 0, .int (-1), .int 20000, .int 100, .int 0, .ref m_methods, .ref m_packed, .ref m_sizes, .ref m_sums, .ref m_datas, .ref m_locals, .ref m_localEnds, .ref m_names, .ref m_nameSizes, .ref m_states, .ref m_starts, .ref m_counts, .ref m_written, .int 0, .int 0, .int 0, .int 0, .ref m_lengths, .ref m_small, .ref m_codes, .ref m_smallCodes, .int 0, .int 0, .int 1]))] := hD
  have hK : va_K D zcl [(cB, .byte), (cM, .byte), (cZ, .long), (cZ, .long)] s := hK
  have hp8 := hp8.symm
  subst hp8
  refine lv_iload hx hb d_L_law_719 (lv_at hl 1 rfl) ?_
  refine lv_icmp_eq (tgt := 726) hx hb d_L_law_721 (by decide) (fun _ => ?_) (fun h => absurd (rfl) h)
  refine lv_iload hx hb d_L_law_726 (lv_at hl 1 rfl) ?_
  refine lv_if_ne (tgt := 743) hx hb d_L_law_728 (by decide) (fun _ => ?_) (fun h => absurd h (by decide))
  refine lv_goto (tgt := 746) hx hb d_L_law_743 (by decide) ?_
  exact zl_tail hx hb hr hml hown ht hX hbl hlk hl9 hG hA hAe hS (lv_sub hl [2, 6] rfl) (Nat.le_of_ble_eq_true rfl) (Nat.le_of_ble_eq_true rfl)
