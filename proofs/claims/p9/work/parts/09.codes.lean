set_option maxRecDepth 100000 in
theorem zm_255 : Jvm.Cond.methodLink "ZipGuard$CodeSet" (1 : Nat) ({ cls := "java/lang/Object", name := "<init>", desc := "()V" } : Jvm.MethodName) ∈ zt := zt_m1 (List.mem_of_getElem? (i := 191) rfl)
set_option maxRecDepth 100000 in
theorem zm_256 : Jvm.Cond.fieldLink "ZipGuard$CodeSet" (9 : Nat) "ZipGuard$CodeSet" "countOfLength" "[I" ∈ zt := zt_m1 (List.mem_of_getElem? (i := 192) rfl)
set_option maxRecDepth 100000 in
theorem zm_257 : Jvm.Cond.fieldLink "ZipGuard$CodeSet" (13 : Nat) "ZipGuard$CodeSet" "nextOfLength" "[I" ∈ zt := zt_m1 (List.mem_of_getElem? (i := 193) rfl)
set_option maxRecDepth 100000 in
theorem zm_258 : Jvm.Cond.fieldLink "ZipGuard$CodeSet" (16 : Nat) "ZipGuard$CodeSet" "symbols" "[I" ∈ zt := zt_m1 (List.mem_of_getElem? (i := 194) rfl)
set_option maxRecDepth 100000 in
theorem zm_259 : Jvm.Cond.fieldLink "ZipGuard$CodeSet" (19 : Nat) "ZipGuard$CodeSet" "codes" "I" ∈ zt := zt_m1 (List.mem_of_getElem? (i := 195) rfl)
set_option maxRecDepth 100000 in
theorem zm_269 : Jvm.Cond.arrayClass Jvm.ClassFile.FieldType.int ∈ zt := zt_m1 (List.mem_of_getElem? (i := 205) rfl)
set_option maxRecDepth 100000 in
theorem zm_367 : Jvm.Cond.methodLink "ZipGuard$CodeSet" (23 : Nat) ({ cls := "java/util/Arrays", name := "fill", desc := "([II)V" } : Jvm.MethodName) ∈ zt := zt_m3 (List.mem_of_getElem? (i := 39) rfl)
set_option maxRecDepth 100000 in
theorem zm_368 : Jvm.Cond.static ({ cls := "java/util/Arrays", name := "fill", desc := "([II)V" } : Jvm.MethodName) ∈ zt := zt_m3 (List.mem_of_getElem? (i := 40) rfl)
set_option maxRecDepth 100000 in
theorem zm_369 : Jvm.Cond.code ({ cls := "java/util/Arrays", name := "fill", desc := "([II)V" } : Jvm.MethodName) prog_27_method_103_code (4 : Nat) (Option.none : Option Jvm.ClassFile.FieldType) ∈ zt := zt_m3 (List.mem_of_getElem? (i := 41) rfl)
theorem d_C_build_0 : decode prog_3_method_2_code 0 = .ok (.aload_n 0, 1) := by decide +kernel
theorem d_C_build_1 : decode prog_3_method_2_code 1 = .ok (.getfield 9, 3) := by decide +kernel
theorem d_C_build_4 : decode prog_3_method_2_code 4 = .ok (.iconst 0, 1) := by decide +kernel
theorem d_C_build_5 : decode prog_3_method_2_code 5 = .ok (.invokestatic 23, 3) := by decide +kernel
theorem d_C_build_8 : decode prog_3_method_2_code 8 = .ok (.iconst 0, 1) := by decide +kernel
theorem d_C_build_9 : decode prog_3_method_2_code 9 = .ok (.istore 4, 2) := by decide +kernel
theorem d_C_build_11 : decode prog_3_method_2_code 11 = .ok (.iload 4, 2) := by decide +kernel
theorem d_C_build_13 : decode prog_3_method_2_code 13 = .ok (.iload_n 3, 1) := by decide +kernel
theorem d_C_build_14 : decode prog_3_method_2_code 14 = .ok (.if_icmp .ge 24, 3) := by decide +kernel
theorem d_C_build_17 : decode prog_3_method_2_code 17 = .ok (.aload_n 0, 1) := by decide +kernel
theorem d_C_build_18 : decode prog_3_method_2_code 18 = .ok (.getfield 9, 3) := by decide +kernel
theorem d_C_build_21 : decode prog_3_method_2_code 21 = .ok (.aload_n 1, 1) := by decide +kernel
theorem d_C_build_22 : decode prog_3_method_2_code 22 = .ok (.iload_n 2, 1) := by decide +kernel
theorem d_C_build_23 : decode prog_3_method_2_code 23 = .ok (.iload 4, 2) := by decide +kernel
theorem d_C_build_25 : decode prog_3_method_2_code 25 = .ok (.iadd, 1) := by decide +kernel
theorem d_C_build_26 : decode prog_3_method_2_code 26 = .ok (.iaload, 1) := by decide +kernel
theorem d_C_build_27 : decode prog_3_method_2_code 27 = .ok (.dup2, 1) := by decide +kernel
theorem d_C_build_28 : decode prog_3_method_2_code 28 = .ok (.iaload, 1) := by decide +kernel
theorem d_C_build_29 : decode prog_3_method_2_code 29 = .ok (.iconst 1, 1) := by decide +kernel
theorem d_C_build_30 : decode prog_3_method_2_code 30 = .ok (.iadd, 1) := by decide +kernel
theorem d_C_build_31 : decode prog_3_method_2_code 31 = .ok (.iastore, 1) := by decide +kernel
theorem d_C_build_32 : decode prog_3_method_2_code 32 = .ok (.iinc 4 1, 3) := by decide +kernel
theorem d_C_build_35 : decode prog_3_method_2_code 35 = .ok (.goto (-24), 3) := by decide +kernel
theorem d_C_build_38 : decode prog_3_method_2_code 38 = .ok (.aload_n 0, 1) := by decide +kernel
theorem d_C_build_39 : decode prog_3_method_2_code 39 = .ok (.iconst 0, 1) := by decide +kernel
theorem d_C_build_40 : decode prog_3_method_2_code 40 = .ok (.putfield 19, 3) := by decide +kernel
theorem d_C_build_43 : decode prog_3_method_2_code 43 = .ok (.iconst 1, 1) := by decide +kernel
theorem d_C_build_44 : decode prog_3_method_2_code 44 = .ok (.istore 4, 2) := by decide +kernel
theorem d_C_build_46 : decode prog_3_method_2_code 46 = .ok (.iload 4, 2) := by decide +kernel
theorem d_C_build_48 : decode prog_3_method_2_code 48 = .ok (.bipush 15, 2) := by decide +kernel
theorem d_C_build_50 : decode prog_3_method_2_code 50 = .ok (.if_icmp .gt 36, 3) := by decide +kernel
theorem d_C_build_53 : decode prog_3_method_2_code 53 = .ok (.aload_n 0, 1) := by decide +kernel
theorem d_C_build_54 : decode prog_3_method_2_code 54 = .ok (.getfield 13, 3) := by decide +kernel
theorem d_C_build_57 : decode prog_3_method_2_code 57 = .ok (.iload 4, 2) := by decide +kernel
theorem d_C_build_59 : decode prog_3_method_2_code 59 = .ok (.aload_n 0, 1) := by decide +kernel
theorem d_C_build_60 : decode prog_3_method_2_code 60 = .ok (.getfield 19, 3) := by decide +kernel
theorem d_C_build_63 : decode prog_3_method_2_code 63 = .ok (.iastore, 1) := by decide +kernel
theorem d_C_build_64 : decode prog_3_method_2_code 64 = .ok (.aload_n 0, 1) := by decide +kernel
theorem d_C_build_65 : decode prog_3_method_2_code 65 = .ok (.dup, 1) := by decide +kernel
theorem d_C_build_66 : decode prog_3_method_2_code 66 = .ok (.getfield 19, 3) := by decide +kernel
theorem d_C_build_69 : decode prog_3_method_2_code 69 = .ok (.aload_n 0, 1) := by decide +kernel
theorem d_C_build_70 : decode prog_3_method_2_code 70 = .ok (.getfield 9, 3) := by decide +kernel
theorem d_C_build_73 : decode prog_3_method_2_code 73 = .ok (.iload 4, 2) := by decide +kernel
theorem d_C_build_75 : decode prog_3_method_2_code 75 = .ok (.iaload, 1) := by decide +kernel
theorem d_C_build_76 : decode prog_3_method_2_code 76 = .ok (.iadd, 1) := by decide +kernel
theorem d_C_build_77 : decode prog_3_method_2_code 77 = .ok (.putfield 19, 3) := by decide +kernel
theorem d_C_build_80 : decode prog_3_method_2_code 80 = .ok (.iinc 4 1, 3) := by decide +kernel
theorem d_C_build_83 : decode prog_3_method_2_code 83 = .ok (.goto (-37), 3) := by decide +kernel
theorem d_C_build_86 : decode prog_3_method_2_code 86 = .ok (.iconst 0, 1) := by decide +kernel
theorem d_C_build_87 : decode prog_3_method_2_code 87 = .ok (.istore 4, 2) := by decide +kernel
theorem d_C_build_89 : decode prog_3_method_2_code 89 = .ok (.iload 4, 2) := by decide +kernel
theorem d_C_build_91 : decode prog_3_method_2_code 91 = .ok (.iload_n 3, 1) := by decide +kernel
theorem d_C_build_92 : decode prog_3_method_2_code 92 = .ok (.if_icmp .ge 47, 3) := by decide +kernel
theorem d_C_build_95 : decode prog_3_method_2_code 95 = .ok (.aload_n 1, 1) := by decide +kernel
theorem d_C_build_96 : decode prog_3_method_2_code 96 = .ok (.iload_n 2, 1) := by decide +kernel
theorem d_C_build_97 : decode prog_3_method_2_code 97 = .ok (.iload 4, 2) := by decide +kernel
theorem d_C_build_99 : decode prog_3_method_2_code 99 = .ok (.iadd, 1) := by decide +kernel
theorem d_C_build_100 : decode prog_3_method_2_code 100 = .ok (.iaload, 1) := by decide +kernel
theorem d_C_build_101 : decode prog_3_method_2_code 101 = .ok (.istore 5, 2) := by decide +kernel
theorem d_C_build_103 : decode prog_3_method_2_code 103 = .ok (.iload 5, 2) := by decide +kernel
theorem d_C_build_105 : decode prog_3_method_2_code 105 = .ok (.ifCond .le 28, 3) := by decide +kernel
theorem d_C_build_108 : decode prog_3_method_2_code 108 = .ok (.aload_n 0, 1) := by decide +kernel
theorem d_C_build_109 : decode prog_3_method_2_code 109 = .ok (.getfield 16, 3) := by decide +kernel
theorem d_C_build_112 : decode prog_3_method_2_code 112 = .ok (.aload_n 0, 1) := by decide +kernel
theorem d_C_build_113 : decode prog_3_method_2_code 113 = .ok (.getfield 13, 3) := by decide +kernel
theorem d_C_build_116 : decode prog_3_method_2_code 116 = .ok (.iload 5, 2) := by decide +kernel
theorem d_C_build_118 : decode prog_3_method_2_code 118 = .ok (.iaload, 1) := by decide +kernel
theorem d_C_build_119 : decode prog_3_method_2_code 119 = .ok (.iload 4, 2) := by decide +kernel
theorem d_C_build_121 : decode prog_3_method_2_code 121 = .ok (.iastore, 1) := by decide +kernel
theorem d_C_build_122 : decode prog_3_method_2_code 122 = .ok (.aload_n 0, 1) := by decide +kernel
theorem d_C_build_123 : decode prog_3_method_2_code 123 = .ok (.getfield 13, 3) := by decide +kernel
theorem d_C_build_126 : decode prog_3_method_2_code 126 = .ok (.iload 5, 2) := by decide +kernel
theorem d_C_build_128 : decode prog_3_method_2_code 128 = .ok (.dup2, 1) := by decide +kernel
theorem d_C_build_129 : decode prog_3_method_2_code 129 = .ok (.iaload, 1) := by decide +kernel
theorem d_C_build_130 : decode prog_3_method_2_code 130 = .ok (.iconst 1, 1) := by decide +kernel
theorem d_C_build_131 : decode prog_3_method_2_code 131 = .ok (.iadd, 1) := by decide +kernel
theorem d_C_build_132 : decode prog_3_method_2_code 132 = .ok (.iastore, 1) := by decide +kernel
theorem d_C_build_133 : decode prog_3_method_2_code 133 = .ok (.iinc 4 1, 3) := by decide +kernel
theorem d_C_build_136 : decode prog_3_method_2_code 136 = .ok (.goto (-47), 3) := by decide +kernel
theorem d_C_build_139 : decode prog_3_method_2_code 139 = .ok (.return_, 1) := by decide +kernel
theorem d_C_init_0 : decode prog_3_method_1_code 0 = .ok (.aload_n 0, 1) := by decide +kernel
theorem d_C_init_1 : decode prog_3_method_1_code 1 = .ok (.invokespecial 1, 3) := by decide +kernel
theorem d_C_init_4 : decode prog_3_method_1_code 4 = .ok (.aload_n 0, 1) := by decide +kernel
theorem d_C_init_5 : decode prog_3_method_1_code 5 = .ok (.bipush 16, 2) := by decide +kernel
theorem d_C_init_7 : decode prog_3_method_1_code 7 = .ok (.newarray .int, 2) := by decide +kernel
theorem d_C_init_9 : decode prog_3_method_1_code 9 = .ok (.putfield 9, 3) := by decide +kernel
theorem d_C_init_12 : decode prog_3_method_1_code 12 = .ok (.aload_n 0, 1) := by decide +kernel
theorem d_C_init_13 : decode prog_3_method_1_code 13 = .ok (.bipush 16, 2) := by decide +kernel
theorem d_C_init_15 : decode prog_3_method_1_code 15 = .ok (.newarray .int, 2) := by decide +kernel
theorem d_C_init_17 : decode prog_3_method_1_code 17 = .ok (.putfield 13, 3) := by decide +kernel
theorem d_C_init_20 : decode prog_3_method_1_code 20 = .ok (.aload_n 0, 1) := by decide +kernel
theorem d_C_init_21 : decode prog_3_method_1_code 21 = .ok (.iload_n 1, 1) := by decide +kernel
theorem d_C_init_22 : decode prog_3_method_1_code 22 = .ok (.newarray .int, 2) := by decide +kernel
theorem d_C_init_24 : decode prog_3_method_1_code 24 = .ok (.putfield 16, 3) := by decide +kernel
theorem d_C_init_27 : decode prog_3_method_1_code 27 = .ok (.aload_n 0, 1) := by decide +kernel
theorem d_C_init_28 : decode prog_3_method_1_code 28 = .ok (.iconst 0, 1) := by decide +kernel
theorem d_C_init_29 : decode prog_3_method_1_code 29 = .ok (.putfield 19, 3) := by decide +kernel
theorem d_C_init_32 : decode prog_3_method_1_code 32 = .ok (.return_, 1) := by decide +kernel
set_option maxHeartbeats 4000000 in
set_option maxRecDepth 100000 in
theorem c_C_init_288 (l : Launch) (D : va_G) (sz : Nat) (h0 : Nat)  : Met l y_C_init (Cond.code y_C_init prog_3_method_1_code 2 (Option.none : Option Jvm.ClassFile.FieldType) :: zt) { frames := 1, cells := 3, slots := 320, locals := 12 } (zPc [.ref h0, .int 288] D [(h0, .inr (6, [.null, .null, .null, .int 0]))] [] sz (fun _ => True)) (va_Qv (fun (u9 : Nat × Nat × Nat × ClassId × ClassId × ClassId) => match u9 with | (q1, q2, q3, cA1, cA2, cA3) => True) (fun u9 t => zB D ((fun (u9 : Nat × Nat × Nat × ClassId × ClassId × ClassId) => match u9 with | (q1, q2, q3, cA1, cA2, cA3) => [(h0, .inr (6, [.ref q1, .ref q2, .ref q3, .int 0])), (q1, .inl (cA1, 16, .inl (fun _ => 0))), (q2, .inl (cA2, 16, .inl (fun _ => 0))), (q3, .inl (cA3, 288, .inl (fun _ => 0)))]) u9) ((fun (u9 : Nat × Nat × Nat × ClassId × ClassId × ClassId) => match u9 with | (q1, q2, q3, cA1, cA2, cA3) => [(cA1, .int), (cA2, .int), (cA3, .int)]) u9) (va_A [(h0, .inr (6, [.null, .null, .null, .int 0]))] sz) t) (va_A [(h0, .inr (6, [.null, .null, .null, .int 0]))] sz)) 3 320 (va_A [(h0, .inr (6, [.null, .null, .null, .int 0]))] sz) :=
  zMet (Qf := fun A => va_Qv (fun (u9 : Nat × Nat × Nat × ClassId × ClassId × ClassId) => match u9 with | (q1, q2, q3, cA1, cA2, cA3) => True) (fun u9 t => zB D ((fun (u9 : Nat × Nat × Nat × ClassId × ClassId × ClassId) => match u9 with | (q1, q2, q3, cA1, cA2, cA3) => [(h0, .inr (6, [.ref q1, .ref q2, .ref q3, .int 0])), (q1, .inl (cA1, 16, .inl (fun _ => 0))), (q2, .inl (cA2, 16, .inl (fun _ => 0))), (q3, .inl (cA3, 288, .inl (fun _ => 0)))]) u9) ((fun (u9 : Nat × Nat × Nat × ClassId × ClassId × ClassId) => match u9 with | (q1, q2, q3, cA1, cA2, cA3) => [(cA1, .int), (cA2, .int), (cA3, .int)]) u9) A t) A) (by decide) (Nat.le_of_ble_eq_true rfl) (fun p e s m below meth c A ls hx hb hr hml hown ht hlk hnm hA hK hP hD hX hl => by
    have hS : va_S A s.heap s.heap [] := va_S.rf
    have hl : lv_has ls 2 [(0, .ref h0), (1, .int 288)] := hl
    refine lv_aload_n hx hb d_C_init_0 rfl (lv_at hl 0 rfl) ?_
    refine W.objInit hx hb hown (ht _ zm_255) (ht _ zm_87) (ht _ zm_88) rfl (by rw [hml]; exact hl.1) rfl d_C_init_1 (Nat.le_of_ble_eq_true rfl) (Nat.le_of_ble_eq_true rfl) ?_
    refine W.eq (g2 := F0 m 4 ls []) rfl ?_
    refine lv_aload_n hx hb d_C_init_4 rfl (lv_at hl 0 rfl) ?_
    refine lv_bipush (v := 16) hx hb d_C_init_5 (by decide) ?_
    refine va_newa (atype := .int) (ty := .int) (n := 16) (N' := 16) (a0 := (16, .inl (fun _ => 0))) hx hb (ht _ zm_269) rfl hK hP hD hS hA (fun _ => rfl) (by decide) (by decide) (by decide) (Nat.le_of_ble_eq_true rfl) (Nat.le_of_ble_eq_true rfl) d_C_init_7 (fun q1 cA2 H hK hP hD hS => ?_)
    have hP : va_P D zcl [(h0, .inr (6, [.null, .null, .null, .int 0])), (q1, .inl (cA2, 16, .inl (fun _ => 0)))] H := hP
    have hD : va_D A [(h0, .inr (6, [.null, .null, .null, .int 0])), (q1, .inl (cA2, 16, .inl (fun _ => 0)))] := hD
    have hK : va_K D zcl [(cA2, .int)] s := hK
    refine va_putF (ci := 6) (v := .ref q1) (ty := .array .int) (C := "ZipGuard$CodeSet") (T := F_C) (N := 4) hx hb ht zi_C ty_C tk_C nm_C hown hK hP hD hS 0 rfl rfl 0 (by decide) (ht _ zm_256) (fun _ h9 => h9) rfl hnm rfl (by decide +kernel) rfl rfl (Nat.le_of_ble_eq_true rfl) d_C_init_9 (fun H locs hP hD hS => ?_)
    have hP : va_P D zcl [(h0, .inr (6, [.ref q1, .null, .null, .int 0])), (q1, .inl (cA2, 16, .inl (fun _ => 0)))] H := hP
    have hD : va_D A [(h0, .inr (6, [.ref q1, .null, .null, .int 0])), (q1, .inl (cA2, 16, .inl (fun _ => 0)))] := hD
    refine lv_aload_n hx hb d_C_init_12 rfl (lv_at hl 0 rfl) ?_
    refine lv_bipush (v := 16) hx hb d_C_init_13 (by decide) ?_
    refine va_newa (atype := .int) (ty := .int) (n := 16) (N' := 16) (a0 := (16, .inl (fun _ => 0))) hx hb (ht _ zm_269) rfl hK hP hD hS hA (fun _ => rfl) (by decide) (by decide) (by decide) (Nat.le_of_ble_eq_true rfl) (Nat.le_of_ble_eq_true rfl) d_C_init_15 (fun q3 cA4 H hK hP hD hS => ?_)
    have hP : va_P D zcl [(h0, .inr (6, [.ref q1, .null, .null, .int 0])), (q1, .inl (cA2, 16, .inl (fun _ => 0))), (q3, .inl (cA4, 16, .inl (fun _ => 0)))] H := hP
    have hD : va_D A [(h0, .inr (6, [.ref q1, .null, .null, .int 0])), (q1, .inl (cA2, 16, .inl (fun _ => 0))), (q3, .inl (cA4, 16, .inl (fun _ => 0)))] := hD
    have hK : va_K D zcl [(cA2, .int), (cA4, .int)] s := hK
    refine va_putF (ci := 6) (v := .ref q3) (ty := .array .int) (C := "ZipGuard$CodeSet") (T := F_C) (N := 4) hx hb ht zi_C ty_C tk_C nm_C hown hK hP hD hS 0 rfl rfl 1 (by decide) (ht _ zm_257) (fun _ h9 => h9) rfl hnm rfl (by decide +kernel) rfl rfl (Nat.le_of_ble_eq_true rfl) d_C_init_17 (fun H locs hP hD hS => ?_)
    have hP : va_P D zcl [(h0, .inr (6, [.ref q1, .ref q3, .null, .int 0])), (q1, .inl (cA2, 16, .inl (fun _ => 0))), (q3, .inl (cA4, 16, .inl (fun _ => 0)))] H := hP
    have hD : va_D A [(h0, .inr (6, [.ref q1, .ref q3, .null, .int 0])), (q1, .inl (cA2, 16, .inl (fun _ => 0))), (q3, .inl (cA4, 16, .inl (fun _ => 0)))] := hD
    refine lv_aload_n hx hb d_C_init_20 rfl (lv_at hl 0 rfl) ?_
    refine lv_iload_n hx hb d_C_init_21 rfl (lv_at hl 1 rfl) ?_
    refine va_newa (atype := .int) (ty := .int) (n := 288) (N' := 288) (a0 := (288, .inl (fun _ => 0))) hx hb (ht _ zm_269) rfl hK hP hD hS hA (fun _ => rfl) (by decide) (by decide) (by decide) (Nat.le_of_ble_eq_true rfl) (Nat.le_of_ble_eq_true rfl) d_C_init_22 (fun q5 cA6 H hK hP hD hS => ?_)
    have hP : va_P D zcl [(h0, .inr (6, [.ref q1, .ref q3, .null, .int 0])), (q1, .inl (cA2, 16, .inl (fun _ => 0))), (q3, .inl (cA4, 16, .inl (fun _ => 0))), (q5, .inl (cA6, 288, .inl (fun _ => 0)))] H := hP
    have hD : va_D A [(h0, .inr (6, [.ref q1, .ref q3, .null, .int 0])), (q1, .inl (cA2, 16, .inl (fun _ => 0))), (q3, .inl (cA4, 16, .inl (fun _ => 0))), (q5, .inl (cA6, 288, .inl (fun _ => 0)))] := hD
    have hK : va_K D zcl [(cA2, .int), (cA4, .int), (cA6, .int)] s := hK
    refine va_putF (ci := 6) (v := .ref q5) (ty := .array .int) (C := "ZipGuard$CodeSet") (T := F_C) (N := 4) hx hb ht zi_C ty_C tk_C nm_C hown hK hP hD hS 0 rfl rfl 2 (by decide) (ht _ zm_258) (fun _ h9 => h9) rfl hnm rfl (by decide +kernel) rfl rfl (Nat.le_of_ble_eq_true rfl) d_C_init_24 (fun H locs hP hD hS => ?_)
    have hP : va_P D zcl [(h0, .inr (6, [.ref q1, .ref q3, .ref q5, .int 0])), (q1, .inl (cA2, 16, .inl (fun _ => 0))), (q3, .inl (cA4, 16, .inl (fun _ => 0))), (q5, .inl (cA6, 288, .inl (fun _ => 0)))] H := hP
    have hD : va_D A [(h0, .inr (6, [.ref q1, .ref q3, .ref q5, .int 0])), (q1, .inl (cA2, 16, .inl (fun _ => 0))), (q3, .inl (cA4, 16, .inl (fun _ => 0))), (q5, .inl (cA6, 288, .inl (fun _ => 0)))] := hD
    refine lv_aload_n hx hb d_C_init_27 rfl (lv_at hl 0 rfl) ?_
    refine lv_iconst (v := 0) hx hb d_C_init_28 (by decide) ?_
    refine va_put (ci := 6) (v := .int 0) (ty := .int) (C := "ZipGuard$CodeSet") (T := F_C) (N := 4) hx hb ht zi_C ty_C tk_C nm_C hown hK hP hD hS 0 rfl rfl 3 (by decide) (ht _ zm_259) (fun _ h9 => h9) rfl (by decide +kernel) rfl rfl (Nat.le_of_ble_eq_true rfl) d_C_init_29 (fun H locs hP hD hS => ?_)
    have hP : va_P D zcl [(h0, .inr (6, [.ref q1, .ref q3, .ref q5, .int 0])), (q1, .inl (cA2, 16, .inl (fun _ => 0))), (q3, .inl (cA4, 16, .inl (fun _ => 0))), (q5, .inl (cA6, 288, .inl (fun _ => 0)))] H := hP
    have hD : va_D A [(h0, .inr (6, [.ref q1, .ref q3, .ref q5, .int 0])), (q1, .inl (cA2, 16, .inl (fun _ => 0))), (q3, .inl (cA4, 16, .inl (fun _ => 0))), (q5, .inl (cA6, 288, .inl (fun _ => 0)))] := hD
    exact zretv hx hb hr hlk hK hP hD hS (q1, q3, q5, cA2, cA4, cA6) [0, 1, 2, 3] [0, 1, 2] rfl (by decide) rfl (trivial) (Nat.le_of_ble_eq_true rfl) (Nat.le_of_ble_eq_true rfl) d_C_init_32)
set_option maxHeartbeats 4000000 in
set_option maxRecDepth 100000 in
theorem c_C_init_32 (l : Launch) (D : va_G) (sz : Nat) (h0 : Nat)  : Met l y_C_init (Cond.code y_C_init prog_3_method_1_code 2 (Option.none : Option Jvm.ClassFile.FieldType) :: zt) { frames := 1, cells := 3, slots := 64, locals := 12 } (zPc [.ref h0, .int 32] D [(h0, .inr (6, [.null, .null, .null, .int 0]))] [] sz (fun _ => True)) (va_Qv (fun (u9 : Nat × Nat × Nat × ClassId × ClassId × ClassId) => match u9 with | (q1, q2, q3, cA1, cA2, cA3) => True) (fun u9 t => zB D ((fun (u9 : Nat × Nat × Nat × ClassId × ClassId × ClassId) => match u9 with | (q1, q2, q3, cA1, cA2, cA3) => [(h0, .inr (6, [.ref q1, .ref q2, .ref q3, .int 0])), (q1, .inl (cA1, 16, .inl (fun _ => 0))), (q2, .inl (cA2, 16, .inl (fun _ => 0))), (q3, .inl (cA3, 32, .inl (fun _ => 0)))]) u9) ((fun (u9 : Nat × Nat × Nat × ClassId × ClassId × ClassId) => match u9 with | (q1, q2, q3, cA1, cA2, cA3) => [(cA1, .int), (cA2, .int), (cA3, .int)]) u9) (va_A [(h0, .inr (6, [.null, .null, .null, .int 0]))] sz) t) (va_A [(h0, .inr (6, [.null, .null, .null, .int 0]))] sz)) 3 64 (va_A [(h0, .inr (6, [.null, .null, .null, .int 0]))] sz) :=
  zMet (Qf := fun A => va_Qv (fun (u9 : Nat × Nat × Nat × ClassId × ClassId × ClassId) => match u9 with | (q1, q2, q3, cA1, cA2, cA3) => True) (fun u9 t => zB D ((fun (u9 : Nat × Nat × Nat × ClassId × ClassId × ClassId) => match u9 with | (q1, q2, q3, cA1, cA2, cA3) => [(h0, .inr (6, [.ref q1, .ref q2, .ref q3, .int 0])), (q1, .inl (cA1, 16, .inl (fun _ => 0))), (q2, .inl (cA2, 16, .inl (fun _ => 0))), (q3, .inl (cA3, 32, .inl (fun _ => 0)))]) u9) ((fun (u9 : Nat × Nat × Nat × ClassId × ClassId × ClassId) => match u9 with | (q1, q2, q3, cA1, cA2, cA3) => [(cA1, .int), (cA2, .int), (cA3, .int)]) u9) A t) A) (by decide) (Nat.le_of_ble_eq_true rfl) (fun p e s m below meth c A ls hx hb hr hml hown ht hlk hnm hA hK hP hD hX hl => by
    have hS : va_S A s.heap s.heap [] := va_S.rf
    have hl : lv_has ls 2 [(0, .ref h0), (1, .int 32)] := hl
    refine lv_aload_n hx hb d_C_init_0 rfl (lv_at hl 0 rfl) ?_
    refine W.objInit hx hb hown (ht _ zm_255) (ht _ zm_87) (ht _ zm_88) rfl (by rw [hml]; exact hl.1) rfl d_C_init_1 (Nat.le_of_ble_eq_true rfl) (Nat.le_of_ble_eq_true rfl) ?_
    refine W.eq (g2 := F0 m 4 ls []) rfl ?_
    refine lv_aload_n hx hb d_C_init_4 rfl (lv_at hl 0 rfl) ?_
    refine lv_bipush (v := 16) hx hb d_C_init_5 (by decide) ?_
    refine va_newa (atype := .int) (ty := .int) (n := 16) (N' := 16) (a0 := (16, .inl (fun _ => 0))) hx hb (ht _ zm_269) rfl hK hP hD hS hA (fun _ => rfl) (by decide) (by decide) (by decide) (Nat.le_of_ble_eq_true rfl) (Nat.le_of_ble_eq_true rfl) d_C_init_7 (fun q1 cA2 H hK hP hD hS => ?_)
    have hP : va_P D zcl [(h0, .inr (6, [.null, .null, .null, .int 0])), (q1, .inl (cA2, 16, .inl (fun _ => 0)))] H := hP
    have hD : va_D A [(h0, .inr (6, [.null, .null, .null, .int 0])), (q1, .inl (cA2, 16, .inl (fun _ => 0)))] := hD
    have hK : va_K D zcl [(cA2, .int)] s := hK
    refine va_putF (ci := 6) (v := .ref q1) (ty := .array .int) (C := "ZipGuard$CodeSet") (T := F_C) (N := 4) hx hb ht zi_C ty_C tk_C nm_C hown hK hP hD hS 0 rfl rfl 0 (by decide) (ht _ zm_256) (fun _ h9 => h9) rfl hnm rfl (by decide +kernel) rfl rfl (Nat.le_of_ble_eq_true rfl) d_C_init_9 (fun H locs hP hD hS => ?_)
    have hP : va_P D zcl [(h0, .inr (6, [.ref q1, .null, .null, .int 0])), (q1, .inl (cA2, 16, .inl (fun _ => 0)))] H := hP
    have hD : va_D A [(h0, .inr (6, [.ref q1, .null, .null, .int 0])), (q1, .inl (cA2, 16, .inl (fun _ => 0)))] := hD
    refine lv_aload_n hx hb d_C_init_12 rfl (lv_at hl 0 rfl) ?_
    refine lv_bipush (v := 16) hx hb d_C_init_13 (by decide) ?_
    refine va_newa (atype := .int) (ty := .int) (n := 16) (N' := 16) (a0 := (16, .inl (fun _ => 0))) hx hb (ht _ zm_269) rfl hK hP hD hS hA (fun _ => rfl) (by decide) (by decide) (by decide) (Nat.le_of_ble_eq_true rfl) (Nat.le_of_ble_eq_true rfl) d_C_init_15 (fun q3 cA4 H hK hP hD hS => ?_)
    have hP : va_P D zcl [(h0, .inr (6, [.ref q1, .null, .null, .int 0])), (q1, .inl (cA2, 16, .inl (fun _ => 0))), (q3, .inl (cA4, 16, .inl (fun _ => 0)))] H := hP
    have hD : va_D A [(h0, .inr (6, [.ref q1, .null, .null, .int 0])), (q1, .inl (cA2, 16, .inl (fun _ => 0))), (q3, .inl (cA4, 16, .inl (fun _ => 0)))] := hD
    have hK : va_K D zcl [(cA2, .int), (cA4, .int)] s := hK
    refine va_putF (ci := 6) (v := .ref q3) (ty := .array .int) (C := "ZipGuard$CodeSet") (T := F_C) (N := 4) hx hb ht zi_C ty_C tk_C nm_C hown hK hP hD hS 0 rfl rfl 1 (by decide) (ht _ zm_257) (fun _ h9 => h9) rfl hnm rfl (by decide +kernel) rfl rfl (Nat.le_of_ble_eq_true rfl) d_C_init_17 (fun H locs hP hD hS => ?_)
    have hP : va_P D zcl [(h0, .inr (6, [.ref q1, .ref q3, .null, .int 0])), (q1, .inl (cA2, 16, .inl (fun _ => 0))), (q3, .inl (cA4, 16, .inl (fun _ => 0)))] H := hP
    have hD : va_D A [(h0, .inr (6, [.ref q1, .ref q3, .null, .int 0])), (q1, .inl (cA2, 16, .inl (fun _ => 0))), (q3, .inl (cA4, 16, .inl (fun _ => 0)))] := hD
    refine lv_aload_n hx hb d_C_init_20 rfl (lv_at hl 0 rfl) ?_
    refine lv_iload_n hx hb d_C_init_21 rfl (lv_at hl 1 rfl) ?_
    refine va_newa (atype := .int) (ty := .int) (n := 32) (N' := 32) (a0 := (32, .inl (fun _ => 0))) hx hb (ht _ zm_269) rfl hK hP hD hS hA (fun _ => rfl) (by decide) (by decide) (by decide) (Nat.le_of_ble_eq_true rfl) (Nat.le_of_ble_eq_true rfl) d_C_init_22 (fun q5 cA6 H hK hP hD hS => ?_)
    have hP : va_P D zcl [(h0, .inr (6, [.ref q1, .ref q3, .null, .int 0])), (q1, .inl (cA2, 16, .inl (fun _ => 0))), (q3, .inl (cA4, 16, .inl (fun _ => 0))), (q5, .inl (cA6, 32, .inl (fun _ => 0)))] H := hP
    have hD : va_D A [(h0, .inr (6, [.ref q1, .ref q3, .null, .int 0])), (q1, .inl (cA2, 16, .inl (fun _ => 0))), (q3, .inl (cA4, 16, .inl (fun _ => 0))), (q5, .inl (cA6, 32, .inl (fun _ => 0)))] := hD
    have hK : va_K D zcl [(cA2, .int), (cA4, .int), (cA6, .int)] s := hK
    refine va_putF (ci := 6) (v := .ref q5) (ty := .array .int) (C := "ZipGuard$CodeSet") (T := F_C) (N := 4) hx hb ht zi_C ty_C tk_C nm_C hown hK hP hD hS 0 rfl rfl 2 (by decide) (ht _ zm_258) (fun _ h9 => h9) rfl hnm rfl (by decide +kernel) rfl rfl (Nat.le_of_ble_eq_true rfl) d_C_init_24 (fun H locs hP hD hS => ?_)
    have hP : va_P D zcl [(h0, .inr (6, [.ref q1, .ref q3, .ref q5, .int 0])), (q1, .inl (cA2, 16, .inl (fun _ => 0))), (q3, .inl (cA4, 16, .inl (fun _ => 0))), (q5, .inl (cA6, 32, .inl (fun _ => 0)))] H := hP
    have hD : va_D A [(h0, .inr (6, [.ref q1, .ref q3, .ref q5, .int 0])), (q1, .inl (cA2, 16, .inl (fun _ => 0))), (q3, .inl (cA4, 16, .inl (fun _ => 0))), (q5, .inl (cA6, 32, .inl (fun _ => 0)))] := hD
    refine lv_aload_n hx hb d_C_init_27 rfl (lv_at hl 0 rfl) ?_
    refine lv_iconst (v := 0) hx hb d_C_init_28 (by decide) ?_
    refine va_put (ci := 6) (v := .int 0) (ty := .int) (C := "ZipGuard$CodeSet") (T := F_C) (N := 4) hx hb ht zi_C ty_C tk_C nm_C hown hK hP hD hS 0 rfl rfl 3 (by decide) (ht _ zm_259) (fun _ h9 => h9) rfl (by decide +kernel) rfl rfl (Nat.le_of_ble_eq_true rfl) d_C_init_29 (fun H locs hP hD hS => ?_)
    have hP : va_P D zcl [(h0, .inr (6, [.ref q1, .ref q3, .ref q5, .int 0])), (q1, .inl (cA2, 16, .inl (fun _ => 0))), (q3, .inl (cA4, 16, .inl (fun _ => 0))), (q5, .inl (cA6, 32, .inl (fun _ => 0)))] H := hP
    have hD : va_D A [(h0, .inr (6, [.ref q1, .ref q3, .ref q5, .int 0])), (q1, .inl (cA2, 16, .inl (fun _ => 0))), (q3, .inl (cA4, 16, .inl (fun _ => 0))), (q5, .inl (cA6, 32, .inl (fun _ => 0)))] := hD
    exact zretv hx hb hr hlk hK hP hD hS (q1, q3, q5, cA2, cA4, cA6) [0, 1, 2, 3] [0, 1, 2] rfl (by decide) rfl (trivial) (Nat.le_of_ble_eq_true rfl) (Nat.le_of_ble_eq_true rfl) d_C_init_32)
set_option maxHeartbeats 4000000 in
set_option maxRecDepth 100000 in
theorem c_C_init_19 (l : Launch) (D : va_G) (sz : Nat) (h0 : Nat)  : Met l y_C_init (Cond.code y_C_init prog_3_method_1_code 2 (Option.none : Option Jvm.ClassFile.FieldType) :: zt) { frames := 1, cells := 3, slots := 51, locals := 12 } (zPc [.ref h0, .int 19] D [(h0, .inr (6, [.null, .null, .null, .int 0]))] [] sz (fun _ => True)) (va_Qv (fun (u9 : Nat × Nat × Nat × ClassId × ClassId × ClassId) => match u9 with | (q1, q2, q3, cA1, cA2, cA3) => True) (fun u9 t => zB D ((fun (u9 : Nat × Nat × Nat × ClassId × ClassId × ClassId) => match u9 with | (q1, q2, q3, cA1, cA2, cA3) => [(h0, .inr (6, [.ref q1, .ref q2, .ref q3, .int 0])), (q1, .inl (cA1, 16, .inl (fun _ => 0))), (q2, .inl (cA2, 16, .inl (fun _ => 0))), (q3, .inl (cA3, 19, .inl (fun _ => 0)))]) u9) ((fun (u9 : Nat × Nat × Nat × ClassId × ClassId × ClassId) => match u9 with | (q1, q2, q3, cA1, cA2, cA3) => [(cA1, .int), (cA2, .int), (cA3, .int)]) u9) (va_A [(h0, .inr (6, [.null, .null, .null, .int 0]))] sz) t) (va_A [(h0, .inr (6, [.null, .null, .null, .int 0]))] sz)) 3 51 (va_A [(h0, .inr (6, [.null, .null, .null, .int 0]))] sz) :=
  zMet (Qf := fun A => va_Qv (fun (u9 : Nat × Nat × Nat × ClassId × ClassId × ClassId) => match u9 with | (q1, q2, q3, cA1, cA2, cA3) => True) (fun u9 t => zB D ((fun (u9 : Nat × Nat × Nat × ClassId × ClassId × ClassId) => match u9 with | (q1, q2, q3, cA1, cA2, cA3) => [(h0, .inr (6, [.ref q1, .ref q2, .ref q3, .int 0])), (q1, .inl (cA1, 16, .inl (fun _ => 0))), (q2, .inl (cA2, 16, .inl (fun _ => 0))), (q3, .inl (cA3, 19, .inl (fun _ => 0)))]) u9) ((fun (u9 : Nat × Nat × Nat × ClassId × ClassId × ClassId) => match u9 with | (q1, q2, q3, cA1, cA2, cA3) => [(cA1, .int), (cA2, .int), (cA3, .int)]) u9) A t) A) (by decide) (Nat.le_of_ble_eq_true rfl) (fun p e s m below meth c A ls hx hb hr hml hown ht hlk hnm hA hK hP hD hX hl => by
    have hS : va_S A s.heap s.heap [] := va_S.rf
    have hl : lv_has ls 2 [(0, .ref h0), (1, .int 19)] := hl
    refine lv_aload_n hx hb d_C_init_0 rfl (lv_at hl 0 rfl) ?_
    refine W.objInit hx hb hown (ht _ zm_255) (ht _ zm_87) (ht _ zm_88) rfl (by rw [hml]; exact hl.1) rfl d_C_init_1 (Nat.le_of_ble_eq_true rfl) (Nat.le_of_ble_eq_true rfl) ?_
    refine W.eq (g2 := F0 m 4 ls []) rfl ?_
    refine lv_aload_n hx hb d_C_init_4 rfl (lv_at hl 0 rfl) ?_
    refine lv_bipush (v := 16) hx hb d_C_init_5 (by decide) ?_
    refine va_newa (atype := .int) (ty := .int) (n := 16) (N' := 16) (a0 := (16, .inl (fun _ => 0))) hx hb (ht _ zm_269) rfl hK hP hD hS hA (fun _ => rfl) (by decide) (by decide) (by decide) (Nat.le_of_ble_eq_true rfl) (Nat.le_of_ble_eq_true rfl) d_C_init_7 (fun q1 cA2 H hK hP hD hS => ?_)
    have hP : va_P D zcl [(h0, .inr (6, [.null, .null, .null, .int 0])), (q1, .inl (cA2, 16, .inl (fun _ => 0)))] H := hP
    have hD : va_D A [(h0, .inr (6, [.null, .null, .null, .int 0])), (q1, .inl (cA2, 16, .inl (fun _ => 0)))] := hD
    have hK : va_K D zcl [(cA2, .int)] s := hK
    refine va_putF (ci := 6) (v := .ref q1) (ty := .array .int) (C := "ZipGuard$CodeSet") (T := F_C) (N := 4) hx hb ht zi_C ty_C tk_C nm_C hown hK hP hD hS 0 rfl rfl 0 (by decide) (ht _ zm_256) (fun _ h9 => h9) rfl hnm rfl (by decide +kernel) rfl rfl (Nat.le_of_ble_eq_true rfl) d_C_init_9 (fun H locs hP hD hS => ?_)
    have hP : va_P D zcl [(h0, .inr (6, [.ref q1, .null, .null, .int 0])), (q1, .inl (cA2, 16, .inl (fun _ => 0)))] H := hP
    have hD : va_D A [(h0, .inr (6, [.ref q1, .null, .null, .int 0])), (q1, .inl (cA2, 16, .inl (fun _ => 0)))] := hD
    refine lv_aload_n hx hb d_C_init_12 rfl (lv_at hl 0 rfl) ?_
    refine lv_bipush (v := 16) hx hb d_C_init_13 (by decide) ?_
    refine va_newa (atype := .int) (ty := .int) (n := 16) (N' := 16) (a0 := (16, .inl (fun _ => 0))) hx hb (ht _ zm_269) rfl hK hP hD hS hA (fun _ => rfl) (by decide) (by decide) (by decide) (Nat.le_of_ble_eq_true rfl) (Nat.le_of_ble_eq_true rfl) d_C_init_15 (fun q3 cA4 H hK hP hD hS => ?_)
    have hP : va_P D zcl [(h0, .inr (6, [.ref q1, .null, .null, .int 0])), (q1, .inl (cA2, 16, .inl (fun _ => 0))), (q3, .inl (cA4, 16, .inl (fun _ => 0)))] H := hP
    have hD : va_D A [(h0, .inr (6, [.ref q1, .null, .null, .int 0])), (q1, .inl (cA2, 16, .inl (fun _ => 0))), (q3, .inl (cA4, 16, .inl (fun _ => 0)))] := hD
    have hK : va_K D zcl [(cA2, .int), (cA4, .int)] s := hK
    refine va_putF (ci := 6) (v := .ref q3) (ty := .array .int) (C := "ZipGuard$CodeSet") (T := F_C) (N := 4) hx hb ht zi_C ty_C tk_C nm_C hown hK hP hD hS 0 rfl rfl 1 (by decide) (ht _ zm_257) (fun _ h9 => h9) rfl hnm rfl (by decide +kernel) rfl rfl (Nat.le_of_ble_eq_true rfl) d_C_init_17 (fun H locs hP hD hS => ?_)
    have hP : va_P D zcl [(h0, .inr (6, [.ref q1, .ref q3, .null, .int 0])), (q1, .inl (cA2, 16, .inl (fun _ => 0))), (q3, .inl (cA4, 16, .inl (fun _ => 0)))] H := hP
    have hD : va_D A [(h0, .inr (6, [.ref q1, .ref q3, .null, .int 0])), (q1, .inl (cA2, 16, .inl (fun _ => 0))), (q3, .inl (cA4, 16, .inl (fun _ => 0)))] := hD
    refine lv_aload_n hx hb d_C_init_20 rfl (lv_at hl 0 rfl) ?_
    refine lv_iload_n hx hb d_C_init_21 rfl (lv_at hl 1 rfl) ?_
    refine va_newa (atype := .int) (ty := .int) (n := 19) (N' := 19) (a0 := (19, .inl (fun _ => 0))) hx hb (ht _ zm_269) rfl hK hP hD hS hA (fun _ => rfl) (by decide) (by decide) (by decide) (Nat.le_of_ble_eq_true rfl) (Nat.le_of_ble_eq_true rfl) d_C_init_22 (fun q5 cA6 H hK hP hD hS => ?_)
    have hP : va_P D zcl [(h0, .inr (6, [.ref q1, .ref q3, .null, .int 0])), (q1, .inl (cA2, 16, .inl (fun _ => 0))), (q3, .inl (cA4, 16, .inl (fun _ => 0))), (q5, .inl (cA6, 19, .inl (fun _ => 0)))] H := hP
    have hD : va_D A [(h0, .inr (6, [.ref q1, .ref q3, .null, .int 0])), (q1, .inl (cA2, 16, .inl (fun _ => 0))), (q3, .inl (cA4, 16, .inl (fun _ => 0))), (q5, .inl (cA6, 19, .inl (fun _ => 0)))] := hD
    have hK : va_K D zcl [(cA2, .int), (cA4, .int), (cA6, .int)] s := hK
    refine va_putF (ci := 6) (v := .ref q5) (ty := .array .int) (C := "ZipGuard$CodeSet") (T := F_C) (N := 4) hx hb ht zi_C ty_C tk_C nm_C hown hK hP hD hS 0 rfl rfl 2 (by decide) (ht _ zm_258) (fun _ h9 => h9) rfl hnm rfl (by decide +kernel) rfl rfl (Nat.le_of_ble_eq_true rfl) d_C_init_24 (fun H locs hP hD hS => ?_)
    have hP : va_P D zcl [(h0, .inr (6, [.ref q1, .ref q3, .ref q5, .int 0])), (q1, .inl (cA2, 16, .inl (fun _ => 0))), (q3, .inl (cA4, 16, .inl (fun _ => 0))), (q5, .inl (cA6, 19, .inl (fun _ => 0)))] H := hP
    have hD : va_D A [(h0, .inr (6, [.ref q1, .ref q3, .ref q5, .int 0])), (q1, .inl (cA2, 16, .inl (fun _ => 0))), (q3, .inl (cA4, 16, .inl (fun _ => 0))), (q5, .inl (cA6, 19, .inl (fun _ => 0)))] := hD
    refine lv_aload_n hx hb d_C_init_27 rfl (lv_at hl 0 rfl) ?_
    refine lv_iconst (v := 0) hx hb d_C_init_28 (by decide) ?_
    refine va_put (ci := 6) (v := .int 0) (ty := .int) (C := "ZipGuard$CodeSet") (T := F_C) (N := 4) hx hb ht zi_C ty_C tk_C nm_C hown hK hP hD hS 0 rfl rfl 3 (by decide) (ht _ zm_259) (fun _ h9 => h9) rfl (by decide +kernel) rfl rfl (Nat.le_of_ble_eq_true rfl) d_C_init_29 (fun H locs hP hD hS => ?_)
    have hP : va_P D zcl [(h0, .inr (6, [.ref q1, .ref q3, .ref q5, .int 0])), (q1, .inl (cA2, 16, .inl (fun _ => 0))), (q3, .inl (cA4, 16, .inl (fun _ => 0))), (q5, .inl (cA6, 19, .inl (fun _ => 0)))] H := hP
    have hD : va_D A [(h0, .inr (6, [.ref q1, .ref q3, .ref q5, .int 0])), (q1, .inl (cA2, 16, .inl (fun _ => 0))), (q3, .inl (cA4, 16, .inl (fun _ => 0))), (q5, .inl (cA6, 19, .inl (fun _ => 0)))] := hD
    exact zretv hx hb hr hlk hK hP hD hS (q1, q3, q5, cA2, cA4, cA6) [0, 1, 2, 3] [0, 1, 2] rfl (by decide) rfl (trivial) (Nat.le_of_ble_eq_true rfl) (Nat.le_of_ble_eq_true rfl) d_C_init_32)
set_option maxHeartbeats 4000000 in
set_option maxRecDepth 100000 in
theorem c_C_init_286 (l : Launch) (D : va_G) (sz : Nat) (h0 : Nat)  : Met l y_C_init (Cond.code y_C_init prog_3_method_1_code 2 (Option.none : Option Jvm.ClassFile.FieldType) :: zt) { frames := 1, cells := 3, slots := 318, locals := 12 } (zPc [.ref h0, .int 286] D [(h0, .inr (6, [.null, .null, .null, .int 0]))] [] sz (fun _ => True)) (va_Qv (fun (u9 : Nat × Nat × Nat × ClassId × ClassId × ClassId) => match u9 with | (q1, q2, q3, cA1, cA2, cA3) => True) (fun u9 t => zB D ((fun (u9 : Nat × Nat × Nat × ClassId × ClassId × ClassId) => match u9 with | (q1, q2, q3, cA1, cA2, cA3) => [(h0, .inr (6, [.ref q1, .ref q2, .ref q3, .int 0])), (q1, .inl (cA1, 16, .inl (fun _ => 0))), (q2, .inl (cA2, 16, .inl (fun _ => 0))), (q3, .inl (cA3, 286, .inl (fun _ => 0)))]) u9) ((fun (u9 : Nat × Nat × Nat × ClassId × ClassId × ClassId) => match u9 with | (q1, q2, q3, cA1, cA2, cA3) => [(cA1, .int), (cA2, .int), (cA3, .int)]) u9) (va_A [(h0, .inr (6, [.null, .null, .null, .int 0]))] sz) t) (va_A [(h0, .inr (6, [.null, .null, .null, .int 0]))] sz)) 3 318 (va_A [(h0, .inr (6, [.null, .null, .null, .int 0]))] sz) :=
  zMet (Qf := fun A => va_Qv (fun (u9 : Nat × Nat × Nat × ClassId × ClassId × ClassId) => match u9 with | (q1, q2, q3, cA1, cA2, cA3) => True) (fun u9 t => zB D ((fun (u9 : Nat × Nat × Nat × ClassId × ClassId × ClassId) => match u9 with | (q1, q2, q3, cA1, cA2, cA3) => [(h0, .inr (6, [.ref q1, .ref q2, .ref q3, .int 0])), (q1, .inl (cA1, 16, .inl (fun _ => 0))), (q2, .inl (cA2, 16, .inl (fun _ => 0))), (q3, .inl (cA3, 286, .inl (fun _ => 0)))]) u9) ((fun (u9 : Nat × Nat × Nat × ClassId × ClassId × ClassId) => match u9 with | (q1, q2, q3, cA1, cA2, cA3) => [(cA1, .int), (cA2, .int), (cA3, .int)]) u9) A t) A) (by decide) (Nat.le_of_ble_eq_true rfl) (fun p e s m below meth c A ls hx hb hr hml hown ht hlk hnm hA hK hP hD hX hl => by
    have hS : va_S A s.heap s.heap [] := va_S.rf
    have hl : lv_has ls 2 [(0, .ref h0), (1, .int 286)] := hl
    refine lv_aload_n hx hb d_C_init_0 rfl (lv_at hl 0 rfl) ?_
    refine W.objInit hx hb hown (ht _ zm_255) (ht _ zm_87) (ht _ zm_88) rfl (by rw [hml]; exact hl.1) rfl d_C_init_1 (Nat.le_of_ble_eq_true rfl) (Nat.le_of_ble_eq_true rfl) ?_
    refine W.eq (g2 := F0 m 4 ls []) rfl ?_
    refine lv_aload_n hx hb d_C_init_4 rfl (lv_at hl 0 rfl) ?_
    refine lv_bipush (v := 16) hx hb d_C_init_5 (by decide) ?_
    refine va_newa (atype := .int) (ty := .int) (n := 16) (N' := 16) (a0 := (16, .inl (fun _ => 0))) hx hb (ht _ zm_269) rfl hK hP hD hS hA (fun _ => rfl) (by decide) (by decide) (by decide) (Nat.le_of_ble_eq_true rfl) (Nat.le_of_ble_eq_true rfl) d_C_init_7 (fun q1 cA2 H hK hP hD hS => ?_)
    have hP : va_P D zcl [(h0, .inr (6, [.null, .null, .null, .int 0])), (q1, .inl (cA2, 16, .inl (fun _ => 0)))] H := hP
    have hD : va_D A [(h0, .inr (6, [.null, .null, .null, .int 0])), (q1, .inl (cA2, 16, .inl (fun _ => 0)))] := hD
    have hK : va_K D zcl [(cA2, .int)] s := hK
    refine va_putF (ci := 6) (v := .ref q1) (ty := .array .int) (C := "ZipGuard$CodeSet") (T := F_C) (N := 4) hx hb ht zi_C ty_C tk_C nm_C hown hK hP hD hS 0 rfl rfl 0 (by decide) (ht _ zm_256) (fun _ h9 => h9) rfl hnm rfl (by decide +kernel) rfl rfl (Nat.le_of_ble_eq_true rfl) d_C_init_9 (fun H locs hP hD hS => ?_)
    have hP : va_P D zcl [(h0, .inr (6, [.ref q1, .null, .null, .int 0])), (q1, .inl (cA2, 16, .inl (fun _ => 0)))] H := hP
    have hD : va_D A [(h0, .inr (6, [.ref q1, .null, .null, .int 0])), (q1, .inl (cA2, 16, .inl (fun _ => 0)))] := hD
    refine lv_aload_n hx hb d_C_init_12 rfl (lv_at hl 0 rfl) ?_
    refine lv_bipush (v := 16) hx hb d_C_init_13 (by decide) ?_
    refine va_newa (atype := .int) (ty := .int) (n := 16) (N' := 16) (a0 := (16, .inl (fun _ => 0))) hx hb (ht _ zm_269) rfl hK hP hD hS hA (fun _ => rfl) (by decide) (by decide) (by decide) (Nat.le_of_ble_eq_true rfl) (Nat.le_of_ble_eq_true rfl) d_C_init_15 (fun q3 cA4 H hK hP hD hS => ?_)
    have hP : va_P D zcl [(h0, .inr (6, [.ref q1, .null, .null, .int 0])), (q1, .inl (cA2, 16, .inl (fun _ => 0))), (q3, .inl (cA4, 16, .inl (fun _ => 0)))] H := hP
    have hD : va_D A [(h0, .inr (6, [.ref q1, .null, .null, .int 0])), (q1, .inl (cA2, 16, .inl (fun _ => 0))), (q3, .inl (cA4, 16, .inl (fun _ => 0)))] := hD
    have hK : va_K D zcl [(cA2, .int), (cA4, .int)] s := hK
    refine va_putF (ci := 6) (v := .ref q3) (ty := .array .int) (C := "ZipGuard$CodeSet") (T := F_C) (N := 4) hx hb ht zi_C ty_C tk_C nm_C hown hK hP hD hS 0 rfl rfl 1 (by decide) (ht _ zm_257) (fun _ h9 => h9) rfl hnm rfl (by decide +kernel) rfl rfl (Nat.le_of_ble_eq_true rfl) d_C_init_17 (fun H locs hP hD hS => ?_)
    have hP : va_P D zcl [(h0, .inr (6, [.ref q1, .ref q3, .null, .int 0])), (q1, .inl (cA2, 16, .inl (fun _ => 0))), (q3, .inl (cA4, 16, .inl (fun _ => 0)))] H := hP
    have hD : va_D A [(h0, .inr (6, [.ref q1, .ref q3, .null, .int 0])), (q1, .inl (cA2, 16, .inl (fun _ => 0))), (q3, .inl (cA4, 16, .inl (fun _ => 0)))] := hD
    refine lv_aload_n hx hb d_C_init_20 rfl (lv_at hl 0 rfl) ?_
    refine lv_iload_n hx hb d_C_init_21 rfl (lv_at hl 1 rfl) ?_
    refine va_newa (atype := .int) (ty := .int) (n := 286) (N' := 286) (a0 := (286, .inl (fun _ => 0))) hx hb (ht _ zm_269) rfl hK hP hD hS hA (fun _ => rfl) (by decide) (by decide) (by decide) (Nat.le_of_ble_eq_true rfl) (Nat.le_of_ble_eq_true rfl) d_C_init_22 (fun q5 cA6 H hK hP hD hS => ?_)
    have hP : va_P D zcl [(h0, .inr (6, [.ref q1, .ref q3, .null, .int 0])), (q1, .inl (cA2, 16, .inl (fun _ => 0))), (q3, .inl (cA4, 16, .inl (fun _ => 0))), (q5, .inl (cA6, 286, .inl (fun _ => 0)))] H := hP
    have hD : va_D A [(h0, .inr (6, [.ref q1, .ref q3, .null, .int 0])), (q1, .inl (cA2, 16, .inl (fun _ => 0))), (q3, .inl (cA4, 16, .inl (fun _ => 0))), (q5, .inl (cA6, 286, .inl (fun _ => 0)))] := hD
    have hK : va_K D zcl [(cA2, .int), (cA4, .int), (cA6, .int)] s := hK
    refine va_putF (ci := 6) (v := .ref q5) (ty := .array .int) (C := "ZipGuard$CodeSet") (T := F_C) (N := 4) hx hb ht zi_C ty_C tk_C nm_C hown hK hP hD hS 0 rfl rfl 2 (by decide) (ht _ zm_258) (fun _ h9 => h9) rfl hnm rfl (by decide +kernel) rfl rfl (Nat.le_of_ble_eq_true rfl) d_C_init_24 (fun H locs hP hD hS => ?_)
    have hP : va_P D zcl [(h0, .inr (6, [.ref q1, .ref q3, .ref q5, .int 0])), (q1, .inl (cA2, 16, .inl (fun _ => 0))), (q3, .inl (cA4, 16, .inl (fun _ => 0))), (q5, .inl (cA6, 286, .inl (fun _ => 0)))] H := hP
    have hD : va_D A [(h0, .inr (6, [.ref q1, .ref q3, .ref q5, .int 0])), (q1, .inl (cA2, 16, .inl (fun _ => 0))), (q3, .inl (cA4, 16, .inl (fun _ => 0))), (q5, .inl (cA6, 286, .inl (fun _ => 0)))] := hD
    refine lv_aload_n hx hb d_C_init_27 rfl (lv_at hl 0 rfl) ?_
    refine lv_iconst (v := 0) hx hb d_C_init_28 (by decide) ?_
    refine va_put (ci := 6) (v := .int 0) (ty := .int) (C := "ZipGuard$CodeSet") (T := F_C) (N := 4) hx hb ht zi_C ty_C tk_C nm_C hown hK hP hD hS 0 rfl rfl 3 (by decide) (ht _ zm_259) (fun _ h9 => h9) rfl (by decide +kernel) rfl rfl (Nat.le_of_ble_eq_true rfl) d_C_init_29 (fun H locs hP hD hS => ?_)
    have hP : va_P D zcl [(h0, .inr (6, [.ref q1, .ref q3, .ref q5, .int 0])), (q1, .inl (cA2, 16, .inl (fun _ => 0))), (q3, .inl (cA4, 16, .inl (fun _ => 0))), (q5, .inl (cA6, 286, .inl (fun _ => 0)))] H := hP
    have hD : va_D A [(h0, .inr (6, [.ref q1, .ref q3, .ref q5, .int 0])), (q1, .inl (cA2, 16, .inl (fun _ => 0))), (q3, .inl (cA4, 16, .inl (fun _ => 0))), (q5, .inl (cA6, 286, .inl (fun _ => 0)))] := hD
    exact zretv hx hb hr hlk hK hP hD hS (q1, q3, q5, cA2, cA4, cA6) [0, 1, 2, 3] [0, 1, 2] rfl (by decide) rfl (trivial) (Nat.le_of_ble_eq_true rfl) (Nat.le_of_ble_eq_true rfl) d_C_init_32)
set_option maxHeartbeats 4000000 in
set_option maxRecDepth 100000 in
theorem c_C_init_30 (l : Launch) (D : va_G) (sz : Nat) (h0 : Nat)  : Met l y_C_init (Cond.code y_C_init prog_3_method_1_code 2 (Option.none : Option Jvm.ClassFile.FieldType) :: zt) { frames := 1, cells := 3, slots := 62, locals := 12 } (zPc [.ref h0, .int 30] D [(h0, .inr (6, [.null, .null, .null, .int 0]))] [] sz (fun _ => True)) (va_Qv (fun (u9 : Nat × Nat × Nat × ClassId × ClassId × ClassId) => match u9 with | (q1, q2, q3, cA1, cA2, cA3) => True) (fun u9 t => zB D ((fun (u9 : Nat × Nat × Nat × ClassId × ClassId × ClassId) => match u9 with | (q1, q2, q3, cA1, cA2, cA3) => [(h0, .inr (6, [.ref q1, .ref q2, .ref q3, .int 0])), (q1, .inl (cA1, 16, .inl (fun _ => 0))), (q2, .inl (cA2, 16, .inl (fun _ => 0))), (q3, .inl (cA3, 30, .inl (fun _ => 0)))]) u9) ((fun (u9 : Nat × Nat × Nat × ClassId × ClassId × ClassId) => match u9 with | (q1, q2, q3, cA1, cA2, cA3) => [(cA1, .int), (cA2, .int), (cA3, .int)]) u9) (va_A [(h0, .inr (6, [.null, .null, .null, .int 0]))] sz) t) (va_A [(h0, .inr (6, [.null, .null, .null, .int 0]))] sz)) 3 62 (va_A [(h0, .inr (6, [.null, .null, .null, .int 0]))] sz) :=
  zMet (Qf := fun A => va_Qv (fun (u9 : Nat × Nat × Nat × ClassId × ClassId × ClassId) => match u9 with | (q1, q2, q3, cA1, cA2, cA3) => True) (fun u9 t => zB D ((fun (u9 : Nat × Nat × Nat × ClassId × ClassId × ClassId) => match u9 with | (q1, q2, q3, cA1, cA2, cA3) => [(h0, .inr (6, [.ref q1, .ref q2, .ref q3, .int 0])), (q1, .inl (cA1, 16, .inl (fun _ => 0))), (q2, .inl (cA2, 16, .inl (fun _ => 0))), (q3, .inl (cA3, 30, .inl (fun _ => 0)))]) u9) ((fun (u9 : Nat × Nat × Nat × ClassId × ClassId × ClassId) => match u9 with | (q1, q2, q3, cA1, cA2, cA3) => [(cA1, .int), (cA2, .int), (cA3, .int)]) u9) A t) A) (by decide) (Nat.le_of_ble_eq_true rfl) (fun p e s m below meth c A ls hx hb hr hml hown ht hlk hnm hA hK hP hD hX hl => by
    have hS : va_S A s.heap s.heap [] := va_S.rf
    have hl : lv_has ls 2 [(0, .ref h0), (1, .int 30)] := hl
    refine lv_aload_n hx hb d_C_init_0 rfl (lv_at hl 0 rfl) ?_
    refine W.objInit hx hb hown (ht _ zm_255) (ht _ zm_87) (ht _ zm_88) rfl (by rw [hml]; exact hl.1) rfl d_C_init_1 (Nat.le_of_ble_eq_true rfl) (Nat.le_of_ble_eq_true rfl) ?_
    refine W.eq (g2 := F0 m 4 ls []) rfl ?_
    refine lv_aload_n hx hb d_C_init_4 rfl (lv_at hl 0 rfl) ?_
    refine lv_bipush (v := 16) hx hb d_C_init_5 (by decide) ?_
    refine va_newa (atype := .int) (ty := .int) (n := 16) (N' := 16) (a0 := (16, .inl (fun _ => 0))) hx hb (ht _ zm_269) rfl hK hP hD hS hA (fun _ => rfl) (by decide) (by decide) (by decide) (Nat.le_of_ble_eq_true rfl) (Nat.le_of_ble_eq_true rfl) d_C_init_7 (fun q1 cA2 H hK hP hD hS => ?_)
    have hP : va_P D zcl [(h0, .inr (6, [.null, .null, .null, .int 0])), (q1, .inl (cA2, 16, .inl (fun _ => 0)))] H := hP
    have hD : va_D A [(h0, .inr (6, [.null, .null, .null, .int 0])), (q1, .inl (cA2, 16, .inl (fun _ => 0)))] := hD
    have hK : va_K D zcl [(cA2, .int)] s := hK
    refine va_putF (ci := 6) (v := .ref q1) (ty := .array .int) (C := "ZipGuard$CodeSet") (T := F_C) (N := 4) hx hb ht zi_C ty_C tk_C nm_C hown hK hP hD hS 0 rfl rfl 0 (by decide) (ht _ zm_256) (fun _ h9 => h9) rfl hnm rfl (by decide +kernel) rfl rfl (Nat.le_of_ble_eq_true rfl) d_C_init_9 (fun H locs hP hD hS => ?_)
    have hP : va_P D zcl [(h0, .inr (6, [.ref q1, .null, .null, .int 0])), (q1, .inl (cA2, 16, .inl (fun _ => 0)))] H := hP
    have hD : va_D A [(h0, .inr (6, [.ref q1, .null, .null, .int 0])), (q1, .inl (cA2, 16, .inl (fun _ => 0)))] := hD
    refine lv_aload_n hx hb d_C_init_12 rfl (lv_at hl 0 rfl) ?_
    refine lv_bipush (v := 16) hx hb d_C_init_13 (by decide) ?_
    refine va_newa (atype := .int) (ty := .int) (n := 16) (N' := 16) (a0 := (16, .inl (fun _ => 0))) hx hb (ht _ zm_269) rfl hK hP hD hS hA (fun _ => rfl) (by decide) (by decide) (by decide) (Nat.le_of_ble_eq_true rfl) (Nat.le_of_ble_eq_true rfl) d_C_init_15 (fun q3 cA4 H hK hP hD hS => ?_)
    have hP : va_P D zcl [(h0, .inr (6, [.ref q1, .null, .null, .int 0])), (q1, .inl (cA2, 16, .inl (fun _ => 0))), (q3, .inl (cA4, 16, .inl (fun _ => 0)))] H := hP
    have hD : va_D A [(h0, .inr (6, [.ref q1, .null, .null, .int 0])), (q1, .inl (cA2, 16, .inl (fun _ => 0))), (q3, .inl (cA4, 16, .inl (fun _ => 0)))] := hD
    have hK : va_K D zcl [(cA2, .int), (cA4, .int)] s := hK
    refine va_putF (ci := 6) (v := .ref q3) (ty := .array .int) (C := "ZipGuard$CodeSet") (T := F_C) (N := 4) hx hb ht zi_C ty_C tk_C nm_C hown hK hP hD hS 0 rfl rfl 1 (by decide) (ht _ zm_257) (fun _ h9 => h9) rfl hnm rfl (by decide +kernel) rfl rfl (Nat.le_of_ble_eq_true rfl) d_C_init_17 (fun H locs hP hD hS => ?_)
    have hP : va_P D zcl [(h0, .inr (6, [.ref q1, .ref q3, .null, .int 0])), (q1, .inl (cA2, 16, .inl (fun _ => 0))), (q3, .inl (cA4, 16, .inl (fun _ => 0)))] H := hP
    have hD : va_D A [(h0, .inr (6, [.ref q1, .ref q3, .null, .int 0])), (q1, .inl (cA2, 16, .inl (fun _ => 0))), (q3, .inl (cA4, 16, .inl (fun _ => 0)))] := hD
    refine lv_aload_n hx hb d_C_init_20 rfl (lv_at hl 0 rfl) ?_
    refine lv_iload_n hx hb d_C_init_21 rfl (lv_at hl 1 rfl) ?_
    refine va_newa (atype := .int) (ty := .int) (n := 30) (N' := 30) (a0 := (30, .inl (fun _ => 0))) hx hb (ht _ zm_269) rfl hK hP hD hS hA (fun _ => rfl) (by decide) (by decide) (by decide) (Nat.le_of_ble_eq_true rfl) (Nat.le_of_ble_eq_true rfl) d_C_init_22 (fun q5 cA6 H hK hP hD hS => ?_)
    have hP : va_P D zcl [(h0, .inr (6, [.ref q1, .ref q3, .null, .int 0])), (q1, .inl (cA2, 16, .inl (fun _ => 0))), (q3, .inl (cA4, 16, .inl (fun _ => 0))), (q5, .inl (cA6, 30, .inl (fun _ => 0)))] H := hP
    have hD : va_D A [(h0, .inr (6, [.ref q1, .ref q3, .null, .int 0])), (q1, .inl (cA2, 16, .inl (fun _ => 0))), (q3, .inl (cA4, 16, .inl (fun _ => 0))), (q5, .inl (cA6, 30, .inl (fun _ => 0)))] := hD
    have hK : va_K D zcl [(cA2, .int), (cA4, .int), (cA6, .int)] s := hK
    refine va_putF (ci := 6) (v := .ref q5) (ty := .array .int) (C := "ZipGuard$CodeSet") (T := F_C) (N := 4) hx hb ht zi_C ty_C tk_C nm_C hown hK hP hD hS 0 rfl rfl 2 (by decide) (ht _ zm_258) (fun _ h9 => h9) rfl hnm rfl (by decide +kernel) rfl rfl (Nat.le_of_ble_eq_true rfl) d_C_init_24 (fun H locs hP hD hS => ?_)
    have hP : va_P D zcl [(h0, .inr (6, [.ref q1, .ref q3, .ref q5, .int 0])), (q1, .inl (cA2, 16, .inl (fun _ => 0))), (q3, .inl (cA4, 16, .inl (fun _ => 0))), (q5, .inl (cA6, 30, .inl (fun _ => 0)))] H := hP
    have hD : va_D A [(h0, .inr (6, [.ref q1, .ref q3, .ref q5, .int 0])), (q1, .inl (cA2, 16, .inl (fun _ => 0))), (q3, .inl (cA4, 16, .inl (fun _ => 0))), (q5, .inl (cA6, 30, .inl (fun _ => 0)))] := hD
    refine lv_aload_n hx hb d_C_init_27 rfl (lv_at hl 0 rfl) ?_
    refine lv_iconst (v := 0) hx hb d_C_init_28 (by decide) ?_
    refine va_put (ci := 6) (v := .int 0) (ty := .int) (C := "ZipGuard$CodeSet") (T := F_C) (N := 4) hx hb ht zi_C ty_C tk_C nm_C hown hK hP hD hS 0 rfl rfl 3 (by decide) (ht _ zm_259) (fun _ h9 => h9) rfl (by decide +kernel) rfl rfl (Nat.le_of_ble_eq_true rfl) d_C_init_29 (fun H locs hP hD hS => ?_)
    have hP : va_P D zcl [(h0, .inr (6, [.ref q1, .ref q3, .ref q5, .int 0])), (q1, .inl (cA2, 16, .inl (fun _ => 0))), (q3, .inl (cA4, 16, .inl (fun _ => 0))), (q5, .inl (cA6, 30, .inl (fun _ => 0)))] H := hP
    have hD : va_D A [(h0, .inr (6, [.ref q1, .ref q3, .ref q5, .int 0])), (q1, .inl (cA2, 16, .inl (fun _ => 0))), (q3, .inl (cA4, 16, .inl (fun _ => 0))), (q5, .inl (cA6, 30, .inl (fun _ => 0)))] := hD
    exact zretv hx hb hr hlk hK hP hD hS (q1, q3, q5, cA2, cA4, cA6) [0, 1, 2, 3] [0, 1, 2] rfl (by decide) rfl (trivial) (Nat.le_of_ble_eq_true rfl) (Nat.le_of_ble_eq_true rfl) d_C_init_32)
set_option maxHeartbeats 4000000 in
set_option maxRecDepth 100000 in
theorem lp_C_build_11 {p : Program} {l : Launch} {e : Env} {R : Room} {s : State} {m : MethodId} {args : Array Value} {below : List Frame} {meth : Method} {c : Code} {cells slots : Nat} {Q : State → Prop} {A : Nat → Prop} {D : va_G} (hx : p.tables.exec = Jvm.exec) (hb : c.code = prog_3_method_2_code) (hml : c.maxLocals = 6) (hown : s.vm.findClass "ZipGuard$CodeSet" = some m.cls) (ht : ∀ w ∈ zt, w.before args s = true) (hA : ∀ q, s.heap.size ≤ q → A q) (h0 : Nat) (a1 : Nat) (a2 : Nat) (a3 : Nat) (ar : Nat) (cA1 : ClassId) (cA2 : ClassId) (cA3 : ClassId) (cR : ClassId) (SS : Nat) (N0 : Nat) (f : Nat → Int32) (fr : Nat) (nn : Nat) (d : Nat → Nat) (k0 : Int32) (g2 : Nat → Int32) (g3 : Nat → Int32) (hf : ∀ k, k < nn → f (fr + k) = nI (d k)) (hd : ∀ k, k < nn → d k ≤ 15) (hfr : fr + nn ≤ N0) (hSS : nn ≤ SS) (hN : N0 < 2 ^ 31) (hS2 : SS < 2 ^ 31) (hK : va_K D zcl [(cA1, .int), (cA2, .int), (cA3, .int), (cR, .int)] s) 
    (kk : ∀ (g1 : Nat → Int32) (H : Heap) (locs : List Loc) (ls : Array Slot), (∀ l, l ≤ 15 → g1 l = nI (zcn d nn l)) → va_P D zcl [(h0, .inr (6, [.ref a1, .ref a2, .ref a3, .int k0])), (a1, .inl (cA1, 16, .inl g1)), (a2, .inl (cA2, 16, .inl g2)), (a3, .inl (cA3, SS, .inl g3)), (ar, .inl (cR, N0, .inl f))] H → va_D A [(h0, .inr (6, [.ref a1, .ref a2, .ref a3, .int k0])), (a1, .inl (cA1, 16, .inl g1)), (a2, .inl (cA2, 16, .inl g2)), (a3, .inl (cA3, SS, .inl g3)), (ar, .inl (cR, N0, .inl f))] → va_S A s.heap H locs → lv_has ls 6 [(4, .int (nI nn)), (0, .ref h0), (1, .ref ar), (2, .int (nI fr)), (3, .int (nI nn))] → W p l e R s m args below meth c H locs cells slots Q (F0 m 38 ls [])) :
    ∀ (j : Nat) (k : Nat) (g1 : Nat → Int32) (H : Heap) (locs : List Loc) (ls : Array Slot), k + j = nn → (∀ l, l ≤ 15 → g1 l = nI (zcn d k l)) → va_P D zcl [(h0, .inr (6, [.ref a1, .ref a2, .ref a3, .int k0])), (a1, .inl (cA1, 16, .inl g1)), (a2, .inl (cA2, 16, .inl g2)), (a3, .inl (cA3, SS, .inl g3)), (ar, .inl (cR, N0, .inl f))] H → va_D A [(h0, .inr (6, [.ref a1, .ref a2, .ref a3, .int k0])), (a1, .inl (cA1, 16, .inl g1)), (a2, .inl (cA2, 16, .inl g2)), (a3, .inl (cA3, SS, .inl g3)), (ar, .inl (cR, N0, .inl f))] → va_S A s.heap H locs → lv_has ls 6 [(4, .int (nI k)), (0, .ref h0), (1, .ref ar), (2, .int (nI fr)), (3, .int (nI nn))] → W p l e R s m args below meth c H locs cells slots Q (F0 m 11 ls []) := by
  intro j
  induction j with
  | zero =>
    intro k g1 H locs ls hk hI hP hD hS hl
    have hk : k = nn := by omega
    subst hk
    refine lv_iload hx hb d_C_build_11 (lv_at hl 0 rfl) ?_
    refine lv_iload_n hx hb d_C_build_13 rfl (lv_at hl 4 rfl) ?_
    refine lv_icmp_ge (tgt := 38) hx hb d_C_build_14 (by decide) (fun _ => ?_) (fun h => absurd (nI_le (by omega) (by omega)) h)
    exact kk g1 H locs ls hI hP hD hS hl
  | succ j ih =>
    intro k g1 H locs ls hk hI hP hD hS hl
    refine lv_iload hx hb d_C_build_11 (lv_at hl 0 rfl) ?_
    refine lv_iload_n hx hb d_C_build_13 rfl (lv_at hl 4 rfl) ?_
    refine lv_icmp_ge (tgt := 38) hx hb d_C_build_14 (by decide) (fun h => absurd h (nI_ge (by omega) (by omega))) (fun _ => ?_)
    have hdk := hd k (by omega)
    refine lv_aload_n hx hb d_C_build_17 rfl (lv_at hl 1 rfl) ?_
    refine va_get (ci := 6) (C := "ZipGuard$CodeSet") (T := F_C) (N := 4) hx hb ht zi_C hown hK hP 0 rfl rfl 0 (by decide) (ht _ zm_256) (fun _ h9 => h9) rfl d_C_build_18 ?_
    refine lv_aload_n hx hb d_C_build_21 rfl (lv_at hl 2 rfl) ?_
    refine lv_iload_n hx hb d_C_build_22 rfl (lv_at hl 3 rfl) ?_
    refine lv_iload hx hb d_C_build_23 (lv_at hl 0 rfl) ?_
    refine lv_iadd hx hb d_C_build_25 ?_
    refine va_iald hx hb hK hP 4 3 rfl rfl (by rw [nI_add]; exact vp_in_nI (by omega) (by omega)) d_C_build_26 ?_
    refine lv_topi (fun x3 e_x3 => ?_)
    have e_x3 : x3 = nI (d k) := by rw [e_x3, nI_add, nI_clamp (by omega)]; exact hf k (by omega)
    subst e_x3
    refine lv_dup2_11 hx hb d_C_build_27 rfl rfl ?_
    refine va_iald hx hb hK hP 1 0 rfl rfl (vp_in_nI (by omega) (by omega)) d_C_build_28 ?_
    refine lv_iconst (v := 1) hx hb d_C_build_29 (by decide) ?_
    refine lv_iadd hx hb d_C_build_30 ?_
    refine va_iast hx hb hK hP hD hS 1 0 rfl rfl (vp_in_nI (by omega) (by omega)) d_C_build_31 (fun H locs hP hD hS => ?_)
    have hP : va_P D zcl [(h0, .inr (6, [.ref a1, .ref a2, .ref a3, .int k0])), (a1, .inl (cA1, 16, .inl (upd g1 (nI (d k)).toNatClampNeg ((g1 (nI (d k)).toNatClampNeg) + 1)))), (a2, .inl (cA2, 16, .inl g2)), (a3, .inl (cA3, SS, .inl g3)), (ar, .inl (cR, N0, .inl f))] H := hP
    have hD : va_D A [(h0, .inr (6, [.ref a1, .ref a2, .ref a3, .int k0])), (a1, .inl (cA1, 16, .inl (upd g1 (nI (d k)).toNatClampNeg ((g1 (nI (d k)).toNatClampNeg) + 1)))), (a2, .inl (cA2, 16, .inl g2)), (a3, .inl (cA3, SS, .inl g3)), (ar, .inl (cR, N0, .inl f))] := hD
    refine lv_iinc (k := 0) (v := (nI k) + 1) (lv' := [(4, .int ((nI k) + 1)), (0, .ref h0), (1, .ref ar), (2, .int (nI fr)), (3, .int (nI nn))]) hx hb d_C_build_32 hl rfl rfl (by decide) rfl (fun ls hl => ?_)
    refine lv_goto (tgt := 11) hx hb d_C_build_35 (by decide) ?_
    rw [nI_1] at hl
    refine ih (k + 1) (upd g1 (nI (d k)).toNatClampNeg ((g1 (nI (d k)).toNatClampNeg) + 1)) H locs ls (by omega) ?_ hP hD hS hl
    intro l hl9
    rw [nI_clamp (by omega)]
    by_cases hld : l = d k
    · rw [hld, pk_us, hI _ hdk, nI_1]
      simp [zcn]
    · rw [pk_un hld, hI l hl9]
      simp [zcn, Ne.symm hld]
set_option maxHeartbeats 4000000 in
set_option maxRecDepth 100000 in
theorem lp_C_build_46 {p : Program} {l : Launch} {e : Env} {R : Room} {s : State} {m : MethodId} {args : Array Value} {below : List Frame} {meth : Method} {c : Code} {cells slots : Nat} {Q : State → Prop} {A : Nat → Prop} {D : va_G} (hx : p.tables.exec = Jvm.exec) (hb : c.code = prog_3_method_2_code) (hml : c.maxLocals = 6) (hown : s.vm.findClass "ZipGuard$CodeSet" = some m.cls) (ht : ∀ w ∈ zt, w.before args s = true) (hA : ∀ q, s.heap.size ≤ q → A q) (h0 : Nat) (a1 : Nat) (a2 : Nat) (a3 : Nat) (ar : Nat) (cA1 : ClassId) (cA2 : ClassId) (cA3 : ClassId) (cR : ClassId) (SS : Nat) (N0 : Nat) (f : Nat → Int32) (fr : Nat) (nn : Nat) (d : Nat → Nat) (g1 : Nat → Int32) (g3 : Nat → Int32) (hf : ∀ k, k < nn → f (fr + k) = nI (d k)) (hd : ∀ k, k < nn → d k ≤ 15) (hfr : fr + nn ≤ N0) (hSS : nn ≤ SS) (hN : N0 < 2 ^ 31) (hS2 : SS < 2 ^ 31) (hG : ∀ l, l ≤ 15 → g1 l = nI (zcn d nn l)) (hK : va_K D zcl [(cA1, .int), (cA2, .int), (cA3, .int), (cR, .int)] s) 
    (kk : ∀ (g2 : Nat → Int32) (H : Heap) (locs : List Loc) (ls : Array Slot), (∀ l, 1 ≤ l → l < 16 → g2 l = nI (zst d nn l)) → va_P D zcl [(h0, .inr (6, [.ref a1, .ref a2, .ref a3, .int (nI (zst d nn 16))])), (a1, .inl (cA1, 16, .inl g1)), (a2, .inl (cA2, 16, .inl g2)), (a3, .inl (cA3, SS, .inl g3)), (ar, .inl (cR, N0, .inl f))] H → va_D A [(h0, .inr (6, [.ref a1, .ref a2, .ref a3, .int (nI (zst d nn 16))])), (a1, .inl (cA1, 16, .inl g1)), (a2, .inl (cA2, 16, .inl g2)), (a3, .inl (cA3, SS, .inl g3)), (ar, .inl (cR, N0, .inl f))] → va_S A s.heap H locs → lv_has ls 6 [(4, .int (nI 16)), (0, .ref h0), (1, .ref ar), (2, .int (nI fr)), (3, .int (nI nn))] → W p l e R s m args below meth c H locs cells slots Q (F0 m 86 ls [])) :
    ∀ (j : Nat) (k : Nat) (g2 : Nat → Int32) (H : Heap) (locs : List Loc) (ls : Array Slot), k + j = 16 → 1 ≤ k → (∀ l, 1 ≤ l → l < k → g2 l = nI (zst d nn l)) → va_P D zcl [(h0, .inr (6, [.ref a1, .ref a2, .ref a3, .int (nI (zst d nn k))])), (a1, .inl (cA1, 16, .inl g1)), (a2, .inl (cA2, 16, .inl g2)), (a3, .inl (cA3, SS, .inl g3)), (ar, .inl (cR, N0, .inl f))] H → va_D A [(h0, .inr (6, [.ref a1, .ref a2, .ref a3, .int (nI (zst d nn k))])), (a1, .inl (cA1, 16, .inl g1)), (a2, .inl (cA2, 16, .inl g2)), (a3, .inl (cA3, SS, .inl g3)), (ar, .inl (cR, N0, .inl f))] → va_S A s.heap H locs → lv_has ls 6 [(4, .int (nI k)), (0, .ref h0), (1, .ref ar), (2, .int (nI fr)), (3, .int (nI nn))] → W p l e R s m args below meth c H locs cells slots Q (F0 m 46 ls []) := by
  intro j
  induction j with
  | zero =>
    intro k g2 H locs ls hk hk1 hI hP hD hS hl
    have hk : k = 16 := by omega
    subst hk
    refine lv_iload hx hb d_C_build_46 (lv_at hl 0 rfl) ?_
    refine lv_bipush (v := 15) hx hb d_C_build_48 (by decide) ?_
    refine lv_icmp_gt (tgt := 86) hx hb d_C_build_50 (by decide) (fun _ => ?_) (fun h => absurd (by decide +kernel) h)
    exact kk g2 H locs ls hI hP hD hS hl
  | succ j ih =>
    intro k g2 H locs ls hk hk1 hI hP hD hS hl
    refine lv_iload hx hb d_C_build_46 (lv_at hl 0 rfl) ?_
    refine lv_bipush (v := 15) hx hb d_C_build_48 (by decide) ?_
    refine lv_icmp_gt (tgt := 86) hx hb d_C_build_50 (by decide) (fun h => absurd h (show ¬ nI 15 < nI k from nI_nlt (by omega) (by omega))) (fun _ => ?_)
    refine lv_aload_n hx hb d_C_build_53 rfl (lv_at hl 1 rfl) ?_
    refine va_get (ci := 6) (C := "ZipGuard$CodeSet") (T := F_C) (N := 4) hx hb ht zi_C hown hK hP 0 rfl rfl 1 (by decide) (ht _ zm_257) (fun _ h9 => h9) rfl d_C_build_54 ?_
    refine lv_iload hx hb d_C_build_57 (lv_at hl 0 rfl) ?_
    refine lv_aload_n hx hb d_C_build_59 rfl (lv_at hl 1 rfl) ?_
    refine va_get (ci := 6) (C := "ZipGuard$CodeSet") (T := F_C) (N := 4) hx hb ht zi_C hown hK hP 0 rfl rfl 3 (by decide) (ht _ zm_259) (fun _ h9 => h9) rfl d_C_build_60 ?_
    refine va_iast hx hb hK hP hD hS 2 1 rfl rfl (vp_in_nI (by omega) (by omega)) d_C_build_63 (fun H locs hP hD hS => ?_)
    have hP : va_P D zcl [(h0, .inr (6, [.ref a1, .ref a2, .ref a3, .int (nI (zst d nn k))])), (a1, .inl (cA1, 16, .inl g1)), (a2, .inl (cA2, 16, .inl (upd g2 (nI k).toNatClampNeg (nI (zst d nn k))))), (a3, .inl (cA3, SS, .inl g3)), (ar, .inl (cR, N0, .inl f))] H := hP
    have hD : va_D A [(h0, .inr (6, [.ref a1, .ref a2, .ref a3, .int (nI (zst d nn k))])), (a1, .inl (cA1, 16, .inl g1)), (a2, .inl (cA2, 16, .inl (upd g2 (nI k).toNatClampNeg (nI (zst d nn k))))), (a3, .inl (cA3, SS, .inl g3)), (ar, .inl (cR, N0, .inl f))] := hD
    refine lv_aload_n hx hb d_C_build_64 rfl (lv_at hl 1 rfl) ?_
    refine lv_dup hx hb d_C_build_65 rfl ?_
    refine va_get (ci := 6) (C := "ZipGuard$CodeSet") (T := F_C) (N := 4) hx hb ht zi_C hown hK hP 0 rfl rfl 3 (by decide) (ht _ zm_259) (fun _ h9 => h9) rfl d_C_build_66 ?_
    refine lv_aload_n hx hb d_C_build_69 rfl (lv_at hl 1 rfl) ?_
    refine va_get (ci := 6) (C := "ZipGuard$CodeSet") (T := F_C) (N := 4) hx hb ht zi_C hown hK hP 0 rfl rfl 0 (by decide) (ht _ zm_256) (fun _ h9 => h9) rfl d_C_build_70 ?_
    refine lv_iload hx hb d_C_build_73 (lv_at hl 0 rfl) ?_
    refine va_iald hx hb hK hP 1 0 rfl rfl (vp_in_nI (by omega) (by omega)) d_C_build_75 ?_
    refine lv_topi (fun x3 e_x3 => ?_)
    have e_x3 : x3 = nI (zcn d nn k) := by rw [e_x3, nI_clamp (by omega)]; exact hG k (by omega)
    subst e_x3
    refine lv_iadd hx hb d_C_build_76 ?_
    refine lv_topi (fun x4 e_x4 => ?_)
    have e_x4 : x4 = nI (zst d nn (k + 1)) := by rw [e_x4, nI_add]; simp only [zst]; rw [if_neg (by omega)]
    subst e_x4
    refine va_put (ci := 6) (v := .int (nI (zst d nn (k + 1)))) (ty := .int) (C := "ZipGuard$CodeSet") (T := F_C) (N := 4) hx hb ht zi_C ty_C tk_C nm_C hown hK hP hD hS 0 rfl rfl 3 (by decide) (ht _ zm_259) (fun _ h9 => h9) rfl (by decide +kernel) rfl rfl (Nat.le_of_ble_eq_true rfl) d_C_build_77 (fun H locs hP hD hS => ?_)
    have hP : va_P D zcl [(h0, .inr (6, [.ref a1, .ref a2, .ref a3, .int (nI (zst d nn (k + 1)))])), (a1, .inl (cA1, 16, .inl g1)), (a2, .inl (cA2, 16, .inl (upd g2 (nI k).toNatClampNeg (nI (zst d nn k))))), (a3, .inl (cA3, SS, .inl g3)), (ar, .inl (cR, N0, .inl f))] H := hP
    have hD : va_D A [(h0, .inr (6, [.ref a1, .ref a2, .ref a3, .int (nI (zst d nn (k + 1)))])), (a1, .inl (cA1, 16, .inl g1)), (a2, .inl (cA2, 16, .inl (upd g2 (nI k).toNatClampNeg (nI (zst d nn k))))), (a3, .inl (cA3, SS, .inl g3)), (ar, .inl (cR, N0, .inl f))] := hD
    refine lv_iinc (k := 0) (v := (nI k) + 1) (lv' := [(4, .int ((nI k) + 1)), (0, .ref h0), (1, .ref ar), (2, .int (nI fr)), (3, .int (nI nn))]) hx hb d_C_build_80 hl rfl rfl (by decide) rfl (fun ls hl => ?_)
    refine lv_goto (tgt := 46) hx hb d_C_build_83 (by decide) ?_
    rw [nI_1] at hl
    refine ih (k + 1) (upd g2 (nI k).toNatClampNeg (nI (zst d nn k))) H locs ls (by omega) (by omega) ?_ hP hD hS hl
    intro l hl1 hl2
    rw [nI_clamp (by omega)]
    by_cases hld : l = k
    · rw [hld, pk_us]
    · rw [pk_un hld, hI l hl1 (by omega)]
set_option maxHeartbeats 4000000 in
set_option maxRecDepth 100000 in
theorem lp_C_build_89 {p : Program} {l : Launch} {e : Env} {R : Room} {s : State} {m : MethodId} {args : Array Value} {below : List Frame} {meth : Method} {c : Code} {cells slots : Nat} {Q : State → Prop} {A : Nat → Prop} {D : va_G} (hx : p.tables.exec = Jvm.exec) (hb : c.code = prog_3_method_2_code) (hml : c.maxLocals = 6) (hown : s.vm.findClass "ZipGuard$CodeSet" = some m.cls) (ht : ∀ w ∈ zt, w.before args s = true) (hA : ∀ q, s.heap.size ≤ q → A q) (h0 : Nat) (a1 : Nat) (a2 : Nat) (a3 : Nat) (ar : Nat) (cA1 : ClassId) (cA2 : ClassId) (cA3 : ClassId) (cR : ClassId) (SS : Nat) (N0 : Nat) (f : Nat → Int32) (fr : Nat) (nn : Nat) (d : Nat → Nat) (g1 : Nat → Int32) (k0 : Int32) (hf : ∀ k, k < nn → f (fr + k) = nI (d k)) (hd : ∀ k, k < nn → d k ≤ 15) (hfr : fr + nn ≤ N0) (hSS : nn ≤ SS) (hN : N0 < 2 ^ 31) (hS2 : SS < 2 ^ 31) (hK : va_K D zcl [(cA1, .int), (cA2, .int), (cA3, .int), (cR, .int)] s) 
    (kk : ∀ (g2 : Nat → Int32) (g3 : Nat → Int32) (H : Heap) (locs : List Loc) (ls : Array Slot), (∀ i, i < nn → 1 ≤ d i → g3 (zst d nn (d i) + zcn d i (d i)) = nI i) → va_P D zcl [(h0, .inr (6, [.ref a1, .ref a2, .ref a3, .int k0])), (a1, .inl (cA1, 16, .inl g1)), (a2, .inl (cA2, 16, .inl g2)), (a3, .inl (cA3, SS, .inl g3)), (ar, .inl (cR, N0, .inl f))] H → va_D A [(h0, .inr (6, [.ref a1, .ref a2, .ref a3, .int k0])), (a1, .inl (cA1, 16, .inl g1)), (a2, .inl (cA2, 16, .inl g2)), (a3, .inl (cA3, SS, .inl g3)), (ar, .inl (cR, N0, .inl f))] → va_S A s.heap H locs → lv_has ls 6 [(4, .int (nI nn)), (0, .ref h0), (1, .ref ar), (2, .int (nI fr)), (3, .int (nI nn))] → W p l e R s m args below meth c H locs cells slots Q (F0 m 139 ls [])) :
    ∀ (j : Nat) (k : Nat) (g2 : Nat → Int32) (g3 : Nat → Int32) (H : Heap) (locs : List Loc) (ls : Array Slot), k + j = nn → ((∀ l, 1 ≤ l → l ≤ 15 → g2 l = nI (zst d nn l + zcn d k l)) ∧ (∀ i, i < k → 1 ≤ d i → g3 (zst d nn (d i) + zcn d i (d i)) = nI i)) → va_P D zcl [(h0, .inr (6, [.ref a1, .ref a2, .ref a3, .int k0])), (a1, .inl (cA1, 16, .inl g1)), (a2, .inl (cA2, 16, .inl g2)), (a3, .inl (cA3, SS, .inl g3)), (ar, .inl (cR, N0, .inl f))] H → va_D A [(h0, .inr (6, [.ref a1, .ref a2, .ref a3, .int k0])), (a1, .inl (cA1, 16, .inl g1)), (a2, .inl (cA2, 16, .inl g2)), (a3, .inl (cA3, SS, .inl g3)), (ar, .inl (cR, N0, .inl f))] → va_S A s.heap H locs → lv_has ls 6 [(4, .int (nI k)), (0, .ref h0), (1, .ref ar), (2, .int (nI fr)), (3, .int (nI nn))] → W p l e R s m args below meth c H locs cells slots Q (F0 m 89 ls []) := by
  intro j
  induction j with
  | zero =>
    intro k g2 g3 H locs ls hk hI hP hD hS hl
    have hk : k = nn := by omega
    subst hk
    refine lv_iload hx hb d_C_build_89 (lv_at hl 0 rfl) ?_
    refine lv_iload_n hx hb d_C_build_91 rfl (lv_at hl 4 rfl) ?_
    refine lv_icmp_ge (tgt := 139) hx hb d_C_build_92 (by decide) (fun _ => ?_) (fun h => absurd (nI_le (by omega) (by omega)) h)
    exact kk g2 g3 H locs ls hI.2 hP hD hS hl
  | succ j ih =>
    intro k g2 g3 H locs ls hk hI hP hD hS hl
    refine lv_iload hx hb d_C_build_89 (lv_at hl 0 rfl) ?_
    refine lv_iload_n hx hb d_C_build_91 rfl (lv_at hl 4 rfl) ?_
    refine lv_icmp_ge (tgt := 139) hx hb d_C_build_92 (by decide) (fun h => absurd h (nI_ge (by omega) (by omega))) (fun _ => ?_)
    have hdk := hd k (by omega)
    refine lv_aload_n hx hb d_C_build_95 rfl (lv_at hl 2 rfl) ?_
    refine lv_iload_n hx hb d_C_build_96 rfl (lv_at hl 3 rfl) ?_
    refine lv_iload hx hb d_C_build_97 (lv_at hl 0 rfl) ?_
    refine lv_iadd hx hb d_C_build_99 ?_
    refine va_iald hx hb hK hP 4 3 rfl rfl (by rw [nI_add]; exact vp_in_nI (by omega) (by omega)) d_C_build_100 ?_
    refine lv_topi (fun x3 e_x3 => ?_)
    have e_x3 : x3 = nI (d k) := by rw [e_x3, nI_add, nI_clamp (by omega)]; exact hf k (by omega)
    subst e_x3
    refine lv_istore (lv' := [(5, .int (nI (d k))), (4, .int (nI k)), (0, .ref h0), (1, .ref ar), (2, .int (nI fr)), (3, .int (nI nn))]) hx hb d_C_build_101 hl (by decide) rfl (fun ls hl => ?_)
    refine lv_iload hx hb d_C_build_103 (lv_at hl 0 rfl) ?_
    by_cases hd0 : d k = 0
    · skip
      refine lv_if_le (tgt := 133) hx hb d_C_build_105 (by decide) (fun _ => ?_) (fun h => absurd (by rw [hd0]; decide +kernel) h)
      refine lv_iinc (k := 1) (v := (nI k) + 1) (lv' := [(4, .int ((nI k) + 1)), (5, .int (nI (d k))), (0, .ref h0), (1, .ref ar), (2, .int (nI fr)), (3, .int (nI nn))]) hx hb d_C_build_133 hl rfl rfl (by decide) rfl (fun ls hl => ?_)
      refine lv_goto (tgt := 89) hx hb d_C_build_136 (by decide) ?_
      rw [nI_1] at hl
      refine ih (k + 1) g2 g3 H locs ls (by omega) ⟨?_, ?_⟩ hP hD hS (lv_sub hl [0, 2, 3, 4, 5] rfl)
      · intro l h1 h2
        rw [hI.1 l h1 h2]
        have : d k ≠ l := by omega
        simp [zcn, this]
      · intro i hi h1
        by_cases hik : i = k
        · rw [hik] at h1
          omega
        · exact hI.2 i (by omega) h1
    · skip
      have hd1 : 1 ≤ d k := by omega
      have hin := zst_in d (k := k) (n := nn) (by omega) hd1 hdk
      refine lv_if_le (tgt := 133) hx hb d_C_build_105 (by decide) (fun h => absurd h (nI_nle (by omega) (by omega))) (fun _ => ?_)
      refine lv_aload_n hx hb d_C_build_108 rfl (lv_at hl 2 rfl) ?_
      refine va_get (ci := 6) (C := "ZipGuard$CodeSet") (T := F_C) (N := 4) hx hb ht zi_C hown hK hP 0 rfl rfl 2 (by decide) (ht _ zm_258) (fun _ h9 => h9) rfl d_C_build_109 ?_
      refine lv_aload_n hx hb d_C_build_112 rfl (lv_at hl 2 rfl) ?_
      refine va_get (ci := 6) (C := "ZipGuard$CodeSet") (T := F_C) (N := 4) hx hb ht zi_C hown hK hP 0 rfl rfl 1 (by decide) (ht _ zm_257) (fun _ h9 => h9) rfl d_C_build_113 ?_
      refine lv_iload hx hb d_C_build_116 (lv_at hl 0 rfl) ?_
      refine va_iald hx hb hK hP 2 1 rfl rfl (vp_in_nI (by omega) (by omega)) d_C_build_118 ?_
      refine lv_topi (fun x6 e_x6 => ?_)
      have e_x6 : x6 = nI (zst d nn (d k) + zcn d k (d k)) := by rw [e_x6, nI_clamp (by omega)]; exact hI.1 (d k) hd1 hdk
      subst e_x6
      refine lv_iload hx hb d_C_build_119 (lv_at hl 1 rfl) ?_
      refine va_iast hx hb hK hP hD hS 3 2 rfl rfl (vp_in_nI (by omega) (by omega)) d_C_build_121 (fun H locs hP hD hS => ?_)
      have hP : va_P D zcl [(h0, .inr (6, [.ref a1, .ref a2, .ref a3, .int k0])), (a1, .inl (cA1, 16, .inl g1)), (a2, .inl (cA2, 16, .inl g2)), (a3, .inl (cA3, SS, .inl (upd g3 (nI (zst d nn (d k) + zcn d k (d k))).toNatClampNeg (nI k)))), (ar, .inl (cR, N0, .inl f))] H := hP
      have hD : va_D A [(h0, .inr (6, [.ref a1, .ref a2, .ref a3, .int k0])), (a1, .inl (cA1, 16, .inl g1)), (a2, .inl (cA2, 16, .inl g2)), (a3, .inl (cA3, SS, .inl (upd g3 (nI (zst d nn (d k) + zcn d k (d k))).toNatClampNeg (nI k)))), (ar, .inl (cR, N0, .inl f))] := hD
      refine lv_aload_n hx hb d_C_build_122 rfl (lv_at hl 2 rfl) ?_
      refine va_get (ci := 6) (C := "ZipGuard$CodeSet") (T := F_C) (N := 4) hx hb ht zi_C hown hK hP 0 rfl rfl 1 (by decide) (ht _ zm_257) (fun _ h9 => h9) rfl d_C_build_123 ?_
      refine lv_iload hx hb d_C_build_126 (lv_at hl 0 rfl) ?_
      refine lv_dup2_11 hx hb d_C_build_128 rfl rfl ?_
      refine va_iald hx hb hK hP 2 1 rfl rfl (vp_in_nI (by omega) (by omega)) d_C_build_129 ?_
      refine lv_iconst (v := 1) hx hb d_C_build_130 (by decide) ?_
      refine lv_iadd hx hb d_C_build_131 ?_
      refine va_iast hx hb hK hP hD hS 2 1 rfl rfl (vp_in_nI (by omega) (by omega)) d_C_build_132 (fun H locs hP hD hS => ?_)
      have hP : va_P D zcl [(h0, .inr (6, [.ref a1, .ref a2, .ref a3, .int k0])), (a1, .inl (cA1, 16, .inl g1)), (a2, .inl (cA2, 16, .inl (upd g2 (nI (d k)).toNatClampNeg ((g2 (nI (d k)).toNatClampNeg) + 1)))), (a3, .inl (cA3, SS, .inl (upd g3 (nI (zst d nn (d k) + zcn d k (d k))).toNatClampNeg (nI k)))), (ar, .inl (cR, N0, .inl f))] H := hP
      have hD : va_D A [(h0, .inr (6, [.ref a1, .ref a2, .ref a3, .int k0])), (a1, .inl (cA1, 16, .inl g1)), (a2, .inl (cA2, 16, .inl (upd g2 (nI (d k)).toNatClampNeg ((g2 (nI (d k)).toNatClampNeg) + 1)))), (a3, .inl (cA3, SS, .inl (upd g3 (nI (zst d nn (d k) + zcn d k (d k))).toNatClampNeg (nI k)))), (ar, .inl (cR, N0, .inl f))] := hD
      refine lv_iinc (k := 1) (v := (nI k) + 1) (lv' := [(4, .int ((nI k) + 1)), (5, .int (nI (d k))), (0, .ref h0), (1, .ref ar), (2, .int (nI fr)), (3, .int (nI nn))]) hx hb d_C_build_133 hl rfl rfl (by decide) rfl (fun ls hl => ?_)
      refine lv_goto (tgt := 89) hx hb d_C_build_136 (by decide) ?_
      rw [nI_1] at hl
      refine ih (k + 1) (upd g2 (nI (d k)).toNatClampNeg ((g2 (nI (d k)).toNatClampNeg) + 1)) (upd g3 (nI (zst d nn (d k) + zcn d k (d k))).toNatClampNeg (nI k)) H locs ls (by omega) ⟨?_, ?_⟩ hP hD hS (lv_sub hl [0, 2, 3, 4, 5] rfl)
      · intro l h1 h2
        rw [nI_clamp (by omega)]
        by_cases hld : l = d k
        · rw [hld, pk_us, hI.1 _ hd1 hdk, nI_1]
          simp [zcn, Nat.add_assoc]
        · rw [pk_un hld, hI.1 l h1 h2]
          simp [zcn, Ne.symm hld]
      · intro i hi h1
        rw [nI_clamp (by omega)]
        by_cases hik : i = k
        · rw [hik, pk_us]
        · rw [pk_un (zst_inj d (i := i) (k := k) (n := nn) (by omega) (by omega) h1 hd1)]
          exact hI.2 i (by omega) h1
set_option maxHeartbeats 4000000 in
set_option maxRecDepth 100000 in
theorem c_C_build (l : Launch) (D : va_G) (sz : Nat) (h0 : Nat) (a1 : Nat) (a2 : Nat) (a3 : Nat) (ar : Nat) (cA1 : ClassId) (cA2 : ClassId) (cA3 : ClassId) (cR : ClassId) (SS : Nat) (N0 : Nat) (f : Nat → Int32) (fr : Nat) (nn : Nat) (d : Nat → Nat) (k0 : Int32) (g1 : Nat → Int32) (g2 : Nat → Int32) (g3 : Nat → Int32) (hf : ∀ k, k < nn → f (fr + k) = nI (d k)) (hd : ∀ k, k < nn → d k ≤ 15) (hfr : fr + nn ≤ N0) (hSS : nn ≤ SS) (hN : N0 < 2 ^ 31) (hS2 : SS < 2 ^ 31) : Met l y_C_build (Cond.code y_C_build prog_3_method_2_code 6 (Option.none : Option Jvm.ClassFile.FieldType) :: zt) { frames := 1, cells := 0, slots := 0, locals := 23 } (zPc [.ref h0, .ref ar, .int (nI fr), .int (nI nn)] D [(h0, .inr (6, [.ref a1, .ref a2, .ref a3, .int k0])), (a1, .inl (cA1, 16, .inl g1)), (a2, .inl (cA2, 16, .inl g2)), (a3, .inl (cA3, SS, .inl g3)), (ar, .inl (cR, N0, .inl f))] [(cA1, .int), (cA2, .int), (cA3, .int), (cR, .int)] sz (fun _ => True)) (va_Qv (fun (u9 : (Nat → Int32) × (Nat → Int32) × (Nat → Int32)) => match u9 with | (G1, G2, G3) => (∀ l, l ≤ 15 → G1 l = nI (zcn d nn l)) ∧ (∀ i, i < nn → 1 ≤ d i → G3 (zst d nn (d i) + zcn d i (d i)) = nI i)) (fun u9 t => zB D ((fun (u9 : (Nat → Int32) × (Nat → Int32) × (Nat → Int32)) => match u9 with | (G1, G2, G3) => [(h0, .inr (6, [.ref a1, .ref a2, .ref a3, .int (nI (zst d nn 16))])), (a1, .inl (cA1, 16, .inl G1)), (a2, .inl (cA2, 16, .inl G2)), (a3, .inl (cA3, SS, .inl G3)), (ar, .inl (cR, N0, .inl f))]) u9) ((fun (u9 : (Nat → Int32) × (Nat → Int32) × (Nat → Int32)) => match u9 with | (G1, G2, G3) => [(cA1, .int), (cA2, .int), (cA3, .int), (cR, .int)]) u9) (va_A [(h0, .inr (6, [.ref a1, .ref a2, .ref a3, .int k0])), (a1, .inl (cA1, 16, .inl g1)), (a2, .inl (cA2, 16, .inl g2)), (a3, .inl (cA3, SS, .inl g3)), (ar, .inl (cR, N0, .inl f))] sz) t) (va_A [(h0, .inr (6, [.ref a1, .ref a2, .ref a3, .int k0])), (a1, .inl (cA1, 16, .inl g1)), (a2, .inl (cA2, 16, .inl g2)), (a3, .inl (cA3, SS, .inl g3)), (ar, .inl (cR, N0, .inl f))] sz)) 0 0 (va_A [(h0, .inr (6, [.ref a1, .ref a2, .ref a3, .int k0])), (a1, .inl (cA1, 16, .inl g1)), (a2, .inl (cA2, 16, .inl g2)), (a3, .inl (cA3, SS, .inl g3)), (ar, .inl (cR, N0, .inl f))] sz) :=
  zMet (Qf := fun A => va_Qv (fun (u9 : (Nat → Int32) × (Nat → Int32) × (Nat → Int32)) => match u9 with | (G1, G2, G3) => (∀ l, l ≤ 15 → G1 l = nI (zcn d nn l)) ∧ (∀ i, i < nn → 1 ≤ d i → G3 (zst d nn (d i) + zcn d i (d i)) = nI i)) (fun u9 t => zB D ((fun (u9 : (Nat → Int32) × (Nat → Int32) × (Nat → Int32)) => match u9 with | (G1, G2, G3) => [(h0, .inr (6, [.ref a1, .ref a2, .ref a3, .int (nI (zst d nn 16))])), (a1, .inl (cA1, 16, .inl G1)), (a2, .inl (cA2, 16, .inl G2)), (a3, .inl (cA3, SS, .inl G3)), (ar, .inl (cR, N0, .inl f))]) u9) ((fun (u9 : (Nat → Int32) × (Nat → Int32) × (Nat → Int32)) => match u9 with | (G1, G2, G3) => [(cA1, .int), (cA2, .int), (cA3, .int), (cR, .int)]) u9) A t) A) (by decide) (Nat.le_of_ble_eq_true rfl) (fun p e s m below meth c A ls hx hb hr hml hown ht hlk hnm hA hK hP hD hX hl => by
    have hS : va_S A s.heap s.heap [] := va_S.rf
    have hl : lv_has ls 6 [(0, .ref h0), (1, .ref ar), (2, .int (nI fr)), (3, .int (nI nn))] := hl
    refine lv_aload_n hx hb d_C_build_0 rfl (lv_at hl 0 rfl) ?_
    refine va_get (ci := 6) (C := "ZipGuard$CodeSet") (T := F_C) (N := 4) hx hb ht zi_C hown hK hP 0 rfl rfl 0 (by decide) (ht _ zm_256) (fun _ h9 => h9) rfl d_C_build_1 ?_
    refine lv_iconst (v := 0) hx hb d_C_build_4 (by decide) ?_
    refine zjv (wr := [(h0, .inr (6, [.ref a1, .ref a2, .ref a3, .int k0])), (a2, .inl (cA2, 16, .inl g2)), (a3, .inl (cA3, SS, .inl g3)), (ar, .inl (cR, N0, .inl f))]) (va_runS (As := [.ref a1, .int 0]) (rest := []) ⟨hx, hb, hml, hown, ht⟩ (c_J_fill l D _ a1 cA1 16 g1 0 (by decide)) (zcwS 2 ht zm_367 zm_368 zm_73 zm_369 rfl rfl (by decide +kernel) ⟨Nat.le_of_ble_eq_true rfl, Nat.le_of_ble_eq_true rfl⟩) (zpre zBlind_t hK hP hD [1] [0] rfl (by decide) rfl (fun _ _ _ => trivial)) rfl rfl hl.1 rfl (lv_room (Nat.le_of_ble_eq_true rfl)) d_C_build_5 ⟨Nat.le_of_ble_eq_true rfl, Nat.le_of_ble_eq_true rfl⟩) hK hP hD hS hA [1] [0, 2, 3, 4] rfl rfl (by decide) (by decide) (fun u9 H locs hp2 hP hD hK hS => ?_)
    have hP : va_P D zcl [(h0, .inr (6, [.ref a1, .ref a2, .ref a3, .int k0])), (a2, .inl (cA2, 16, .inl g2)), (a3, .inl (cA3, SS, .inl g3)), (ar, .inl (cR, N0, .inl f)), (a1, .inl (cA1, 16, .inl (zfill g1 0 0 16)))] H := hP
    have hD : va_D A [(h0, .inr (6, [.ref a1, .ref a2, .ref a3, .int k0])), (a2, .inl (cA2, 16, .inl g2)), (a3, .inl (cA3, SS, .inl g3)), (ar, .inl (cR, N0, .inl f)), (a1, .inl (cA1, 16, .inl (zfill g1 0 0 16)))] := hD
    have hK : va_K D zcl [(cA1, .int), (cA2, .int), (cA3, .int), (cR, .int), (cA1, .int)] s := hK
    have hP := hP.sub (ws' := [(h0, .inr (6, [.ref a1, .ref a2, .ref a3, .int k0])), (a1, .inl (cA1, 16, .inl (zfill g1 0 0 16))), (a2, .inl (cA2, 16, .inl g2)), (a3, .inl (cA3, SS, .inl g3)), (ar, .inl (cR, N0, .inl f))]) [0, 4, 1, 2, 3] rfl
    have hD := hD.sub (ws' := [(h0, .inr (6, [.ref a1, .ref a2, .ref a3, .int k0])), (a1, .inl (cA1, 16, .inl (zfill g1 0 0 16))), (a2, .inl (cA2, 16, .inl g2)), (a3, .inl (cA3, SS, .inl g3)), (ar, .inl (cR, N0, .inl f))]) [0, 4, 1, 2, 3] (by decide) rfl
    have hK := hK.sub (tys' := [(cA1, .int), (cA2, .int), (cA3, .int), (cR, .int)]) [0, 1, 2, 3] rfl
    refine lv_iconst (v := 0) hx hb d_C_build_8 (by decide) ?_
    refine lv_istore (lv' := [(4, .int 0), (0, .ref h0), (1, .ref ar), (2, .int (nI fr)), (3, .int (nI nn))]) hx hb d_C_build_9 hl (by decide) rfl (fun ls hl => ?_)
    refine lp_C_build_11 hx hb hml hown ht hA h0 a1 a2 a3 ar cA1 cA2 cA3 cR SS N0 f fr nn d k0 g2 g3 hf hd hfr hSS hN hS2 hK (fun g1 H locs ls hI1 hP hD hS hl => ?_) nn 0 _ H locs ls (by omega) (fun l hl9 => ?_) hP hD hS hl
    rotate_left
    · unfold zfill
      rw [if_pos (by omega)]
      rfl
    refine lv_aload_n hx hb d_C_build_38 rfl (lv_at hl 1 rfl) ?_
    refine lv_iconst (v := 0) hx hb d_C_build_39 (by decide) ?_
    refine va_put (ci := 6) (v := .int 0) (ty := .int) (C := "ZipGuard$CodeSet") (T := F_C) (N := 4) hx hb ht zi_C ty_C tk_C nm_C hown hK hP hD hS 0 rfl rfl 3 (by decide) (ht _ zm_259) (fun _ h9 => h9) rfl (by decide +kernel) rfl rfl (Nat.le_of_ble_eq_true rfl) d_C_build_40 (fun H locs hP hD hS => ?_)
    have hP : va_P D zcl [(h0, .inr (6, [.ref a1, .ref a2, .ref a3, .int 0])), (a1, .inl (cA1, 16, .inl g1)), (a2, .inl (cA2, 16, .inl g2)), (a3, .inl (cA3, SS, .inl g3)), (ar, .inl (cR, N0, .inl f))] H := hP
    have hD : va_D A [(h0, .inr (6, [.ref a1, .ref a2, .ref a3, .int 0])), (a1, .inl (cA1, 16, .inl g1)), (a2, .inl (cA2, 16, .inl g2)), (a3, .inl (cA3, SS, .inl g3)), (ar, .inl (cR, N0, .inl f))] := hD
    refine lv_iconst (v := 1) hx hb d_C_build_43 (by decide) ?_
    refine lv_istore (lv' := [(4, .int 1), (0, .ref h0), (1, .ref ar), (2, .int (nI fr)), (3, .int (nI nn))]) hx hb d_C_build_44 hl (by decide) rfl (fun ls hl => ?_)
    refine lp_C_build_46 hx hb hml hown ht hA h0 a1 a2 a3 ar cA1 cA2 cA3 cR SS N0 f fr nn d g1 g3 hf hd hfr hSS hN hS2 hI1 hK (fun g2 H locs ls hI2 hP hD hS hl => ?_) 15 1 g2 H locs ls (by omega) (by omega) (fun l h1 h2 => by omega) hP hD hS hl
    refine lv_iconst (v := 0) hx hb d_C_build_86 (by decide) ?_
    refine lv_istore (lv' := [(4, .int 0), (0, .ref h0), (1, .ref ar), (2, .int (nI fr)), (3, .int (nI nn))]) hx hb d_C_build_87 hl (by decide) rfl (fun ls hl => ?_)
    refine lp_C_build_89 hx hb hml hown ht hA h0 a1 a2 a3 ar cA1 cA2 cA3 cR SS N0 f fr nn d g1 (nI (zst d nn 16)) hf hd hfr hSS hN hS2 hK (fun g2 g3 H locs ls hI3 hP hD hS hl => ?_) nn 0 g2 g3 H locs ls (by omega) ⟨fun l h1 h2 => ?_, fun i hi => by omega⟩ hP hD hS hl
    rotate_left
    · rw [hI2 l h1 (by omega)]
      simp [zcn]
    exact zretv hx hb hr hlk hK hP hD hS (g1, g2, g3) [0, 1, 2, 3, 4] [0, 1, 2, 3] rfl (by decide) rfl (⟨hI1, hI3⟩) (Nat.le_of_ble_eq_true rfl) (Nat.le_of_ble_eq_true rfl) d_C_build_139)
