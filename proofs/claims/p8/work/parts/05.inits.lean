theorem zdf_G : ∀ j, j < 4 → defaultValue (ty_G j) = vp_V [.null, .null, .null, .null] j := by
  intro j hj
  have h : j = 0 ∨ j = 1 ∨ j = 2 ∨ j = 3 := by omega
  rcases h with rfl | rfl | rfl | rfl <;> rfl
theorem zdf_T : ∀ j, j < 2 → defaultValue (ty_T j) = vp_V [.null, .int 0] j := by
  intro j hj
  have h : j = 0 ∨ j = 1 := by omega
  rcases h with rfl | rfl <;> rfl
theorem zdf_D : ∀ j, j < 5 → defaultValue (ty_D j) = vp_V [.null, .int 0, .int 0, .int 0, .null] j := by
  intro j hj
  have h : j = 0 ∨ j = 1 ∨ j = 2 ∨ j = 3 ∨ j = 4 := by omega
  rcases h with rfl | rfl | rfl | rfl | rfl <;> rfl
theorem zdf_A : ∀ j, j < 5 → defaultValue (ty_A j) = vp_V [.int 0, .int 0, .int 0, .null, .int 0] j := by
  intro j hj
  have h : j = 0 ∨ j = 1 ∨ j = 2 ∨ j = 3 ∨ j = 4 := by omega
  rcases h with rfl | rfl | rfl | rfl | rfl <;> rfl
theorem zdf_U : ∀ j, j < 8 → defaultValue (ty_U j) = vp_V [.null, .null, .null, .null, .null, .null, .null, .null] j := by
  intro j hj
  have h : j = 0 ∨ j = 1 ∨ j = 2 ∨ j = 3 ∨ j = 4 ∨ j = 5 ∨ j = 6 ∨ j = 7 := by omega
  rcases h with rfl | rfl | rfl | rfl | rfl | rfl | rfl | rfl <;> rfl
theorem zdf_B : ∀ j, j < 4 → defaultValue (ty_B j) = vp_V [.null, .int 0, .int 0, .int 0] j := by
  intro j hj
  have h : j = 0 ∨ j = 1 ∨ j = 2 ∨ j = 3 := by omega
  rcases h with rfl | rfl | rfl | rfl <;> rfl
theorem zdf_C : ∀ j, j < 4 → defaultValue (ty_C j) = vp_V [.null, .null, .null, .int 0] j := by
  intro j hj
  have h : j = 0 ∨ j = 1 ∨ j = 2 ∨ j = 3 := by omega
  rcases h with rfl | rfl | rfl | rfl <;> rfl
theorem zdf_E : ∀ j, j < 12 → defaultValue (ty_E j) = vp_V [.null, .int 0, .int 0, .int 0, .int 0, .long 0, .int 0, .int 0, .int 0, .int 0, .int 0, .int 0] j := by
  intro j hj
  have h : j = 0 ∨ j = 1 ∨ j = 2 ∨ j = 3 ∨ j = 4 ∨ j = 5 ∨ j = 6 ∨ j = 7 ∨ j = 8 ∨ j = 9 ∨ j = 10 ∨ j = 11 := by omega
  rcases h with rfl | rfl | rfl | rfl | rfl | rfl | rfl | rfl | rfl | rfl | rfl | rfl <;> rfl
theorem zdf_M : ∀ j, j < 31 → defaultValue (ty_M j) = vp_V [.null, .int 0, .int 0, .int 0, .int 0, .int 0, .int 0, .null, .null, .null, .null, .null, .null, .null, .null, .null, .null, .null, .null, .null, .int 0, .int 0, .int 0, .int 0, .null, .null, .null, .null, .int 0, .int 0, .int 0] j := by
  intro j hj
  have h : j = 0 ∨ j = 1 ∨ j = 2 ∨ j = 3 ∨ j = 4 ∨ j = 5 ∨ j = 6 ∨ j = 7 ∨ j = 8 ∨ j = 9 ∨ j = 10 ∨ j = 11 ∨ j = 12 ∨ j = 13 ∨ j = 14 ∨ j = 15 ∨ j = 16 ∨ j = 17 ∨ j = 18 ∨ j = 19 ∨ j = 20 ∨ j = 21 ∨ j = 22 ∨ j = 23 ∨ j = 24 ∨ j = 25 ∨ j = 26 ∨ j = 27 ∨ j = 28 ∨ j = 29 ∨ j = 30 := by omega
  rcases h with rfl | rfl | rfl | rfl | rfl | rfl | rfl | rfl | rfl | rfl | rfl | rfl | rfl | rfl | rfl | rfl | rfl | rfl | rfl | rfl | rfl | rfl | rfl | rfl | rfl | rfl | rfl | rfl | rfl | rfl | rfl <;> rfl
theorem zcwS {R : Room} {s : State} {args : Array Value} {own : String} {index : Nat} {y : MethodName} {bytes : ByteArray} {maxL mc ms : Nat} {ret : Option FieldType} {rm : Room} (n : Nat) (ht : ∀ w ∈ zt, w.before args s = true) (h1 : Cond.methodLink own index y ∈ zt) (h2 : Cond.static y ∈ zt) (h3 : Cond.initialized y.cls ∈ zt) (h : Cond.code y bytes maxL ret ∈ zt) (hrc : rm.cells = mc) (hrs : rm.slots = ms)
    (hd : y.cls ≠ "java/lang/invoke/MethodHandle" ∧ y.cls ≠ "java/lang/invoke/VarHandle" ∧ (parseMethodDescriptor y.desc).map (fun d => d.parameters.length) = some n) (hR : rm.frames + 1 ≤ R.frames ∧ 8 + (maxL + 11) + rm.locals ≤ R.locals) :
    CallB R s args own index y bytes maxL ret (Cond.code y bytes maxL ret :: zt) rm mc ms n ∧ (Cond.static y).before args s = true := by
  refine va_cwS n ht (fun w hw => ?_) rfl hrc hrs hd hR
  have hz : w ∈ zt := by
    unfold va_wsS at hw
    simp only [List.cons_append, List.nil_append, List.mem_cons] at hw
    rcases hw with rfl | rfl | rfl | rfl | h5
    · exact h1
    · exact h2
    · exact h3
    · exact h
    · exact h5
  exact ⟨hz, good_of_word (zt_gg _ hz)⟩
set_option maxRecDepth 100000 in
theorem zm_87 : Jvm.Cond.instanceMethod ({ cls := "java/lang/Object", name := "<init>", desc := "()V" } : Jvm.MethodName) ∈ zt := zt_m1 (List.mem_of_getElem? (i := 23) rfl)
set_option maxRecDepth 100000 in
theorem zm_88 : Jvm.Cond.code ({ cls := "java/lang/Object", name := "<init>", desc := "()V" } : Jvm.MethodName) object_method_1_code (1 : Nat) (Option.none : Option Jvm.ClassFile.FieldType) ∈ zt := zt_m1 (List.mem_of_getElem? (i := 24) rfl)
set_option maxRecDepth 100000 in
theorem zm_94 : Jvm.Cond.methodLink "ZipGuard$Tape" (1 : Nat) ({ cls := "java/lang/Object", name := "<init>", desc := "()V" } : Jvm.MethodName) ∈ zt := zt_m1 (List.mem_of_getElem? (i := 30) rfl)
set_option maxRecDepth 100000 in
theorem zm_95 : Jvm.Cond.fieldLink "ZipGuard$BitReader" (7 : Nat) "ZipGuard$Tape" "bytes" "[B" ∈ zt := zt_m1 (List.mem_of_getElem? (i := 31) rfl)
set_option maxRecDepth 100000 in
theorem zm_96 : Jvm.Cond.fieldLink "ZipGuard$Tape" (9 : Nat) "ZipGuard$Tape" "bytes" "[B" ∈ zt := zt_m1 (List.mem_of_getElem? (i := 32) rfl)
set_option maxRecDepth 100000 in
theorem zm_97 : Jvm.Cond.fieldLink "ZipGuard$Tape" (13 : Nat) "ZipGuard$Tape" "length" "I" ∈ zt := zt_m1 (List.mem_of_getElem? (i := 33) rfl)
set_option maxRecDepth 100000 in
theorem zm_105 : Jvm.Cond.arrayClass Jvm.ClassFile.FieldType.byte ∈ zt := zt_m1 (List.mem_of_getElem? (i := 41) rfl)
set_option maxRecDepth 100000 in
theorem zm_117 : Jvm.Cond.methodLink "ZipGuard$Entry" (1 : Nat) ({ cls := "java/lang/Object", name := "<init>", desc := "()V" } : Jvm.MethodName) ∈ zt := zt_m1 (List.mem_of_getElem? (i := 53) rfl)
set_option maxRecDepth 100000 in
theorem zm_118 : Jvm.Cond.fieldLink "ZipGuard$Entry" (9 : Nat) "ZipGuard$Entry" "nameBytes" "[B" ∈ zt := zt_m1 (List.mem_of_getElem? (i := 54) rfl)
set_option maxRecDepth 100000 in
theorem zm_204 : Jvm.Cond.methodLink "ZipGuard$Target" (3 : Nat) ({ cls := "java/lang/Object", name := "<init>", desc := "()V" } : Jvm.MethodName) ∈ zt := zt_m1 (List.mem_of_getElem? (i := 140) rfl)
set_option maxRecDepth 100000 in
theorem zm_205 : Jvm.Cond.constant "ZipGuard$Target" (9 : Nat) (40000 : Int32) ∈ zt := zt_m1 (List.mem_of_getElem? (i := 141) rfl)
set_option maxRecDepth 100000 in
theorem zm_206 : Jvm.Cond.fieldLink "ZipGuard$Target" (16 : Nat) "ZipGuard$Target" "budget" "I" ∈ zt := zt_m1 (List.mem_of_getElem? (i := 142) rfl)
set_option maxRecDepth 100000 in
theorem zm_208 : Jvm.Cond.fieldLink "ZipGuard$Target" (20 : Nat) "ZipGuard$Target" "ratio" "I" ∈ zt := zt_m1 (List.mem_of_getElem? (i := 144) rfl)
set_option maxRecDepth 100000 in
theorem zm_210 : Jvm.Cond.fieldLink "ZipGuard$Target" (23 : Nat) "ZipGuard$Target" "total" "I" ∈ zt := zt_m1 (List.mem_of_getElem? (i := 146) rfl)
set_option maxRecDepth 100000 in
theorem zm_212 : Jvm.Cond.fieldLink "ZipGuard$Target" (10 : Nat) "ZipGuard$Target" "bytes" "[B" ∈ zt := zt_m1 (List.mem_of_getElem? (i := 148) rfl)
set_option maxRecDepth 100000 in
theorem zm_213 : Jvm.Cond.fieldLink "ZipGuard$Target" (26 : Nat) "ZipGuard$Target" "runningSum" "I" ∈ zt := zt_m1 (List.mem_of_getElem? (i := 149) rfl)
set_option maxRecDepth 100000 in
theorem zm_236 : Jvm.Cond.methodLink "ZipGuard$BitReader" (1 : Nat) ({ cls := "java/lang/Object", name := "<init>", desc := "()V" } : Jvm.MethodName) ∈ zt := zt_m1 (List.mem_of_getElem? (i := 172) rfl)
set_option maxRecDepth 100000 in
theorem zm_237 : Jvm.Cond.fieldLink "ZipGuard$BitReader" (13 : Nat) "ZipGuard$BitReader" "bytes" "[B" ∈ zt := zt_m1 (List.mem_of_getElem? (i := 173) rfl)
theorem d_A_init_0 : decode prog_7_method_1_code 0 = .ok (.aload_n 0, 1) := by decide +kernel
theorem d_A_init_1 : decode prog_7_method_1_code 1 = .ok (.invokespecial 3, 3) := by decide +kernel
theorem d_A_init_4 : decode prog_7_method_1_code 4 = .ok (.aload_n 0, 1) := by decide +kernel
theorem d_A_init_5 : decode prog_7_method_1_code 5 = .ok (.ldc 9, 2) := by decide +kernel
theorem d_A_init_7 : decode prog_7_method_1_code 7 = .ok (.newarray .byte, 2) := by decide +kernel
theorem d_A_init_9 : decode prog_7_method_1_code 9 = .ok (.putfield 10, 3) := by decide +kernel
theorem d_A_init_12 : decode prog_7_method_1_code 12 = .ok (.aload_n 0, 1) := by decide +kernel
theorem d_A_init_13 : decode prog_7_method_1_code 13 = .ok (.sipush 20000, 3) := by decide +kernel
theorem d_A_init_16 : decode prog_7_method_1_code 16 = .ok (.putfield 16, 3) := by decide +kernel
theorem d_A_init_19 : decode prog_7_method_1_code 19 = .ok (.aload_n 0, 1) := by decide +kernel
theorem d_A_init_20 : decode prog_7_method_1_code 20 = .ok (.bipush 100, 2) := by decide +kernel
theorem d_A_init_22 : decode prog_7_method_1_code 22 = .ok (.putfield 20, 3) := by decide +kernel
theorem d_A_init_25 : decode prog_7_method_1_code 25 = .ok (.aload_n 0, 1) := by decide +kernel
theorem d_A_init_26 : decode prog_7_method_1_code 26 = .ok (.iconst 0, 1) := by decide +kernel
theorem d_A_init_27 : decode prog_7_method_1_code 27 = .ok (.putfield 23, 3) := by decide +kernel
theorem d_A_init_30 : decode prog_7_method_1_code 30 = .ok (.aload_n 0, 1) := by decide +kernel
theorem d_A_init_31 : decode prog_7_method_1_code 31 = .ok (.iconst (-1), 1) := by decide +kernel
theorem d_A_init_32 : decode prog_7_method_1_code 32 = .ok (.putfield 26, 3) := by decide +kernel
theorem d_A_init_35 : decode prog_7_method_1_code 35 = .ok (.return_, 1) := by decide +kernel
theorem d_B_init_0 : decode prog_2_method_1_code 0 = .ok (.aload_n 0, 1) := by decide +kernel
theorem d_B_init_1 : decode prog_2_method_1_code 1 = .ok (.invokespecial 1, 3) := by decide +kernel
theorem d_B_init_4 : decode prog_2_method_1_code 4 = .ok (.aload_n 0, 1) := by decide +kernel
theorem d_B_init_5 : decode prog_2_method_1_code 5 = .ok (.aload_n 1, 1) := by decide +kernel
theorem d_B_init_6 : decode prog_2_method_1_code 6 = .ok (.getfield 7, 3) := by decide +kernel
theorem d_B_init_9 : decode prog_2_method_1_code 9 = .ok (.putfield 13, 3) := by decide +kernel
theorem d_B_init_12 : decode prog_2_method_1_code 12 = .ok (.return_, 1) := by decide +kernel
theorem d_E_init_0 : decode prog_5_method_1_code 0 = .ok (.aload_n 0, 1) := by decide +kernel
theorem d_E_init_1 : decode prog_5_method_1_code 1 = .ok (.invokespecial 1, 3) := by decide +kernel
theorem d_E_init_4 : decode prog_5_method_1_code 4 = .ok (.aload_n 0, 1) := by decide +kernel
theorem d_E_init_5 : decode prog_5_method_1_code 5 = .ok (.bipush 60, 2) := by decide +kernel
theorem d_E_init_7 : decode prog_5_method_1_code 7 = .ok (.newarray .byte, 2) := by decide +kernel
theorem d_E_init_9 : decode prog_5_method_1_code 9 = .ok (.putfield 9, 3) := by decide +kernel
theorem d_E_init_12 : decode prog_5_method_1_code 12 = .ok (.return_, 1) := by decide +kernel
theorem d_T_init_0 : decode prog_6_method_1_code 0 = .ok (.aload_n 0, 1) := by decide +kernel
theorem d_T_init_1 : decode prog_6_method_1_code 1 = .ok (.invokespecial 1, 3) := by decide +kernel
theorem d_T_init_4 : decode prog_6_method_1_code 4 = .ok (.aload_n 0, 1) := by decide +kernel
theorem d_T_init_5 : decode prog_6_method_1_code 5 = .ok (.sipush 20000, 3) := by decide +kernel
theorem d_T_init_8 : decode prog_6_method_1_code 8 = .ok (.newarray .byte, 2) := by decide +kernel
theorem d_T_init_10 : decode prog_6_method_1_code 10 = .ok (.putfield 9, 3) := by decide +kernel
theorem d_T_init_13 : decode prog_6_method_1_code 13 = .ok (.aload_n 0, 1) := by decide +kernel
theorem d_T_init_14 : decode prog_6_method_1_code 14 = .ok (.iconst 0, 1) := by decide +kernel
theorem d_T_init_15 : decode prog_6_method_1_code 15 = .ok (.putfield 13, 3) := by decide +kernel
theorem d_T_init_18 : decode prog_6_method_1_code 18 = .ok (.return_, 1) := by decide +kernel
set_option maxHeartbeats 4000000 in
set_option maxRecDepth 100000 in
theorem c_T_init (l : Launch) (D : va_G) (sz : Nat) (h0 : Nat)  : Met l y_T_init (Cond.code y_T_init prog_6_method_1_code 1 (Option.none : Option Jvm.ClassFile.FieldType) :: zt) { frames := 1, cells := 1, slots := 20000, locals := 12 } (zPc [.ref h0] D [(h0, .inr (1, [.null, .int 0]))] [] sz (fun _ => True)) (va_Qv (fun (u9 : Nat × ClassId) => match u9 with | (q1, cA1) => True) (fun u9 t => zB D ((fun (u9 : Nat × ClassId) => match u9 with | (q1, cA1) => [(h0, .inr (1, [.ref q1, .int 0])), (q1, .inl (cA1, 20000, .inl (fun _ => 0)))]) u9) ((fun (u9 : Nat × ClassId) => match u9 with | (q1, cA1) => [(cA1, .byte)]) u9) (va_A [(h0, .inr (1, [.null, .int 0]))] sz) t) (va_A [(h0, .inr (1, [.null, .int 0]))] sz)) 1 20000 (va_A [(h0, .inr (1, [.null, .int 0]))] sz) :=
  zMet (Qf := fun A => va_Qv (fun (u9 : Nat × ClassId) => match u9 with | (q1, cA1) => True) (fun u9 t => zB D ((fun (u9 : Nat × ClassId) => match u9 with | (q1, cA1) => [(h0, .inr (1, [.ref q1, .int 0])), (q1, .inl (cA1, 20000, .inl (fun _ => 0)))]) u9) ((fun (u9 : Nat × ClassId) => match u9 with | (q1, cA1) => [(cA1, .byte)]) u9) A t) A) (by decide) (Nat.le_of_ble_eq_true rfl) (fun p e s m below meth c A ls hx hb hr hml hown ht hlk hnm hA hK hP hD hX hl => by
    have hS : va_S A s.heap s.heap [] := va_S.rf
    have hl : lv_has ls 1 [(0, .ref h0)] := hl
    refine lv_aload_n hx hb d_T_init_0 rfl (lv_at hl 0 rfl) ?_
    refine W.objInit hx hb hown (ht _ zm_94) (ht _ zm_87) (ht _ zm_88) rfl (by rw [hml]; exact hl.1) rfl d_T_init_1 (Nat.le_of_ble_eq_true rfl) (Nat.le_of_ble_eq_true rfl) ?_
    refine W.eq (g2 := F0 m 4 ls []) rfl ?_
    refine lv_aload_n hx hb d_T_init_4 rfl (lv_at hl 0 rfl) ?_
    refine lv_sipush (v := 20000) hx hb d_T_init_5 (by decide) ?_
    refine va_newa (atype := .byte) (ty := .byte) (n := 20000) (N' := 20000) (a0 := (20000, .inl (fun _ => 0))) hx hb (ht _ zm_105) rfl hK hP hD hS hA (fun _ => rfl) (by decide) (by decide) (by decide) (Nat.le_of_ble_eq_true rfl) (Nat.le_of_ble_eq_true rfl) d_T_init_8 (fun q1 cA2 H hK hP hD hS => ?_)
    have hP : va_P D zcl [(h0, .inr (1, [.null, .int 0])), (q1, .inl (cA2, 20000, .inl (fun _ => 0)))] H := hP
    have hD : va_D A [(h0, .inr (1, [.null, .int 0])), (q1, .inl (cA2, 20000, .inl (fun _ => 0)))] := hD
    have hK : va_K D zcl [(cA2, .byte)] s := hK
    refine va_putF (ci := 1) (v := .ref q1) (ty := .array .byte) (C := "ZipGuard$Tape") (T := F_T) (N := 2) hx hb ht zi_T ty_T tk_T nm_T hown hK hP hD hS 0 rfl rfl 0 (by decide) (ht _ zm_96) (fun _ h9 => h9) rfl hnm rfl (by decide +kernel) rfl rfl (Nat.le_of_ble_eq_true rfl) d_T_init_10 (fun H locs hP hD hS => ?_)
    have hP : va_P D zcl [(h0, .inr (1, [.ref q1, .int 0])), (q1, .inl (cA2, 20000, .inl (fun _ => 0)))] H := hP
    have hD : va_D A [(h0, .inr (1, [.ref q1, .int 0])), (q1, .inl (cA2, 20000, .inl (fun _ => 0)))] := hD
    refine lv_aload_n hx hb d_T_init_13 rfl (lv_at hl 0 rfl) ?_
    refine lv_iconst (v := 0) hx hb d_T_init_14 (by decide) ?_
    refine va_put (ci := 1) (v := .int 0) (ty := .int) (C := "ZipGuard$Tape") (T := F_T) (N := 2) hx hb ht zi_T ty_T tk_T nm_T hown hK hP hD hS 0 rfl rfl 1 (by decide) (ht _ zm_97) (fun _ h9 => h9) rfl (by decide +kernel) rfl rfl (Nat.le_of_ble_eq_true rfl) d_T_init_15 (fun H locs hP hD hS => ?_)
    have hP : va_P D zcl [(h0, .inr (1, [.ref q1, .int 0])), (q1, .inl (cA2, 20000, .inl (fun _ => 0)))] H := hP
    have hD : va_D A [(h0, .inr (1, [.ref q1, .int 0])), (q1, .inl (cA2, 20000, .inl (fun _ => 0)))] := hD
    exact zretv hx hb hr hlk hK hP hD hS (q1, cA2) [0, 1] [0] rfl (by decide) rfl (trivial) (Nat.le_of_ble_eq_true rfl) (Nat.le_of_ble_eq_true rfl) d_T_init_18)
set_option maxHeartbeats 4000000 in
set_option maxRecDepth 100000 in
theorem c_A_init (l : Launch) (D : va_G) (sz : Nat) (h0 : Nat)  : Met l y_A_init (Cond.code y_A_init prog_7_method_1_code 1 (Option.none : Option Jvm.ClassFile.FieldType) :: zt) { frames := 1, cells := 1, slots := 40000, locals := 12 } (zPc [.ref h0] D [(h0, .inr (3, [.int 0, .int 0, .int 0, .null, .int 0]))] [] sz (fun _ => True)) (va_Qv (fun (u9 : Nat × ClassId) => match u9 with | (q1, cA1) => True) (fun u9 t => zB D ((fun (u9 : Nat × ClassId) => match u9 with | (q1, cA1) => [(h0, .inr (3, [.int 20000, .int 100, .int 0, .ref q1, .int (-1)])), (q1, .inl (cA1, 40000, .inl (fun _ => 0)))]) u9) ((fun (u9 : Nat × ClassId) => match u9 with | (q1, cA1) => [(cA1, .byte)]) u9) (va_A [(h0, .inr (3, [.int 0, .int 0, .int 0, .null, .int 0]))] sz) t) (va_A [(h0, .inr (3, [.int 0, .int 0, .int 0, .null, .int 0]))] sz)) 1 40000 (va_A [(h0, .inr (3, [.int 0, .int 0, .int 0, .null, .int 0]))] sz) :=
  zMet (Qf := fun A => va_Qv (fun (u9 : Nat × ClassId) => match u9 with | (q1, cA1) => True) (fun u9 t => zB D ((fun (u9 : Nat × ClassId) => match u9 with | (q1, cA1) => [(h0, .inr (3, [.int 20000, .int 100, .int 0, .ref q1, .int (-1)])), (q1, .inl (cA1, 40000, .inl (fun _ => 0)))]) u9) ((fun (u9 : Nat × ClassId) => match u9 with | (q1, cA1) => [(cA1, .byte)]) u9) A t) A) (by decide) (Nat.le_of_ble_eq_true rfl) (fun p e s m below meth c A ls hx hb hr hml hown ht hlk hnm hA hK hP hD hX hl => by
    have hS : va_S A s.heap s.heap [] := va_S.rf
    have hl : lv_has ls 1 [(0, .ref h0)] := hl
    refine lv_aload_n hx hb d_A_init_0 rfl (lv_at hl 0 rfl) ?_
    refine W.objInit hx hb hown (ht _ zm_204) (ht _ zm_87) (ht _ zm_88) rfl (by rw [hml]; exact hl.1) rfl d_A_init_1 (Nat.le_of_ble_eq_true rfl) (Nat.le_of_ble_eq_true rfl) ?_
    refine W.eq (g2 := F0 m 4 ls []) rfl ?_
    refine lv_aload_n hx hb d_A_init_4 rfl (lv_at hl 0 rfl) ?_
    refine lv_ldc (v := 40000) hx hb hown (ht _ zm_205) d_A_init_5 ?_
    refine va_newa (atype := .byte) (ty := .byte) (n := 40000) (N' := 40000) (a0 := (40000, .inl (fun _ => 0))) hx hb (ht _ zm_105) rfl hK hP hD hS hA (fun _ => rfl) (by decide) (by decide) (by decide) (Nat.le_of_ble_eq_true rfl) (Nat.le_of_ble_eq_true rfl) d_A_init_7 (fun q1 cA2 H hK hP hD hS => ?_)
    have hP : va_P D zcl [(h0, .inr (3, [.int 0, .int 0, .int 0, .null, .int 0])), (q1, .inl (cA2, 40000, .inl (fun _ => 0)))] H := hP
    have hD : va_D A [(h0, .inr (3, [.int 0, .int 0, .int 0, .null, .int 0])), (q1, .inl (cA2, 40000, .inl (fun _ => 0)))] := hD
    have hK : va_K D zcl [(cA2, .byte)] s := hK
    refine va_putF (ci := 3) (v := .ref q1) (ty := .array .byte) (C := "ZipGuard$Target") (T := F_A) (N := 5) hx hb ht zi_A ty_A tk_A nm_A hown hK hP hD hS 0 rfl rfl 3 (by decide) (ht _ zm_212) (fun _ h9 => h9) rfl hnm rfl (by decide +kernel) rfl rfl (Nat.le_of_ble_eq_true rfl) d_A_init_9 (fun H locs hP hD hS => ?_)
    have hP : va_P D zcl [(h0, .inr (3, [.int 0, .int 0, .int 0, .ref q1, .int 0])), (q1, .inl (cA2, 40000, .inl (fun _ => 0)))] H := hP
    have hD : va_D A [(h0, .inr (3, [.int 0, .int 0, .int 0, .ref q1, .int 0])), (q1, .inl (cA2, 40000, .inl (fun _ => 0)))] := hD
    refine lv_aload_n hx hb d_A_init_12 rfl (lv_at hl 0 rfl) ?_
    refine lv_sipush (v := 20000) hx hb d_A_init_13 (by decide) ?_
    refine va_put (ci := 3) (v := .int 20000) (ty := .int) (C := "ZipGuard$Target") (T := F_A) (N := 5) hx hb ht zi_A ty_A tk_A nm_A hown hK hP hD hS 0 rfl rfl 0 (by decide) (ht _ zm_206) (fun _ h9 => h9) rfl (by decide +kernel) rfl rfl (Nat.le_of_ble_eq_true rfl) d_A_init_16 (fun H locs hP hD hS => ?_)
    have hP : va_P D zcl [(h0, .inr (3, [.int 20000, .int 0, .int 0, .ref q1, .int 0])), (q1, .inl (cA2, 40000, .inl (fun _ => 0)))] H := hP
    have hD : va_D A [(h0, .inr (3, [.int 20000, .int 0, .int 0, .ref q1, .int 0])), (q1, .inl (cA2, 40000, .inl (fun _ => 0)))] := hD
    refine lv_aload_n hx hb d_A_init_19 rfl (lv_at hl 0 rfl) ?_
    refine lv_bipush (v := 100) hx hb d_A_init_20 (by decide) ?_
    refine va_put (ci := 3) (v := .int 100) (ty := .int) (C := "ZipGuard$Target") (T := F_A) (N := 5) hx hb ht zi_A ty_A tk_A nm_A hown hK hP hD hS 0 rfl rfl 1 (by decide) (ht _ zm_208) (fun _ h9 => h9) rfl (by decide +kernel) rfl rfl (Nat.le_of_ble_eq_true rfl) d_A_init_22 (fun H locs hP hD hS => ?_)
    have hP : va_P D zcl [(h0, .inr (3, [.int 20000, .int 100, .int 0, .ref q1, .int 0])), (q1, .inl (cA2, 40000, .inl (fun _ => 0)))] H := hP
    have hD : va_D A [(h0, .inr (3, [.int 20000, .int 100, .int 0, .ref q1, .int 0])), (q1, .inl (cA2, 40000, .inl (fun _ => 0)))] := hD
    refine lv_aload_n hx hb d_A_init_25 rfl (lv_at hl 0 rfl) ?_
    refine lv_iconst (v := 0) hx hb d_A_init_26 (by decide) ?_
    refine va_put (ci := 3) (v := .int 0) (ty := .int) (C := "ZipGuard$Target") (T := F_A) (N := 5) hx hb ht zi_A ty_A tk_A nm_A hown hK hP hD hS 0 rfl rfl 2 (by decide) (ht _ zm_210) (fun _ h9 => h9) rfl (by decide +kernel) rfl rfl (Nat.le_of_ble_eq_true rfl) d_A_init_27 (fun H locs hP hD hS => ?_)
    have hP : va_P D zcl [(h0, .inr (3, [.int 20000, .int 100, .int 0, .ref q1, .int 0])), (q1, .inl (cA2, 40000, .inl (fun _ => 0)))] H := hP
    have hD : va_D A [(h0, .inr (3, [.int 20000, .int 100, .int 0, .ref q1, .int 0])), (q1, .inl (cA2, 40000, .inl (fun _ => 0)))] := hD
    refine lv_aload_n hx hb d_A_init_30 rfl (lv_at hl 0 rfl) ?_
    refine lv_iconst (v := (-1)) hx hb d_A_init_31 (by decide) ?_
    refine va_put (ci := 3) (v := .int (-1)) (ty := .int) (C := "ZipGuard$Target") (T := F_A) (N := 5) hx hb ht zi_A ty_A tk_A nm_A hown hK hP hD hS 0 rfl rfl 4 (by decide) (ht _ zm_213) (fun _ h9 => h9) rfl (by decide +kernel) rfl rfl (Nat.le_of_ble_eq_true rfl) d_A_init_32 (fun H locs hP hD hS => ?_)
    have hP : va_P D zcl [(h0, .inr (3, [.int 20000, .int 100, .int 0, .ref q1, .int (-1)])), (q1, .inl (cA2, 40000, .inl (fun _ => 0)))] H := hP
    have hD : va_D A [(h0, .inr (3, [.int 20000, .int 100, .int 0, .ref q1, .int (-1)])), (q1, .inl (cA2, 40000, .inl (fun _ => 0)))] := hD
    exact zretv hx hb hr hlk hK hP hD hS (q1, cA2) [0, 1] [0] rfl (by decide) rfl (trivial) (Nat.le_of_ble_eq_true rfl) (Nat.le_of_ble_eq_true rfl) d_A_init_35)
set_option maxHeartbeats 4000000 in
set_option maxRecDepth 100000 in
theorem c_E_init (l : Launch) (D : va_G) (sz : Nat) (h0 : Nat)  : Met l y_E_init (Cond.code y_E_init prog_5_method_1_code 1 (Option.none : Option Jvm.ClassFile.FieldType) :: zt) { frames := 1, cells := 1, slots := 60, locals := 12 } (zPc [.ref h0] D [(h0, .inr (7, [.null, .int 0, .int 0, .int 0, .int 0, .long 0, .int 0, .int 0, .int 0, .int 0, .int 0, .int 0]))] [] sz (fun _ => True)) (va_Qv (fun (u9 : Nat × ClassId) => match u9 with | (q1, cA1) => True) (fun u9 t => zB D ((fun (u9 : Nat × ClassId) => match u9 with | (q1, cA1) => [(h0, .inr (7, [.ref q1, .int 0, .int 0, .int 0, .int 0, .long 0, .int 0, .int 0, .int 0, .int 0, .int 0, .int 0])), (q1, .inl (cA1, 60, .inl (fun _ => 0)))]) u9) ((fun (u9 : Nat × ClassId) => match u9 with | (q1, cA1) => [(cA1, .byte)]) u9) (va_A [(h0, .inr (7, [.null, .int 0, .int 0, .int 0, .int 0, .long 0, .int 0, .int 0, .int 0, .int 0, .int 0, .int 0]))] sz) t) (va_A [(h0, .inr (7, [.null, .int 0, .int 0, .int 0, .int 0, .long 0, .int 0, .int 0, .int 0, .int 0, .int 0, .int 0]))] sz)) 1 60 (va_A [(h0, .inr (7, [.null, .int 0, .int 0, .int 0, .int 0, .long 0, .int 0, .int 0, .int 0, .int 0, .int 0, .int 0]))] sz) :=
  zMet (Qf := fun A => va_Qv (fun (u9 : Nat × ClassId) => match u9 with | (q1, cA1) => True) (fun u9 t => zB D ((fun (u9 : Nat × ClassId) => match u9 with | (q1, cA1) => [(h0, .inr (7, [.ref q1, .int 0, .int 0, .int 0, .int 0, .long 0, .int 0, .int 0, .int 0, .int 0, .int 0, .int 0])), (q1, .inl (cA1, 60, .inl (fun _ => 0)))]) u9) ((fun (u9 : Nat × ClassId) => match u9 with | (q1, cA1) => [(cA1, .byte)]) u9) A t) A) (by decide) (Nat.le_of_ble_eq_true rfl) (fun p e s m below meth c A ls hx hb hr hml hown ht hlk hnm hA hK hP hD hX hl => by
    have hS : va_S A s.heap s.heap [] := va_S.rf
    have hl : lv_has ls 1 [(0, .ref h0)] := hl
    refine lv_aload_n hx hb d_E_init_0 rfl (lv_at hl 0 rfl) ?_
    refine W.objInit hx hb hown (ht _ zm_117) (ht _ zm_87) (ht _ zm_88) rfl (by rw [hml]; exact hl.1) rfl d_E_init_1 (Nat.le_of_ble_eq_true rfl) (Nat.le_of_ble_eq_true rfl) ?_
    refine W.eq (g2 := F0 m 4 ls []) rfl ?_
    refine lv_aload_n hx hb d_E_init_4 rfl (lv_at hl 0 rfl) ?_
    refine lv_bipush (v := 60) hx hb d_E_init_5 (by decide) ?_
    refine va_newa (atype := .byte) (ty := .byte) (n := 60) (N' := 60) (a0 := (60, .inl (fun _ => 0))) hx hb (ht _ zm_105) rfl hK hP hD hS hA (fun _ => rfl) (by decide) (by decide) (by decide) (Nat.le_of_ble_eq_true rfl) (Nat.le_of_ble_eq_true rfl) d_E_init_7 (fun q1 cA2 H hK hP hD hS => ?_)
    have hP : va_P D zcl [(h0, .inr (7, [.null, .int 0, .int 0, .int 0, .int 0, .long 0, .int 0, .int 0, .int 0, .int 0, .int 0, .int 0])), (q1, .inl (cA2, 60, .inl (fun _ => 0)))] H := hP
    have hD : va_D A [(h0, .inr (7, [.null, .int 0, .int 0, .int 0, .int 0, .long 0, .int 0, .int 0, .int 0, .int 0, .int 0, .int 0])), (q1, .inl (cA2, 60, .inl (fun _ => 0)))] := hD
    have hK : va_K D zcl [(cA2, .byte)] s := hK
    refine va_putF (ci := 7) (v := .ref q1) (ty := .array .byte) (C := "ZipGuard$Entry") (T := F_E) (N := 12) hx hb ht zi_E ty_E tk_E nm_E hown hK hP hD hS 0 rfl rfl 0 (by decide) (ht _ zm_118) (fun _ h9 => h9) rfl hnm rfl (by decide +kernel) rfl rfl (Nat.le_of_ble_eq_true rfl) d_E_init_9 (fun H locs hP hD hS => ?_)
    have hP : va_P D zcl [(h0, .inr (7, [.ref q1, .int 0, .int 0, .int 0, .int 0, .long 0, .int 0, .int 0, .int 0, .int 0, .int 0, .int 0])), (q1, .inl (cA2, 60, .inl (fun _ => 0)))] H := hP
    have hD : va_D A [(h0, .inr (7, [.ref q1, .int 0, .int 0, .int 0, .int 0, .long 0, .int 0, .int 0, .int 0, .int 0, .int 0, .int 0])), (q1, .inl (cA2, 60, .inl (fun _ => 0)))] := hD
    exact zretv hx hb hr hlk hK hP hD hS (q1, cA2) [0, 1] [0] rfl (by decide) rfl (trivial) (Nat.le_of_ble_eq_true rfl) (Nat.le_of_ble_eq_true rfl) d_E_init_12)
set_option maxHeartbeats 4000000 in
set_option maxRecDepth 100000 in
theorem c_B_init (l : Launch) (D : va_G) (sz : Nat) (h0 : Nat) (h1 : Nat) (b : Nat) (n : Int32)  : Met l y_B_init (Cond.code y_B_init prog_2_method_1_code 2 (Option.none : Option Jvm.ClassFile.FieldType) :: zt) { frames := 1, cells := 0, slots := 0, locals := 12 } (zPc [.ref h0, .ref h1] D [(h0, .inr (5, [.null, .int 0, .int 0, .int 0])), (h1, .inr (1, [.ref b, .int n]))] [] sz (fun _ => True)) (va_Qv (fun (_ : Unit) => True) (fun u9 t => zB D ((fun (_ : Unit) => [(h0, .inr (5, [.ref b, .int 0, .int 0, .int 0])), (h1, .inr (1, [.ref b, .int n]))]) u9) ((fun (_ : Unit) => []) u9) (va_A [(h0, .inr (5, [.null, .int 0, .int 0, .int 0])), (h1, .inr (1, [.ref b, .int n]))] sz) t) (va_A [(h0, .inr (5, [.null, .int 0, .int 0, .int 0])), (h1, .inr (1, [.ref b, .int n]))] sz)) 0 0 (va_A [(h0, .inr (5, [.null, .int 0, .int 0, .int 0])), (h1, .inr (1, [.ref b, .int n]))] sz) :=
  zMet (Qf := fun A => va_Qv (fun (_ : Unit) => True) (fun u9 t => zB D ((fun (_ : Unit) => [(h0, .inr (5, [.ref b, .int 0, .int 0, .int 0])), (h1, .inr (1, [.ref b, .int n]))]) u9) ((fun (_ : Unit) => []) u9) A t) A) (by decide) (Nat.le_of_ble_eq_true rfl) (fun p e s m below meth c A ls hx hb hr hml hown ht hlk hnm hA hK hP hD hX hl => by
    have hS : va_S A s.heap s.heap [] := va_S.rf
    have hl : lv_has ls 2 [(0, .ref h0), (1, .ref h1)] := hl
    refine lv_aload_n hx hb d_B_init_0 rfl (lv_at hl 0 rfl) ?_
    refine W.objInit hx hb hown (ht _ zm_236) (ht _ zm_87) (ht _ zm_88) rfl (by rw [hml]; exact hl.1) rfl d_B_init_1 (Nat.le_of_ble_eq_true rfl) (Nat.le_of_ble_eq_true rfl) ?_
    refine W.eq (g2 := F0 m 4 ls []) rfl ?_
    refine lv_aload_n hx hb d_B_init_4 rfl (lv_at hl 0 rfl) ?_
    refine lv_aload_n hx hb d_B_init_5 rfl (lv_at hl 1 rfl) ?_
    refine va_get (ci := 1) (C := "ZipGuard$Tape") (T := F_T) (N := 2) hx hb ht zi_T hown hK hP 1 rfl rfl 0 (by decide) (ht _ zm_95) (fun _ h9 => h9) rfl d_B_init_6 ?_
    refine va_putF (ci := 5) (v := .ref b) (ty := .array .byte) (C := "ZipGuard$BitReader") (T := F_B) (N := 4) hx hb ht zi_B ty_B tk_B nm_B hown hK hP hD hS 0 rfl rfl 0 (by decide) (ht _ zm_237) (fun _ h9 => h9) rfl hnm rfl (by decide +kernel) rfl rfl (Nat.le_of_ble_eq_true rfl) d_B_init_9 (fun H locs hP hD hS => ?_)
    have hP : va_P D zcl [(h0, .inr (5, [.ref b, .int 0, .int 0, .int 0])), (h1, .inr (1, [.ref b, .int n]))] H := hP
    have hD : va_D A [(h0, .inr (5, [.ref b, .int 0, .int 0, .int 0])), (h1, .inr (1, [.ref b, .int n]))] := hD
    exact zretv hx hb hr hlk hK hP hD hS () [0, 1] [] rfl (by decide) rfl (trivial) (Nat.le_of_ble_eq_true rfl) (Nat.le_of_ble_eq_true rfl) d_B_init_12)
