set_option maxRecDepth 100000 in
theorem zm_73 : Jvm.Cond.initialized "java/util/Arrays" ∈ zt := zt_m1 (List.mem_of_getElem? (i := 9) rfl)
set_option maxRecDepth 100000 in
theorem zm_276 : Jvm.Cond.methodLink "java/util/Arrays" (13 : Nat) ({ cls := "java/util/Arrays", name := "rangeCheck", desc := "(III)V" } : Jvm.MethodName) ∈ zt := zt_m1 (List.mem_of_getElem? (i := 212) rfl)
set_option maxRecDepth 100000 in
theorem zm_277 : Jvm.Cond.static ({ cls := "java/util/Arrays", name := "rangeCheck", desc := "(III)V" } : Jvm.MethodName) ∈ zt := zt_m1 (List.mem_of_getElem? (i := 213) rfl)
set_option maxRecDepth 100000 in
theorem zm_278 : Jvm.Cond.code ({ cls := "java/util/Arrays", name := "rangeCheck", desc := "(III)V" } : Jvm.MethodName) prog_27_method_30_code (3 : Nat) (Option.none : Option Jvm.ClassFile.FieldType) ∈ zt := zt_m1 (List.mem_of_getElem? (i := 214) rfl)
theorem d_J_fill_aIIIIV_0 : decode prog_27_method_104_code 0 = .ok (.aload_n 0, 1) := by decide +kernel
theorem d_J_fill_aIIIIV_1 : decode prog_27_method_104_code 1 = .ok (.arraylength, 1) := by decide +kernel
theorem d_J_fill_aIIIIV_2 : decode prog_27_method_104_code 2 = .ok (.iload_n 1, 1) := by decide +kernel
theorem d_J_fill_aIIIIV_3 : decode prog_27_method_104_code 3 = .ok (.iload_n 2, 1) := by decide +kernel
theorem d_J_fill_aIIIIV_4 : decode prog_27_method_104_code 4 = .ok (.invokestatic 13, 3) := by decide +kernel
theorem d_J_fill_aIIIIV_7 : decode prog_27_method_104_code 7 = .ok (.iload_n 1, 1) := by decide +kernel
theorem d_J_fill_aIIIIV_8 : decode prog_27_method_104_code 8 = .ok (.istore 4, 2) := by decide +kernel
theorem d_J_fill_aIIIIV_10 : decode prog_27_method_104_code 10 = .ok (.iload 4, 2) := by decide +kernel
theorem d_J_fill_aIIIIV_12 : decode prog_27_method_104_code 12 = .ok (.iload_n 2, 1) := by decide +kernel
theorem d_J_fill_aIIIIV_13 : decode prog_27_method_104_code 13 = .ok (.if_icmp .ge 14, 3) := by decide +kernel
theorem d_J_fill_aIIIIV_16 : decode prog_27_method_104_code 16 = .ok (.aload_n 0, 1) := by decide +kernel
theorem d_J_fill_aIIIIV_17 : decode prog_27_method_104_code 17 = .ok (.iload 4, 2) := by decide +kernel
theorem d_J_fill_aIIIIV_19 : decode prog_27_method_104_code 19 = .ok (.iload_n 3, 1) := by decide +kernel
theorem d_J_fill_aIIIIV_20 : decode prog_27_method_104_code 20 = .ok (.iastore, 1) := by decide +kernel
theorem d_J_fill_aIIIIV_21 : decode prog_27_method_104_code 21 = .ok (.iinc 4 1, 3) := by decide +kernel
theorem d_J_fill_aIIIIV_24 : decode prog_27_method_104_code 24 = .ok (.goto (-14), 3) := by decide +kernel
theorem d_J_fill_aIIIIV_27 : decode prog_27_method_104_code 27 = .ok (.return_, 1) := by decide +kernel
theorem d_J_fill_aIIV_0 : decode prog_27_method_103_code 0 = .ok (.iconst 0, 1) := by decide +kernel
theorem d_J_fill_aIIV_1 : decode prog_27_method_103_code 1 = .ok (.istore_n 2, 1) := by decide +kernel
theorem d_J_fill_aIIV_2 : decode prog_27_method_103_code 2 = .ok (.aload_n 0, 1) := by decide +kernel
theorem d_J_fill_aIIV_3 : decode prog_27_method_103_code 3 = .ok (.arraylength, 1) := by decide +kernel
theorem d_J_fill_aIIV_4 : decode prog_27_method_103_code 4 = .ok (.istore_n 3, 1) := by decide +kernel
theorem d_J_fill_aIIV_5 : decode prog_27_method_103_code 5 = .ok (.iload_n 2, 1) := by decide +kernel
theorem d_J_fill_aIIV_6 : decode prog_27_method_103_code 6 = .ok (.iload_n 3, 1) := by decide +kernel
theorem d_J_fill_aIIV_7 : decode prog_27_method_103_code 7 = .ok (.if_icmp .ge 13, 3) := by decide +kernel
theorem d_J_fill_aIIV_10 : decode prog_27_method_103_code 10 = .ok (.aload_n 0, 1) := by decide +kernel
theorem d_J_fill_aIIV_11 : decode prog_27_method_103_code 11 = .ok (.iload_n 2, 1) := by decide +kernel
theorem d_J_fill_aIIV_12 : decode prog_27_method_103_code 12 = .ok (.iload_n 1, 1) := by decide +kernel
theorem d_J_fill_aIIV_13 : decode prog_27_method_103_code 13 = .ok (.iastore, 1) := by decide +kernel
theorem d_J_fill_aIIV_14 : decode prog_27_method_103_code 14 = .ok (.iinc 2 1, 3) := by decide +kernel
theorem d_J_fill_aIIV_17 : decode prog_27_method_103_code 17 = .ok (.goto (-12), 3) := by decide +kernel
theorem d_J_fill_aIIV_20 : decode prog_27_method_103_code 20 = .ok (.return_, 1) := by decide +kernel
theorem d_J_rangeCheck_0 : decode prog_27_method_30_code 0 = .ok (.iload_n 1, 1) := by decide +kernel
theorem d_J_rangeCheck_1 : decode prog_27_method_30_code 1 = .ok (.iload_n 2, 1) := by decide +kernel
theorem d_J_rangeCheck_2 : decode prog_27_method_30_code 2 = .ok (.if_icmp .le 44, 3) := by decide +kernel
theorem d_J_rangeCheck_46 : decode prog_27_method_30_code 46 = .ok (.iload_n 1, 1) := by decide +kernel
theorem d_J_rangeCheck_47 : decode prog_27_method_30_code 47 = .ok (.ifCond .ge 12, 3) := by decide +kernel
theorem d_J_rangeCheck_59 : decode prog_27_method_30_code 59 = .ok (.iload_n 2, 1) := by decide +kernel
theorem d_J_rangeCheck_60 : decode prog_27_method_30_code 60 = .ok (.iload_n 0, 1) := by decide +kernel
theorem d_J_rangeCheck_61 : decode prog_27_method_30_code 61 = .ok (.if_icmp .le 12, 3) := by decide +kernel
theorem d_J_rangeCheck_73 : decode prog_27_method_30_code 73 = .ok (.return_, 1) := by decide +kernel
set_option maxHeartbeats 4000000 in
set_option maxRecDepth 100000 in
theorem lp_J_fill_5 {p : Program} {l : Launch} {e : Env} {R : Room} {s : State} {m : MethodId} {args : Array Value} {below : List Frame} {meth : Method} {c : Code} {cells slots : Nat} {Q : State → Prop} {A : Nat → Prop} {D : va_G} (hx : p.tables.exec = Jvm.exec) (hb : c.code = prog_27_method_103_code) (hml : c.maxLocals = 4) (hown : s.vm.findClass "java/util/Arrays" = some m.cls) (ht : ∀ w ∈ zt, w.before args s = true) (hA : ∀ q, s.heap.size ≤ q → A q) (a : Nat) (cA : ClassId) (n : Nat) (f : Nat → Int32) (v : Int32) (hn : n < 2 ^ 31) (hK : va_K D zcl [(cA, .int)] s) 
    (kk : ∀  (H : Heap) (locs : List Loc) (ls : Array Slot), va_P D zcl [(a, .inl (cA, n, .inl (zfill f v 0 n)))] H → va_D A [(a, .inl (cA, n, .inl (zfill f v 0 n)))] → va_S A s.heap H locs → lv_has ls 4 [(3, .int (nI n)), (2, .int (nI n)), (0, .ref a), (1, .int v)] → W p l e R s m args below meth c H locs cells slots Q (F0 m 20 ls [])) :
    ∀ (j : Nat) (k : Nat) (H : Heap) (locs : List Loc) (ls : Array Slot), k + j = n → va_P D zcl [(a, .inl (cA, n, .inl (zfill f v 0 k)))] H → va_D A [(a, .inl (cA, n, .inl (zfill f v 0 k)))] → va_S A s.heap H locs → lv_has ls 4 [(3, .int (nI n)), (2, .int (nI k)), (0, .ref a), (1, .int v)] → W p l e R s m args below meth c H locs cells slots Q (F0 m 5 ls []) := by
  intro j
  induction j with
  | zero =>
    intro k H locs ls hk hP hD hS hl
    refine lv_iload_n hx hb d_J_fill_aIIV_5 rfl (lv_at hl 1 rfl) ?_
    refine lv_iload_n hx hb d_J_fill_aIIV_6 rfl (lv_at hl 0 rfl) ?_
    refine lv_icmp_ge (tgt := 20) hx hb d_J_fill_aIIV_7 (by decide) (fun _ => ?_) (fun h => absurd (nI_le (by omega) (by omega)) h)
    have hk : k = n := by omega
    subst hk
    exact kk H locs ls hP hD hS hl
  | succ j ih =>
    intro k H locs ls hk hP hD hS hl
    refine lv_iload_n hx hb d_J_fill_aIIV_5 rfl (lv_at hl 1 rfl) ?_
    refine lv_iload_n hx hb d_J_fill_aIIV_6 rfl (lv_at hl 0 rfl) ?_
    refine lv_icmp_ge (tgt := 20) hx hb d_J_fill_aIIV_7 (by decide) (fun h => absurd h (nI_ge (by omega) (by omega))) (fun _ => ?_)
    refine lv_aload_n hx hb d_J_fill_aIIV_10 rfl (lv_at hl 2 rfl) ?_
    refine lv_iload_n hx hb d_J_fill_aIIV_11 rfl (lv_at hl 1 rfl) ?_
    refine lv_iload_n hx hb d_J_fill_aIIV_12 rfl (lv_at hl 3 rfl) ?_
    refine va_iast hx hb hK hP hD hS 0 0 rfl rfl (vp_in_nI (by omega) (by omega)) d_J_fill_aIIV_13 (fun H locs hP hD hS => ?_)
    have hP : va_P D zcl [(a, .inl (cA, n, .inl (upd (zfill f v 0 k) (nI k).toNatClampNeg v)))] H := hP
    have hD : va_D A [(a, .inl (cA, n, .inl (upd (zfill f v 0 k) (nI k).toNatClampNeg v)))] := hD
    rw [nI_clamp (by omega), zfill_s f v (Nat.zero_le _)] at hP hD
    refine lv_iinc (k := 1) (v := (nI k) + 1) (lv' := [(2, .int ((nI k) + 1)), (3, .int (nI n)), (0, .ref a), (1, .int v)]) hx hb d_J_fill_aIIV_14 hl rfl rfl (by decide) rfl (fun ls hl => ?_)
    refine lv_goto (tgt := 5) hx hb d_J_fill_aIIV_17 (by decide) ?_
    rw [nI_1] at hl
    exact ih (k + 1) H locs ls (by omega) hP hD hS (lv_sub hl [1, 0, 2, 3] rfl)
set_option maxHeartbeats 4000000 in
set_option maxRecDepth 100000 in
theorem c_J_fill (l : Launch) (D : va_G) (sz : Nat) (a : Nat) (cA : ClassId) (n : Nat) (f : Nat → Int32) (v : Int32) (hn : n < 2 ^ 31) : Met l y_J_fill_aIIV (Cond.code y_J_fill_aIIV prog_27_method_103_code 4 (Option.none : Option Jvm.ClassFile.FieldType) :: zt) { frames := 0, cells := 0, slots := 0, locals := 0 } (zPc [.ref a, .int v] D [(a, .inl (cA, n, .inl f))] [(cA, .int)] sz (fun _ => True)) (va_Qv (fun (_ : Unit) => True) (fun u9 t => zB D ((fun (_ : Unit) => [(a, .inl (cA, n, .inl (zfill f v 0 n)))]) u9) ((fun (_ : Unit) => [(cA, .int)]) u9) (va_A [(a, .inl (cA, n, .inl f))] sz) t) (va_A [(a, .inl (cA, n, .inl f))] sz)) 0 0 (va_A [(a, .inl (cA, n, .inl f))] sz) :=
  zMet (Qf := fun A => va_Qv (fun (_ : Unit) => True) (fun u9 t => zB D ((fun (_ : Unit) => [(a, .inl (cA, n, .inl (zfill f v 0 n)))]) u9) ((fun (_ : Unit) => [(cA, .int)]) u9) A t) A) (by decide) (Nat.le_of_ble_eq_true rfl) (fun p e s m below meth c A ls hx hb hr hml hown ht hlk hnm hA hK hP hD hX hl => by
    have hS : va_S A s.heap s.heap [] := va_S.rf
    have hl : lv_has ls 4 [(0, .ref a), (1, .int v)] := hl
    refine lv_iconst (v := 0) hx hb d_J_fill_aIIV_0 (by decide) ?_
    refine lv_istore_n (lv' := [(2, .int 0), (0, .ref a), (1, .int v)]) hx hb d_J_fill_aIIV_1 rfl hl (by decide) rfl (fun ls hl => ?_)
    refine lv_aload_n hx hb d_J_fill_aIIV_2 rfl (lv_at hl 1 rfl) ?_
    refine va_alen (v := nI n) hx hb hK hP 0 0 rfl rfl rfl d_J_fill_aIIV_3 ?_
    refine lv_istore_n (lv' := [(3, .int (nI n)), (2, .int 0), (0, .ref a), (1, .int v)]) hx hb d_J_fill_aIIV_4 rfl hl (by decide) rfl (fun ls hl => ?_)
    rw [← zfill_0 f v 0] at hP hD
    have hl : lv_has ls 4 [(3, .int (nI n)), (2, .int (nI 0)), (0, .ref a), (1, .int v)] := hl
    refine lp_J_fill_5 hx hb hml hown ht hA a cA n f v hn hK (fun H locs ls hP hD hS hl => ?_) n 0 s.heap [] ls (by omega) hP hD hS hl
    exact zretv hx hb hr hlk hK hP hD hS () [0] [0] rfl (by decide) rfl (trivial) (Nat.le_of_ble_eq_true rfl) (Nat.le_of_ble_eq_true rfl) d_J_fill_aIIV_20)
set_option maxHeartbeats 4000000 in
set_option maxRecDepth 100000 in
theorem c_J_rc (l : Launch) (D : va_G) (sz : Nat) (n : Nat) (x : Nat) (y : Nat) (h1 : x ≤ y) (h2 : y ≤ n) (hn : n < 2 ^ 31) : Met l y_J_rangeCheck (Cond.code y_J_rangeCheck prog_27_method_30_code 3 (Option.none : Option Jvm.ClassFile.FieldType) :: zt) { frames := 0, cells := 0, slots := 0, locals := 0 } (zPc [.int (nI n), .int (nI x), .int (nI y)] D [] [] sz (fun _ => True)) (va_Qv (fun (_ : Unit) => True) (fun u9 t => zB D ((fun (_ : Unit) => []) u9) ((fun (_ : Unit) => []) u9) (va_A [] sz) t) (va_A [] sz)) 0 0 (va_A [] sz) :=
  zMet (Qf := fun A => va_Qv (fun (_ : Unit) => True) (fun u9 t => zB D ((fun (_ : Unit) => []) u9) ((fun (_ : Unit) => []) u9) A t) A) (by decide) (Nat.le_of_ble_eq_true rfl) (fun p e s m below meth c A ls hx hb hr hml hown ht hlk hnm hA hK hP hD hX hl => by
    have hS : va_S A s.heap s.heap [] := va_S.rf
    have hl : lv_has ls 3 [(0, .int (nI n)), (1, .int (nI x)), (2, .int (nI y))] := hl
    refine lv_iload_n hx hb d_J_rangeCheck_0 rfl (lv_at hl 1 rfl) ?_
    refine lv_iload_n hx hb d_J_rangeCheck_1 rfl (lv_at hl 2 rfl) ?_
    refine lv_icmp_le (tgt := 46) hx hb d_J_rangeCheck_2 (by decide) (fun _ => ?_) (fun h => absurd (nI_le (by omega) (by omega)) h)
    refine lv_iload_n hx hb d_J_rangeCheck_46 rfl (lv_at hl 1 rfl) ?_
    refine lv_if_ge (tgt := 59) hx hb d_J_rangeCheck_47 (by decide) (fun _ => ?_) (fun h => absurd (nI_pos' (by omega)) h)
    refine lv_iload_n hx hb d_J_rangeCheck_59 rfl (lv_at hl 2 rfl) ?_
    refine lv_iload_n hx hb d_J_rangeCheck_60 rfl (lv_at hl 0 rfl) ?_
    refine lv_icmp_le (tgt := 73) hx hb d_J_rangeCheck_61 (by decide) (fun _ => ?_) (fun h => absurd (nI_le (by omega) (by omega)) h)
    exact zretv hx hb hr hlk hK hP hD hS () [] [] rfl (by decide) rfl (trivial) (Nat.le_of_ble_eq_true rfl) (Nat.le_of_ble_eq_true rfl) d_J_rangeCheck_73)
set_option maxHeartbeats 4000000 in
set_option maxRecDepth 100000 in
theorem lp_J_fillr_10 {p : Program} {l : Launch} {e : Env} {R : Room} {s : State} {m : MethodId} {args : Array Value} {below : List Frame} {meth : Method} {c : Code} {cells slots : Nat} {Q : State → Prop} {A : Nat → Prop} {D : va_G} (hx : p.tables.exec = Jvm.exec) (hb : c.code = prog_27_method_104_code) (hml : c.maxLocals = 5) (hown : s.vm.findClass "java/util/Arrays" = some m.cls) (ht : ∀ w ∈ zt, w.before args s = true) (hA : ∀ q, s.heap.size ≤ q → A q) (a : Nat) (cA : ClassId) (n : Nat) (f : Nat → Int32) (v : Int32) (x : Nat) (y : Nat) (hy : y ≤ n) (hn : n < 2 ^ 31) (hK : va_K D zcl [(cA, .int)] s) 
    (kk : ∀  (H : Heap) (locs : List Loc) (ls : Array Slot), va_P D zcl [(a, .inl (cA, n, .inl (zfill f v x y)))] H → va_D A [(a, .inl (cA, n, .inl (zfill f v x y)))] → va_S A s.heap H locs → lv_has ls 5 [(4, .int (nI y)), (0, .ref a), (1, .int (nI x)), (2, .int (nI y)), (3, .int v)] → W p l e R s m args below meth c H locs cells slots Q (F0 m 27 ls [])) :
    ∀ (j : Nat) (k : Nat) (H : Heap) (locs : List Loc) (ls : Array Slot), k + j = y → x ≤ k → va_P D zcl [(a, .inl (cA, n, .inl (zfill f v x k)))] H → va_D A [(a, .inl (cA, n, .inl (zfill f v x k)))] → va_S A s.heap H locs → lv_has ls 5 [(4, .int (nI k)), (0, .ref a), (1, .int (nI x)), (2, .int (nI y)), (3, .int v)] → W p l e R s m args below meth c H locs cells slots Q (F0 m 10 ls []) := by
  intro j
  induction j with
  | zero =>
    intro k H locs ls hk hx9 hP hD hS hl
    refine lv_iload hx hb d_J_fill_aIIIIV_10 (lv_at hl 0 rfl) ?_
    refine lv_iload_n hx hb d_J_fill_aIIIIV_12 rfl (lv_at hl 3 rfl) ?_
    refine lv_icmp_ge (tgt := 27) hx hb d_J_fill_aIIIIV_13 (by decide) (fun _ => ?_) (fun h => absurd (nI_le (by omega) (by omega)) h)
    have hk : k = y := by omega
    subst hk
    exact kk H locs ls hP hD hS hl
  | succ j ih =>
    intro k H locs ls hk hx9 hP hD hS hl
    refine lv_iload hx hb d_J_fill_aIIIIV_10 (lv_at hl 0 rfl) ?_
    refine lv_iload_n hx hb d_J_fill_aIIIIV_12 rfl (lv_at hl 3 rfl) ?_
    refine lv_icmp_ge (tgt := 27) hx hb d_J_fill_aIIIIV_13 (by decide) (fun h => absurd h (nI_ge (by omega) (by omega))) (fun _ => ?_)
    refine lv_aload_n hx hb d_J_fill_aIIIIV_16 rfl (lv_at hl 1 rfl) ?_
    refine lv_iload hx hb d_J_fill_aIIIIV_17 (lv_at hl 0 rfl) ?_
    refine lv_iload_n hx hb d_J_fill_aIIIIV_19 rfl (lv_at hl 4 rfl) ?_
    refine va_iast hx hb hK hP hD hS 0 0 rfl rfl (vp_in_nI (by omega) (by omega)) d_J_fill_aIIIIV_20 (fun H locs hP hD hS => ?_)
    have hP : va_P D zcl [(a, .inl (cA, n, .inl (upd (zfill f v x k) (nI k).toNatClampNeg v)))] H := hP
    have hD : va_D A [(a, .inl (cA, n, .inl (upd (zfill f v x k) (nI k).toNatClampNeg v)))] := hD
    rw [nI_clamp (by omega), zfill_s f v hx9] at hP hD
    refine lv_iinc (k := 0) (v := (nI k) + 1) (lv' := [(4, .int ((nI k) + 1)), (0, .ref a), (1, .int (nI x)), (2, .int (nI y)), (3, .int v)]) hx hb d_J_fill_aIIIIV_21 hl rfl rfl (by decide) rfl (fun ls hl => ?_)
    refine lv_goto (tgt := 10) hx hb d_J_fill_aIIIIV_24 (by decide) ?_
    rw [nI_1] at hl
    exact ih (k + 1) H locs ls (by omega) (by omega) hP hD hS hl
set_option maxHeartbeats 4000000 in
set_option maxRecDepth 100000 in
theorem c_J_fillr (l : Launch) (D : va_G) (sz : Nat) (a : Nat) (cA : ClassId) (n : Nat) (f : Nat → Int32) (x : Nat) (y : Nat) (v : Int32) (h1 : x ≤ y) (h2 : y ≤ n) (hn : n < 2 ^ 31) : Met l y_J_fill_aIIIIV (Cond.code y_J_fill_aIIIIV prog_27_method_104_code 5 (Option.none : Option Jvm.ClassFile.FieldType) :: zt) { frames := 1, cells := 0, slots := 0, locals := 22 } (zPc [.ref a, .int (nI x), .int (nI y), .int v] D [(a, .inl (cA, n, .inl f))] [(cA, .int)] sz (fun _ => True)) (va_Qv (fun (_ : Unit) => True) (fun u9 t => zB D ((fun (_ : Unit) => [(a, .inl (cA, n, .inl (zfill f v x y)))]) u9) ((fun (_ : Unit) => [(cA, .int)]) u9) (va_A [(a, .inl (cA, n, .inl f))] sz) t) (va_A [(a, .inl (cA, n, .inl f))] sz)) 0 0 (va_A [(a, .inl (cA, n, .inl f))] sz) :=
  zMet (Qf := fun A => va_Qv (fun (_ : Unit) => True) (fun u9 t => zB D ((fun (_ : Unit) => [(a, .inl (cA, n, .inl (zfill f v x y)))]) u9) ((fun (_ : Unit) => [(cA, .int)]) u9) A t) A) (by decide) (Nat.le_of_ble_eq_true rfl) (fun p e s m below meth c A ls hx hb hr hml hown ht hlk hnm hA hK hP hD hX hl => by
    have hS : va_S A s.heap s.heap [] := va_S.rf
    have hl : lv_has ls 5 [(0, .ref a), (1, .int (nI x)), (2, .int (nI y)), (3, .int v)] := hl
    refine lv_aload_n hx hb d_J_fill_aIIIIV_0 rfl (lv_at hl 0 rfl) ?_
    refine va_alen (v := nI n) hx hb hK hP 0 0 rfl rfl rfl d_J_fill_aIIIIV_1 ?_
    refine lv_iload_n hx hb d_J_fill_aIIIIV_2 rfl (lv_at hl 1 rfl) ?_
    refine lv_iload_n hx hb d_J_fill_aIIIIV_3 rfl (lv_at hl 2 rfl) ?_
    refine zjv (wr := [(a, .inl (cA, n, .inl f))]) (va_runS (As := [.int (nI n), .int (nI x), .int (nI y)]) (rest := []) ⟨hx, hb, hml, hown, ht⟩ (c_J_rc l D _ n x y h1 h2 hn) (cwS 3 ht (zt_goodS zm_276 zm_277 zm_73 zm_278) rfl rfl rfl (by decide +kernel) ⟨Nat.le_of_ble_eq_true rfl, Nat.le_of_ble_eq_true rfl⟩) (zpre zBlind_t hK hP hD [] [] rfl (by decide) rfl (fun _ _ _ => trivial)) rfl rfl hl.1 rfl (lv_room (Nat.le_of_ble_eq_true rfl)) d_J_fill_aIIIIV_4 ⟨Nat.le_of_ble_eq_true rfl, Nat.le_of_ble_eq_true rfl⟩) hK hP hD hS hA [] [0] rfl rfl (by decide) (by decide) (fun u9 H locs hp2 hP hD hK hS => ?_)
    have hP : va_P D zcl [(a, .inl (cA, n, .inl f))] H := hP
    have hD : va_D A [(a, .inl (cA, n, .inl f))] := hD
    have hK : va_K D zcl [(cA, .int)] s := hK
    refine lv_iload_n hx hb d_J_fill_aIIIIV_7 rfl (lv_at hl 1 rfl) ?_
    refine lv_istore (lv' := [(4, .int (nI x)), (0, .ref a), (1, .int (nI x)), (2, .int (nI y)), (3, .int v)]) hx hb d_J_fill_aIIIIV_8 hl (by decide) rfl (fun ls hl => ?_)
    rw [← zfill_0 f v x] at hP hD
    refine lp_J_fillr_10 hx hb hml hown ht hA a cA n f v x y h2 hn hK (fun H locs ls hP hD hS hl => ?_) (y - x) x H locs ls (by omega) (by omega) hP hD hS hl
    exact zretv hx hb hr hlk hK hP hD hS () [0] [0] rfl (by decide) rfl (trivial) (Nat.le_of_ble_eq_true rfl) (Nat.le_of_ble_eq_true rfl) d_J_fill_aIIIIV_27)
