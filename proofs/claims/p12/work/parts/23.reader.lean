set_option maxRecDepth 100000 in
theorem zm_238 : Jvm.Cond.fieldLink "ZipGuard$BitReader" (16 : Nat) "ZipGuard$BitReader" "at" "I" ∈ zt := zt_m1 (List.mem_of_getElem? (i := 174) rfl)
set_option maxRecDepth 100000 in
theorem zm_239 : Jvm.Cond.fieldLink "ZipGuard$BitReader" (20 : Nat) "ZipGuard$BitReader" "behind" "I" ∈ zt := zt_m1 (List.mem_of_getElem? (i := 175) rfl)
set_option maxRecDepth 100000 in
theorem zm_240 : Jvm.Cond.fieldLink "ZipGuard$BitReader" (23 : Nat) "ZipGuard$BitReader" "usedBits" "I" ∈ zt := zt_m1 (List.mem_of_getElem? (i := 176) rfl)
theorem d_B_begin_0 : decode prog_2_method_2_code 0 = .ok (.aload_n 0, 1) := by decide +kernel
theorem d_B_begin_1 : decode prog_2_method_2_code 1 = .ok (.iload_n 1, 1) := by decide +kernel
theorem d_B_begin_2 : decode prog_2_method_2_code 2 = .ok (.putfield 16, 3) := by decide +kernel
theorem d_B_begin_5 : decode prog_2_method_2_code 5 = .ok (.aload_n 0, 1) := by decide +kernel
theorem d_B_begin_6 : decode prog_2_method_2_code 6 = .ok (.iload_n 1, 1) := by decide +kernel
theorem d_B_begin_7 : decode prog_2_method_2_code 7 = .ok (.iload_n 2, 1) := by decide +kernel
theorem d_B_begin_8 : decode prog_2_method_2_code 8 = .ok (.iadd, 1) := by decide +kernel
theorem d_B_begin_9 : decode prog_2_method_2_code 9 = .ok (.putfield 20, 3) := by decide +kernel
theorem d_B_begin_12 : decode prog_2_method_2_code 12 = .ok (.aload_n 0, 1) := by decide +kernel
theorem d_B_begin_13 : decode prog_2_method_2_code 13 = .ok (.iconst 0, 1) := by decide +kernel
theorem d_B_begin_14 : decode prog_2_method_2_code 14 = .ok (.putfield 23, 3) := by decide +kernel
theorem d_B_begin_17 : decode prog_2_method_2_code 17 = .ok (.return_, 1) := by decide +kernel
theorem d_B_read_0 : decode prog_2_method_3_code 0 = .ok (.iconst 0, 1) := by decide +kernel
theorem d_B_read_1 : decode prog_2_method_3_code 1 = .ok (.istore_n 2, 1) := by decide +kernel
theorem d_B_read_2 : decode prog_2_method_3_code 2 = .ok (.iconst 0, 1) := by decide +kernel
theorem d_B_read_3 : decode prog_2_method_3_code 3 = .ok (.istore_n 3, 1) := by decide +kernel
theorem d_B_read_4 : decode prog_2_method_3_code 4 = .ok (.iload_n 3, 1) := by decide +kernel
theorem d_B_read_5 : decode prog_2_method_3_code 5 = .ok (.iload_n 1, 1) := by decide +kernel
theorem d_B_read_6 : decode prog_2_method_3_code 6 = .ok (.if_icmp .ge 141, 3) := by decide +kernel
theorem d_B_read_9 : decode prog_2_method_3_code 9 = .ok (.aload_n 0, 1) := by decide +kernel
theorem d_B_read_10 : decode prog_2_method_3_code 10 = .ok (.getfield 16, 3) := by decide +kernel
theorem d_B_read_13 : decode prog_2_method_3_code 13 = .ok (.ifCond .lt 26, 3) := by decide +kernel
theorem d_B_read_16 : decode prog_2_method_3_code 16 = .ok (.aload_n 0, 1) := by decide +kernel
theorem d_B_read_17 : decode prog_2_method_3_code 17 = .ok (.getfield 16, 3) := by decide +kernel
theorem d_B_read_20 : decode prog_2_method_3_code 20 = .ok (.aload_n 0, 1) := by decide +kernel
theorem d_B_read_21 : decode prog_2_method_3_code 21 = .ok (.getfield 20, 3) := by decide +kernel
theorem d_B_read_24 : decode prog_2_method_3_code 24 = .ok (.if_icmp .ge 15, 3) := by decide +kernel
theorem d_B_read_27 : decode prog_2_method_3_code 27 = .ok (.aload_n 0, 1) := by decide +kernel
theorem d_B_read_28 : decode prog_2_method_3_code 28 = .ok (.getfield 16, 3) := by decide +kernel
theorem d_B_read_31 : decode prog_2_method_3_code 31 = .ok (.aload_n 0, 1) := by decide +kernel
theorem d_B_read_32 : decode prog_2_method_3_code 32 = .ok (.getfield 13, 3) := by decide +kernel
theorem d_B_read_35 : decode prog_2_method_3_code 35 = .ok (.arraylength, 1) := by decide +kernel
theorem d_B_read_36 : decode prog_2_method_3_code 36 = .ok (.if_icmp .lt 6, 3) := by decide +kernel
theorem d_B_read_39 : decode prog_2_method_3_code 39 = .ok (.bipush (-30), 2) := by decide +kernel
theorem d_B_read_41 : decode prog_2_method_3_code 41 = .ok (.ireturn, 1) := by decide +kernel
theorem d_B_read_42 : decode prog_2_method_3_code 42 = .ok (.iload_n 1, 1) := by decide +kernel
theorem d_B_read_43 : decode prog_2_method_3_code 43 = .ok (.iload_n 3, 1) := by decide +kernel
theorem d_B_read_44 : decode prog_2_method_3_code 44 = .ok (.isub, 1) := by decide +kernel
theorem d_B_read_45 : decode prog_2_method_3_code 45 = .ok (.bipush 8, 2) := by decide +kernel
theorem d_B_read_47 : decode prog_2_method_3_code 47 = .ok (.aload_n 0, 1) := by decide +kernel
theorem d_B_read_48 : decode prog_2_method_3_code 48 = .ok (.getfield 23, 3) := by decide +kernel
theorem d_B_read_51 : decode prog_2_method_3_code 51 = .ok (.isub, 1) := by decide +kernel
theorem d_B_read_52 : decode prog_2_method_3_code 52 = .ok (.if_icmp .ge 9, 3) := by decide +kernel
theorem d_B_read_55 : decode prog_2_method_3_code 55 = .ok (.iload_n 1, 1) := by decide +kernel
theorem d_B_read_56 : decode prog_2_method_3_code 56 = .ok (.iload_n 3, 1) := by decide +kernel
theorem d_B_read_57 : decode prog_2_method_3_code 57 = .ok (.isub, 1) := by decide +kernel
theorem d_B_read_58 : decode prog_2_method_3_code 58 = .ok (.goto 10, 3) := by decide +kernel
theorem d_B_read_61 : decode prog_2_method_3_code 61 = .ok (.bipush 8, 2) := by decide +kernel
theorem d_B_read_63 : decode prog_2_method_3_code 63 = .ok (.aload_n 0, 1) := by decide +kernel
theorem d_B_read_64 : decode prog_2_method_3_code 64 = .ok (.getfield 23, 3) := by decide +kernel
theorem d_B_read_67 : decode prog_2_method_3_code 67 = .ok (.isub, 1) := by decide +kernel
theorem d_B_read_68 : decode prog_2_method_3_code 68 = .ok (.istore 4, 2) := by decide +kernel
theorem d_B_read_70 : decode prog_2_method_3_code 70 = .ok (.aload_n 0, 1) := by decide +kernel
theorem d_B_read_71 : decode prog_2_method_3_code 71 = .ok (.getfield 13, 3) := by decide +kernel
theorem d_B_read_74 : decode prog_2_method_3_code 74 = .ok (.aload_n 0, 1) := by decide +kernel
theorem d_B_read_75 : decode prog_2_method_3_code 75 = .ok (.getfield 16, 3) := by decide +kernel
theorem d_B_read_78 : decode prog_2_method_3_code 78 = .ok (.baload, 1) := by decide +kernel
theorem d_B_read_79 : decode prog_2_method_3_code 79 = .ok (.sipush 255, 3) := by decide +kernel
theorem d_B_read_82 : decode prog_2_method_3_code 82 = .ok (.iand, 1) := by decide +kernel
theorem d_B_read_83 : decode prog_2_method_3_code 83 = .ok (.aload_n 0, 1) := by decide +kernel
theorem d_B_read_84 : decode prog_2_method_3_code 84 = .ok (.getfield 23, 3) := by decide +kernel
theorem d_B_read_87 : decode prog_2_method_3_code 87 = .ok (.ishr, 1) := by decide +kernel
theorem d_B_read_88 : decode prog_2_method_3_code 88 = .ok (.iconst 1, 1) := by decide +kernel
theorem d_B_read_89 : decode prog_2_method_3_code 89 = .ok (.iload 4, 2) := by decide +kernel
theorem d_B_read_91 : decode prog_2_method_3_code 91 = .ok (.ishl, 1) := by decide +kernel
theorem d_B_read_92 : decode prog_2_method_3_code 92 = .ok (.iconst 1, 1) := by decide +kernel
theorem d_B_read_93 : decode prog_2_method_3_code 93 = .ok (.isub, 1) := by decide +kernel
theorem d_B_read_94 : decode prog_2_method_3_code 94 = .ok (.iand, 1) := by decide +kernel
theorem d_B_read_95 : decode prog_2_method_3_code 95 = .ok (.istore 5, 2) := by decide +kernel
theorem d_B_read_97 : decode prog_2_method_3_code 97 = .ok (.iload_n 2, 1) := by decide +kernel
theorem d_B_read_98 : decode prog_2_method_3_code 98 = .ok (.iload 5, 2) := by decide +kernel
theorem d_B_read_100 : decode prog_2_method_3_code 100 = .ok (.iload_n 3, 1) := by decide +kernel
theorem d_B_read_101 : decode prog_2_method_3_code 101 = .ok (.ishl, 1) := by decide +kernel
theorem d_B_read_102 : decode prog_2_method_3_code 102 = .ok (.ior, 1) := by decide +kernel
theorem d_B_read_103 : decode prog_2_method_3_code 103 = .ok (.istore_n 2, 1) := by decide +kernel
theorem d_B_read_104 : decode prog_2_method_3_code 104 = .ok (.iload_n 3, 1) := by decide +kernel
theorem d_B_read_105 : decode prog_2_method_3_code 105 = .ok (.iload 4, 2) := by decide +kernel
theorem d_B_read_107 : decode prog_2_method_3_code 107 = .ok (.iadd, 1) := by decide +kernel
theorem d_B_read_108 : decode prog_2_method_3_code 108 = .ok (.istore_n 3, 1) := by decide +kernel
theorem d_B_read_109 : decode prog_2_method_3_code 109 = .ok (.aload_n 0, 1) := by decide +kernel
theorem d_B_read_110 : decode prog_2_method_3_code 110 = .ok (.dup, 1) := by decide +kernel
theorem d_B_read_111 : decode prog_2_method_3_code 111 = .ok (.getfield 23, 3) := by decide +kernel
theorem d_B_read_114 : decode prog_2_method_3_code 114 = .ok (.iload 4, 2) := by decide +kernel
theorem d_B_read_116 : decode prog_2_method_3_code 116 = .ok (.iadd, 1) := by decide +kernel
theorem d_B_read_117 : decode prog_2_method_3_code 117 = .ok (.putfield 23, 3) := by decide +kernel
theorem d_B_read_120 : decode prog_2_method_3_code 120 = .ok (.aload_n 0, 1) := by decide +kernel
theorem d_B_read_121 : decode prog_2_method_3_code 121 = .ok (.getfield 23, 3) := by decide +kernel
theorem d_B_read_124 : decode prog_2_method_3_code 124 = .ok (.bipush 8, 2) := by decide +kernel
theorem d_B_read_126 : decode prog_2_method_3_code 126 = .ok (.if_icmp .ne 18, 3) := by decide +kernel
theorem d_B_read_129 : decode prog_2_method_3_code 129 = .ok (.aload_n 0, 1) := by decide +kernel
theorem d_B_read_130 : decode prog_2_method_3_code 130 = .ok (.iconst 0, 1) := by decide +kernel
theorem d_B_read_131 : decode prog_2_method_3_code 131 = .ok (.putfield 23, 3) := by decide +kernel
theorem d_B_read_134 : decode prog_2_method_3_code 134 = .ok (.aload_n 0, 1) := by decide +kernel
theorem d_B_read_135 : decode prog_2_method_3_code 135 = .ok (.dup, 1) := by decide +kernel
theorem d_B_read_136 : decode prog_2_method_3_code 136 = .ok (.getfield 16, 3) := by decide +kernel
theorem d_B_read_139 : decode prog_2_method_3_code 139 = .ok (.iconst 1, 1) := by decide +kernel
theorem d_B_read_140 : decode prog_2_method_3_code 140 = .ok (.iadd, 1) := by decide +kernel
theorem d_B_read_141 : decode prog_2_method_3_code 141 = .ok (.putfield 16, 3) := by decide +kernel
theorem d_B_read_144 : decode prog_2_method_3_code 144 = .ok (.goto (-140), 3) := by decide +kernel
theorem d_B_read_147 : decode prog_2_method_3_code 147 = .ok (.iload_n 2, 1) := by decide +kernel
theorem d_B_read_148 : decode prog_2_method_3_code 148 = .ok (.ireturn, 1) := by decide +kernel
theorem d_B_skipToFullByte_0 : decode prog_2_method_4_code 0 = .ok (.aload_n 0, 1) := by decide +kernel
theorem d_B_skipToFullByte_1 : decode prog_2_method_4_code 1 = .ok (.getfield 23, 3) := by decide +kernel
theorem d_B_skipToFullByte_4 : decode prog_2_method_4_code 4 = .ok (.ifCond .le 18, 3) := by decide +kernel
theorem d_B_skipToFullByte_7 : decode prog_2_method_4_code 7 = .ok (.aload_n 0, 1) := by decide +kernel
theorem d_B_skipToFullByte_8 : decode prog_2_method_4_code 8 = .ok (.iconst 0, 1) := by decide +kernel
theorem d_B_skipToFullByte_9 : decode prog_2_method_4_code 9 = .ok (.putfield 23, 3) := by decide +kernel
theorem d_B_skipToFullByte_12 : decode prog_2_method_4_code 12 = .ok (.aload_n 0, 1) := by decide +kernel
theorem d_B_skipToFullByte_13 : decode prog_2_method_4_code 13 = .ok (.dup, 1) := by decide +kernel
theorem d_B_skipToFullByte_14 : decode prog_2_method_4_code 14 = .ok (.getfield 16, 3) := by decide +kernel
theorem d_B_skipToFullByte_17 : decode prog_2_method_4_code 17 = .ok (.iconst 1, 1) := by decide +kernel
theorem d_B_skipToFullByte_18 : decode prog_2_method_4_code 18 = .ok (.iadd, 1) := by decide +kernel
theorem d_B_skipToFullByte_19 : decode prog_2_method_4_code 19 = .ok (.putfield 16, 3) := by decide +kernel
theorem d_B_skipToFullByte_22 : decode prog_2_method_4_code 22 = .ok (.return_, 1) := by decide +kernel
set_option maxHeartbeats 4000000 in
set_option maxRecDepth 100000 in
theorem c_B_beg (l : Launch) (D : va_G) (sz : Nat) (qr : Nat) (qb : Nat) (a0 : Int32) (b0 : Int32) (u0 : Int32) (x : Int32) (y : Int32)  : Met l y_B_begin (Cond.code y_B_begin prog_2_method_2_code 3 (Option.none : Option Jvm.ClassFile.FieldType) :: zt) { frames := 0, cells := 0, slots := 0, locals := 0 } (zPc [.ref qr, .int x, .int y] D [(qr, .inr (5, [.ref qb, .int a0, .int b0, .int u0]))] [] sz (fun _ => True)) (va_Qv (fun (_ : Unit) => True) (fun u9 t => zB D ((fun (_ : Unit) => [(qr, .inr (5, [.ref qb, .int x, .int (x + y), .int 0]))]) u9) ((fun (_ : Unit) => []) u9) (va_A [(qr, .inr (5, [.ref qb, .int a0, .int b0, .int u0]))] sz) t) (va_A [(qr, .inr (5, [.ref qb, .int a0, .int b0, .int u0]))] sz)) 0 0 (va_A [(qr, .inr (5, [.ref qb, .int a0, .int b0, .int u0]))] sz) :=
  zMet (Qf := fun A => va_Qv (fun (_ : Unit) => True) (fun u9 t => zB D ((fun (_ : Unit) => [(qr, .inr (5, [.ref qb, .int x, .int (x + y), .int 0]))]) u9) ((fun (_ : Unit) => []) u9) A t) A) (by decide) (Nat.le_of_ble_eq_true rfl) (fun p e s m below meth c A ls hx hb hr hml hown ht hlk hnm hA hK hP hD hX hl => by
    have hS : va_S A s.heap s.heap [] := va_S.rf
    have hl : lv_has ls 3 [(0, .ref qr), (1, .int x), (2, .int y)] := hl
    refine lv_aload_n hx hb d_B_begin_0 rfl (lv_at hl 0 rfl) ?_
    refine lv_iload_n hx hb d_B_begin_1 rfl (lv_at hl 1 rfl) ?_
    refine va_put (ci := 5) (v := .int x) (ty := .int) (C := "ZipGuard$BitReader") (T := F_B) (N := 4) hx hb ht zi_B ty_B tk_B nm_B hown hK hP hD hS 0 rfl rfl 1 (by decide) (ht _ zm_238) (fun _ h9 => h9) rfl (by decide +kernel) rfl rfl (Nat.le_of_ble_eq_true rfl) d_B_begin_2 (fun H locs hP hD hS => ?_)
    have hP : va_P D zcl [(qr, .inr (5, [.ref qb, .int x, .int b0, .int u0]))] H := hP
    have hD : va_D A [(qr, .inr (5, [.ref qb, .int x, .int b0, .int u0]))] := hD
    refine lv_aload_n hx hb d_B_begin_5 rfl (lv_at hl 0 rfl) ?_
    refine lv_iload_n hx hb d_B_begin_6 rfl (lv_at hl 1 rfl) ?_
    refine lv_iload_n hx hb d_B_begin_7 rfl (lv_at hl 2 rfl) ?_
    refine lv_iadd hx hb d_B_begin_8 ?_
    refine va_put (ci := 5) (v := .int (x + y)) (ty := .int) (C := "ZipGuard$BitReader") (T := F_B) (N := 4) hx hb ht zi_B ty_B tk_B nm_B hown hK hP hD hS 0 rfl rfl 2 (by decide) (ht _ zm_239) (fun _ h9 => h9) rfl (by decide +kernel) rfl rfl (Nat.le_of_ble_eq_true rfl) d_B_begin_9 (fun H locs hP hD hS => ?_)
    have hP : va_P D zcl [(qr, .inr (5, [.ref qb, .int x, .int (x + y), .int u0]))] H := hP
    have hD : va_D A [(qr, .inr (5, [.ref qb, .int x, .int (x + y), .int u0]))] := hD
    refine lv_aload_n hx hb d_B_begin_12 rfl (lv_at hl 0 rfl) ?_
    refine lv_iconst (v := 0) hx hb d_B_begin_13 (by decide) ?_
    refine va_put (ci := 5) (v := .int 0) (ty := .int) (C := "ZipGuard$BitReader") (T := F_B) (N := 4) hx hb ht zi_B ty_B tk_B nm_B hown hK hP hD hS 0 rfl rfl 3 (by decide) (ht _ zm_240) (fun _ h9 => h9) rfl (by decide +kernel) rfl rfl (Nat.le_of_ble_eq_true rfl) d_B_begin_14 (fun H locs hP hD hS => ?_)
    have hP : va_P D zcl [(qr, .inr (5, [.ref qb, .int x, .int (x + y), .int 0]))] H := hP
    have hD : va_D A [(qr, .inr (5, [.ref qb, .int x, .int (x + y), .int 0]))] := hD
    exact zretv hx hb hr hlk hK hP hD hS () [0] [] rfl (by decide) rfl (trivial) (Nat.le_of_ble_eq_true rfl) (Nat.le_of_ble_eq_true rfl) d_B_begin_17)
set_option maxHeartbeats 4000000 in
set_option maxRecDepth 100000 in
theorem lp_B_read {p : Program} {l : Launch} {e : Env} {R : Room} {s : State} {m : MethodId} {args : Array Value} {below : List Frame} {meth : Method} {c : Code} {cells slots : Nat} {Q : State → Prop} {A : Nat → Prop} {D : va_G} (hx : p.tables.exec = Jvm.exec) (hb : c.code = prog_2_method_3_code) (hml : c.maxLocals = 6) (hown : s.vm.findClass "ZipGuard$BitReader" = some m.cls) (ht : ∀ w ∈ zt, w.before args s = true) (hA : ∀ q, s.heap.size ≤ q → A q) (qr : Nat) (qb : Nat) (cB : ClassId) (f : Nat → Int32) (bh : Nat) (n : Nat) (p0 : Nat) (hbh : bh ≤ 20000) (hn : n ≤ 16) (hK : va_K D zcl [(cB, .byte)] s) (kx : ∀ (a u : Nat) (H : Heap) (locs : List Loc) (ls : Array Slot), 8 * bh < p0 + n → u ≤ 7 → a ≤ 20000 → va_P D zcl [(qr, .inr (5, [.ref qb, .int (nI a), .int (nI bh), .int (nI u)])), (qb, .inl (cB, 20000, .inl f))] H → va_D A [(qr, .inr (5, [.ref qb, .int (nI a), .int (nI bh), .int (nI u)])), (qb, .inl (cB, 20000, .inl f))] → va_S A s.heap H locs → lv_has ls 6 [(0, .ref qr), (1, .int (nI n))] → W p l e R s m args below meth c H locs cells slots Q (F0 m 39 ls []))
    (kk : ∀ (a : Nat) (u : Nat) (H : Heap) (locs : List Loc) (ls : Array Slot), p0 + n = 8 * a + u → u ≤ 7 → a ≤ 20000 → (n = 0 ∨ p0 + n ≤ 8 * bh) → va_P D zcl [(qr, .inr (5, [.ref qb, .int (nI a), .int (nI bh), .int (nI u)])), (qb, .inl (cB, 20000, .inl f))] H → va_D A [(qr, .inr (5, [.ref qb, .int (nI a), .int (nI bh), .int (nI u)])), (qb, .inl (cB, 20000, .inl f))] → va_S A s.heap H locs → lv_has ls 6 [(3, .int (nI n)), (2, .int (nI (zbits f p0 n))), (0, .ref qr), (1, .int (nI n))] → W p l e R s m args below meth c H locs cells slots Q (F0 m 147 ls [])) :
    ∀ (j : Nat) (g : Nat) (a : Nat) (u : Nat) (H : Heap) (locs : List Loc) (ls : Array Slot), n ≤ g + j → g ≤ n → p0 + g = 8 * a + u → u ≤ 7 → a ≤ 20000 → (g = 0 ∨ p0 + g ≤ 8 * bh) → va_P D zcl [(qr, .inr (5, [.ref qb, .int (nI a), .int (nI bh), .int (nI u)])), (qb, .inl (cB, 20000, .inl f))] H → va_D A [(qr, .inr (5, [.ref qb, .int (nI a), .int (nI bh), .int (nI u)])), (qb, .inl (cB, 20000, .inl f))] → va_S A s.heap H locs → lv_has ls 6 [(3, .int (nI g)), (2, .int (nI (zbits f p0 g))), (0, .ref qr), (1, .int (nI n))] → W p l e R s m args below meth c H locs cells slots Q (F0 m 4 ls []) := by
  intro j
  induction j with
  | zero =>
    intro g a u H locs ls hk hg hp hu ha hle hP hD hS hl
    have hgn : g = n := by omega
    subst hgn
    refine lv_iload_n hx hb d_B_read_4 rfl (lv_at hl 0 rfl) ?_
    refine lv_iload_n hx hb d_B_read_5 rfl (lv_at hl 3 rfl) ?_
    refine lv_icmp_ge (tgt := 147) hx hb d_B_read_6 (by decide) (fun _ => ?_) (fun h => absurd (nI_le (by omega) (by omega)) h)
    exact kk a u H locs ls hp hu ha hle hP hD hS hl
  | succ j ih =>
    intro g a u H locs ls hk hg hp hu ha hle hP hD hS hl
    by_cases hgn : n ≤ g
    · skip
      have hgn : g = n := by omega
      subst hgn
      refine lv_iload_n hx hb d_B_read_4 rfl (lv_at hl 0 rfl) ?_
      refine lv_iload_n hx hb d_B_read_5 rfl (lv_at hl 3 rfl) ?_
      refine lv_icmp_ge (tgt := 147) hx hb d_B_read_6 (by decide) (fun _ => ?_) (fun h => absurd (nI_le (by omega) (by omega)) h)
      exact kk a u H locs ls hp hu ha hle hP hD hS hl
    · skip
      refine lv_iload_n hx hb d_B_read_4 rfl (lv_at hl 0 rfl) ?_
      refine lv_iload_n hx hb d_B_read_5 rfl (lv_at hl 3 rfl) ?_
      refine lv_icmp_ge (tgt := 147) hx hb d_B_read_6 (by decide) (fun h => absurd h (nI_ge (by omega) (by omega))) (fun _ => ?_)
      refine lv_aload_n hx hb d_B_read_9 rfl (lv_at hl 2 rfl) ?_
      refine va_get (ci := 5) (C := "ZipGuard$BitReader") (T := F_B) (N := 4) hx hb ht zi_B hown hK hP 0 rfl rfl 1 (by decide) (ht _ zm_238) (fun _ h9 => h9) rfl d_B_read_10 ?_
      refine lv_if_lt (tgt := 39) hx hb d_B_read_13 (by decide) (fun h => absurd h (nI_pos (by omega))) (fun _ => ?_)
      refine lv_aload_n hx hb d_B_read_16 rfl (lv_at hl 2 rfl) ?_
      refine va_get (ci := 5) (C := "ZipGuard$BitReader") (T := F_B) (N := 4) hx hb ht zi_B hown hK hP 0 rfl rfl 1 (by decide) (ht _ zm_238) (fun _ h9 => h9) rfl d_B_read_17 ?_
      refine lv_aload_n hx hb d_B_read_20 rfl (lv_at hl 2 rfl) ?_
      refine va_get (ci := 5) (C := "ZipGuard$BitReader") (T := F_B) (N := 4) hx hb ht zi_B hown hK hP 0 rfl rfl 2 (by decide) (ht _ zm_239) (fun _ h9 => h9) rfl d_B_read_21 ?_
      by_cases hab : bh ≤ a
      · skip
        refine lv_icmp_ge (tgt := 39) hx hb d_B_read_24 (by decide) (fun _ => ?_) (fun h => absurd (nI_le hab (by omega)) h)
        exact kx a u H locs ls (by omega) hu ha hP hD hS (lv_sub hl [2, 3] rfl)
      · skip
        refine lv_icmp_ge (tgt := 39) hx hb d_B_read_24 (by decide) (fun h => absurd h (nI_ge (by omega) (by omega))) (fun _ => ?_)
        refine lv_aload_n hx hb d_B_read_27 rfl (lv_at hl 2 rfl) ?_
        refine va_get (ci := 5) (C := "ZipGuard$BitReader") (T := F_B) (N := 4) hx hb ht zi_B hown hK hP 0 rfl rfl 1 (by decide) (ht _ zm_238) (fun _ h9 => h9) rfl d_B_read_28 ?_
        refine lv_aload_n hx hb d_B_read_31 rfl (lv_at hl 2 rfl) ?_
        refine va_get (ci := 5) (C := "ZipGuard$BitReader") (T := F_B) (N := 4) hx hb ht zi_B hown hK hP 0 rfl rfl 0 (by decide) (ht _ zm_237) (fun _ h9 => h9) rfl d_B_read_32 ?_
        refine va_alen (v := 20000) hx hb hK hP 1 0 rfl rfl rfl d_B_read_35 ?_
        refine lv_icmp_lt (tgt := 42) hx hb d_B_read_36 (by decide) (fun _ => ?_) (fun h => absurd (show nI a < nI 20000 from nI_lt (by omega) (by decide)) h)
        refine lv_iload_n hx hb d_B_read_42 rfl (lv_at hl 3 rfl) ?_
        refine lv_iload_n hx hb d_B_read_43 rfl (lv_at hl 0 rfl) ?_
        refine lv_isub hx hb d_B_read_44 ?_
        refine lv_topi (fun x8 e_x8 => ?_)
        have e_x8 : x8 = nI (n - g) := by rw [e_x8]; exact pk_sub (by omega)
        subst e_x8
        refine lv_bipush (v := 8) hx hb d_B_read_45 (by decide) ?_
        refine lv_aload_n hx hb d_B_read_47 rfl (lv_at hl 2 rfl) ?_
        refine va_get (ci := 5) (C := "ZipGuard$BitReader") (T := F_B) (N := 4) hx hb ht zi_B hown hK hP 0 rfl rfl 3 (by decide) (ht _ zm_240) (fun _ h9 => h9) rfl d_B_read_48 ?_
        refine lv_isub hx hb d_B_read_51 ?_
        refine lv_topi (fun x9 e_x9 => ?_)
        have e_x9 : x9 = nI (8 - u) := by rw [e_x9]; exact (show nI 8 - nI u = nI (8 - u) from pk_sub (by omega))
        subst e_x9
        by_cases hq : 8 - u ≤ n - g
        · skip
          refine lv_icmp_ge (tgt := 61) hx hb d_B_read_52 (by decide) (fun _ => ?_) (fun h => absurd (nI_le hq (by omega)) h)
          refine lv_bipush (v := 8) hx hb d_B_read_61 (by decide) ?_
          refine lv_aload_n hx hb d_B_read_63 rfl (lv_at hl 2 rfl) ?_
          refine va_get (ci := 5) (C := "ZipGuard$BitReader") (T := F_B) (N := 4) hx hb ht zi_B hown hK hP 0 rfl rfl 3 (by decide) (ht _ zm_240) (fun _ h9 => h9) rfl d_B_read_64 ?_
          refine lv_isub hx hb d_B_read_67 ?_
          refine lv_topi (fun x11 e_x11 => ?_)
          have e_x11 : x11 = nI (8 - u) := by rw [e_x11]; exact (show nI 8 - nI u = nI (8 - u) from pk_sub (by omega))
          subst e_x11
          obtain ⟨q, hqe⟩ : ∃ q, q = 8 - u := ⟨_, rfl⟩
          rw [← hqe]
          have hq8 : u + q ≤ 8 := by omega
          have hq1 : 1 ≤ q := by omega
          have hqn : g + q ≤ n := by omega
          have hpw := zpow_le (a := q) (b := 8) (by omega)
          refine lv_istore (lv' := [(4, .int (nI q)), (3, .int (nI g)), (2, .int (nI (zbits f p0 g))), (0, .ref qr), (1, .int (nI n))]) hx hb d_B_read_68 hl (by decide) rfl (fun ls hl => ?_)
          refine lv_aload_n hx hb d_B_read_70 rfl (lv_at hl 3 rfl) ?_
          refine va_get (ci := 5) (C := "ZipGuard$BitReader") (T := F_B) (N := 4) hx hb ht zi_B hown hK hP 0 rfl rfl 0 (by decide) (ht _ zm_237) (fun _ h9 => h9) rfl d_B_read_71 ?_
          refine lv_aload_n hx hb d_B_read_74 rfl (lv_at hl 3 rfl) ?_
          refine va_get (ci := 5) (C := "ZipGuard$BitReader") (T := F_B) (N := 4) hx hb ht zi_B hown hK hP 0 rfl rfl 1 (by decide) (ht _ zm_238) (fun _ h9 => h9) rfl d_B_read_75 ?_
          refine va_bald hx hb hK hP 1 0 rfl rfl (vp_in_nI (by omega) (by omega)) d_B_read_78 ?_
          refine lv_sipush (v := 255) hx hb d_B_read_79 (by decide) ?_
          refine lv_iand hx hb d_B_read_82 ?_
          refine lv_topi (fun x12 e_x12 => ?_)
          have e_x12 : x12 = nI (zb f a) := by rw [e_x12, nI_clamp (by omega)]; exact zb_eq f a
          subst e_x12
          have hzb := zb_lt f a
          refine lv_aload_n hx hb d_B_read_83 rfl (lv_at hl 3 rfl) ?_
          refine va_get (ci := 5) (C := "ZipGuard$BitReader") (T := F_B) (N := 4) hx hb ht zi_B hown hK hP 0 rfl rfl 3 (by decide) (ht _ zm_240) (fun _ h9 => h9) rfl d_B_read_84 ?_
          refine lv_ishr hx hb d_B_read_87 ?_
          refine lv_topi (fun x13 e_x13 => ?_)
          have e_x13 : x13 = nI (zb f a / 2 ^ u) := by rw [e_x13]; exact zshr (by omega) (by omega)
          subst e_x13
          have hzd : zb f a / 2 ^ u ≤ zb f a := Nat.div_le_self _ _
          refine lv_iconst (v := 1) hx hb d_B_read_88 (by decide) ?_
          refine lv_iload hx hb d_B_read_89 (lv_at hl 0 rfl) ?_
          refine lv_ishl hx hb d_B_read_91 ?_
          refine lv_topi (fun x14 e_x14 => ?_)
          have e_x14 : x14 = nI (2 ^ q) := by rw [e_x14]; exact (show nI 1 <<< (nI q &&& 31) = nI (2 ^ q) from by rw [zshl (by omega) (by omega), Nat.one_mul])
          subst e_x14
          have hpp : 1 ≤ 2 ^ q := Nat.two_pow_pos q
          refine lv_iconst (v := 1) hx hb d_B_read_92 (by decide) ?_
          refine lv_isub hx hb d_B_read_93 ?_
          refine lv_topi (fun x15 e_x15 => ?_)
          have e_x15 : x15 = nI (2 ^ q - 1) := by rw [e_x15]; exact (show nI (2 ^ q) - nI 1 = nI (2 ^ q - 1) from pk_sub hpp)
          subst e_x15
          refine lv_iand hx hb d_B_read_94 ?_
          refine lv_topi (fun x16 e_x16 => ?_)
          have e_x16 : x16 = nI (zb f a / 2 ^ u % 2 ^ q) := by rw [e_x16]; exact zand (by omega) (by omega)
          subst e_x16
          refine lv_istore (lv' := [(5, .int (nI (zb f a / 2 ^ u % 2 ^ q))), (4, .int (nI q)), (3, .int (nI g)), (2, .int (nI (zbits f p0 g))), (0, .ref qr), (1, .int (nI n))]) hx hb d_B_read_95 hl (by decide) rfl (fun ls hl => ?_)
          refine lv_iload_n hx hb d_B_read_97 rfl (lv_at hl 3 rfl) ?_
          refine lv_iload hx hb d_B_read_98 (lv_at hl 0 rfl) ?_
          refine lv_iload_n hx hb d_B_read_100 rfl (lv_at hl 2 rfl) ?_
          refine lv_ishl hx hb d_B_read_101 ?_
          refine lv_ior hx hb d_B_read_102 ?_
          refine lv_topi (fun x17 e_x17 => ?_)
          have e_x17 : x17 = nI (zbits f p0 (g + q)) := by rw [e_x17]; exact zstep f hp hq8 (by omega)
          subst e_x17
          refine lv_istore_n (lv' := [(2, .int (nI (zbits f p0 (g + q)))), (5, .int (nI (zb f a / 2 ^ u % 2 ^ q))), (4, .int (nI q)), (3, .int (nI g)), (0, .ref qr), (1, .int (nI n))]) hx hb d_B_read_103 rfl hl (by decide) rfl (fun ls hl => ?_)
          refine lv_iload_n hx hb d_B_read_104 rfl (lv_at hl 3 rfl) ?_
          refine lv_iload hx hb d_B_read_105 (lv_at hl 2 rfl) ?_
          refine lv_iadd hx hb d_B_read_107 ?_
          refine lv_topi (fun x18 e_x18 => ?_)
          have e_x18 : x18 = nI (g + q) := by rw [e_x18]; exact nI_add g q
          subst e_x18
          refine lv_istore_n (lv' := [(3, .int (nI (g + q))), (2, .int (nI (zbits f p0 (g + q)))), (5, .int (nI (zb f a / 2 ^ u % 2 ^ q))), (4, .int (nI q)), (0, .ref qr), (1, .int (nI n))]) hx hb d_B_read_108 rfl hl (by decide) rfl (fun ls hl => ?_)
          refine lv_aload_n hx hb d_B_read_109 rfl (lv_at hl 4 rfl) ?_
          refine lv_dup hx hb d_B_read_110 rfl ?_
          refine va_get (ci := 5) (C := "ZipGuard$BitReader") (T := F_B) (N := 4) hx hb ht zi_B hown hK hP 0 rfl rfl 3 (by decide) (ht _ zm_240) (fun _ h9 => h9) rfl d_B_read_111 ?_
          refine lv_iload hx hb d_B_read_114 (lv_at hl 3 rfl) ?_
          refine lv_iadd hx hb d_B_read_116 ?_
          refine lv_topi (fun x19 e_x19 => ?_)
          have e_x19 : x19 = nI (u + q) := by rw [e_x19]; exact nI_add u q
          subst e_x19
          refine va_put (ci := 5) (v := .int (nI (u + q))) (ty := .int) (C := "ZipGuard$BitReader") (T := F_B) (N := 4) hx hb ht zi_B ty_B tk_B nm_B hown hK hP hD hS 0 rfl rfl 3 (by decide) (ht _ zm_240) (fun _ h9 => h9) rfl (by decide +kernel) rfl rfl (Nat.le_of_ble_eq_true rfl) d_B_read_117 (fun H locs hP hD hS => ?_)
          have hP : va_P D zcl [(qr, .inr (5, [.ref qb, .int (nI a), .int (nI bh), .int (nI (u + q))])), (qb, .inl (cB, 20000, .inl f))] H := hP
          have hD : va_D A [(qr, .inr (5, [.ref qb, .int (nI a), .int (nI bh), .int (nI (u + q))])), (qb, .inl (cB, 20000, .inl f))] := hD
          refine lv_aload_n hx hb d_B_read_120 rfl (lv_at hl 4 rfl) ?_
          refine va_get (ci := 5) (C := "ZipGuard$BitReader") (T := F_B) (N := 4) hx hb ht zi_B hown hK hP 0 rfl rfl 3 (by decide) (ht _ zm_240) (fun _ h9 => h9) rfl d_B_read_121 ?_
          refine lv_bipush (v := 8) hx hb d_B_read_124 (by decide) ?_
          by_cases hu8 : u + q = 8
          · skip
            refine lv_icmp_ne (tgt := 144) hx hb d_B_read_126 (by decide) (fun h => absurd (show nI (u + q) = nI 8 from by rw [hu8]) h) (fun _ => ?_)
            refine lv_aload_n hx hb d_B_read_129 rfl (lv_at hl 4 rfl) ?_
            refine lv_iconst (v := 0) hx hb d_B_read_130 (by decide) ?_
            refine va_put (ci := 5) (v := .int 0) (ty := .int) (C := "ZipGuard$BitReader") (T := F_B) (N := 4) hx hb ht zi_B ty_B tk_B nm_B hown hK hP hD hS 0 rfl rfl 3 (by decide) (ht _ zm_240) (fun _ h9 => h9) rfl (by decide +kernel) rfl rfl (Nat.le_of_ble_eq_true rfl) d_B_read_131 (fun H locs hP hD hS => ?_)
            have hP : va_P D zcl [(qr, .inr (5, [.ref qb, .int (nI a), .int (nI bh), .int 0])), (qb, .inl (cB, 20000, .inl f))] H := hP
            have hD : va_D A [(qr, .inr (5, [.ref qb, .int (nI a), .int (nI bh), .int 0])), (qb, .inl (cB, 20000, .inl f))] := hD
            refine lv_aload_n hx hb d_B_read_134 rfl (lv_at hl 4 rfl) ?_
            refine lv_dup hx hb d_B_read_135 rfl ?_
            refine va_get (ci := 5) (C := "ZipGuard$BitReader") (T := F_B) (N := 4) hx hb ht zi_B hown hK hP 0 rfl rfl 1 (by decide) (ht _ zm_238) (fun _ h9 => h9) rfl d_B_read_136 ?_
            refine lv_iconst (v := 1) hx hb d_B_read_139 (by decide) ?_
            refine lv_iadd hx hb d_B_read_140 ?_
            refine lv_topi (fun x21 e_x21 => ?_)
            have e_x21 : x21 = nI (a + 1) := by rw [e_x21]; exact nI_1 a
            subst e_x21
            refine va_put (ci := 5) (v := .int (nI (a + 1))) (ty := .int) (C := "ZipGuard$BitReader") (T := F_B) (N := 4) hx hb ht zi_B ty_B tk_B nm_B hown hK hP hD hS 0 rfl rfl 1 (by decide) (ht _ zm_238) (fun _ h9 => h9) rfl (by decide +kernel) rfl rfl (Nat.le_of_ble_eq_true rfl) d_B_read_141 (fun H locs hP hD hS => ?_)
            have hP : va_P D zcl [(qr, .inr (5, [.ref qb, .int (nI (a + 1)), .int (nI bh), .int 0])), (qb, .inl (cB, 20000, .inl f))] H := hP
            have hD : va_D A [(qr, .inr (5, [.ref qb, .int (nI (a + 1)), .int (nI bh), .int 0])), (qb, .inl (cB, 20000, .inl f))] := hD
            refine lv_goto (tgt := 4) hx hb d_B_read_144 (by decide) ?_
            exact ih (g + q) (a + 1) 0 H locs ls (by omega) (by omega) (by omega) (by omega) (by omega) (Or.inr (by omega)) hP hD hS (lv_sub hl [0, 1, 4, 5] rfl)
          · skip
            refine lv_icmp_ne (tgt := 144) hx hb d_B_read_126 (by decide) (fun _ => ?_) (fun h => absurd h (show ¬ nI (u + q) = nI 8 from fun h => hu8 ((nI_eq (by omega) (by omega)).mp h)))
            refine lv_goto (tgt := 4) hx hb d_B_read_144 (by decide) ?_
            exact ih (g + q) a (u + q) H locs ls (by omega) (by omega) (by omega) (by omega) ha (Or.inr (by omega)) hP hD hS (lv_sub hl [0, 1, 4, 5] rfl)
        · skip
          refine lv_icmp_ge (tgt := 61) hx hb d_B_read_52 (by decide) (fun h => absurd h (nI_ge (by omega) (by omega))) (fun _ => ?_)
          refine lv_iload_n hx hb d_B_read_55 rfl (lv_at hl 3 rfl) ?_
          refine lv_iload_n hx hb d_B_read_56 rfl (lv_at hl 0 rfl) ?_
          refine lv_isub hx hb d_B_read_57 ?_
          refine lv_topi (fun x24 e_x24 => ?_)
          have e_x24 : x24 = nI (n - g) := by rw [e_x24]; exact pk_sub (by omega)
          subst e_x24
          refine lv_goto (tgt := 68) hx hb d_B_read_58 (by decide) ?_
          obtain ⟨q, hqe⟩ : ∃ q, q = n - g := ⟨_, rfl⟩
          rw [← hqe]
          have hq8 : u + q ≤ 8 := by omega
          have hq1 : 1 ≤ q := by omega
          have hqn : g + q ≤ n := by omega
          have hpw := zpow_le (a := q) (b := 8) (by omega)
          refine lv_istore (lv' := [(4, .int (nI q)), (3, .int (nI g)), (2, .int (nI (zbits f p0 g))), (0, .ref qr), (1, .int (nI n))]) hx hb d_B_read_68 hl (by decide) rfl (fun ls hl => ?_)
          refine lv_aload_n hx hb d_B_read_70 rfl (lv_at hl 3 rfl) ?_
          refine va_get (ci := 5) (C := "ZipGuard$BitReader") (T := F_B) (N := 4) hx hb ht zi_B hown hK hP 0 rfl rfl 0 (by decide) (ht _ zm_237) (fun _ h9 => h9) rfl d_B_read_71 ?_
          refine lv_aload_n hx hb d_B_read_74 rfl (lv_at hl 3 rfl) ?_
          refine va_get (ci := 5) (C := "ZipGuard$BitReader") (T := F_B) (N := 4) hx hb ht zi_B hown hK hP 0 rfl rfl 1 (by decide) (ht _ zm_238) (fun _ h9 => h9) rfl d_B_read_75 ?_
          refine va_bald hx hb hK hP 1 0 rfl rfl (vp_in_nI (by omega) (by omega)) d_B_read_78 ?_
          refine lv_sipush (v := 255) hx hb d_B_read_79 (by decide) ?_
          refine lv_iand hx hb d_B_read_82 ?_
          refine lv_topi (fun x25 e_x25 => ?_)
          have e_x25 : x25 = nI (zb f a) := by rw [e_x25, nI_clamp (by omega)]; exact zb_eq f a
          subst e_x25
          have hzb := zb_lt f a
          refine lv_aload_n hx hb d_B_read_83 rfl (lv_at hl 3 rfl) ?_
          refine va_get (ci := 5) (C := "ZipGuard$BitReader") (T := F_B) (N := 4) hx hb ht zi_B hown hK hP 0 rfl rfl 3 (by decide) (ht _ zm_240) (fun _ h9 => h9) rfl d_B_read_84 ?_
          refine lv_ishr hx hb d_B_read_87 ?_
          refine lv_topi (fun x26 e_x26 => ?_)
          have e_x26 : x26 = nI (zb f a / 2 ^ u) := by rw [e_x26]; exact zshr (by omega) (by omega)
          subst e_x26
          have hzd : zb f a / 2 ^ u ≤ zb f a := Nat.div_le_self _ _
          refine lv_iconst (v := 1) hx hb d_B_read_88 (by decide) ?_
          refine lv_iload hx hb d_B_read_89 (lv_at hl 0 rfl) ?_
          refine lv_ishl hx hb d_B_read_91 ?_
          refine lv_topi (fun x27 e_x27 => ?_)
          have e_x27 : x27 = nI (2 ^ q) := by rw [e_x27]; exact (show nI 1 <<< (nI q &&& 31) = nI (2 ^ q) from by rw [zshl (by omega) (by omega), Nat.one_mul])
          subst e_x27
          have hpp : 1 ≤ 2 ^ q := Nat.two_pow_pos q
          refine lv_iconst (v := 1) hx hb d_B_read_92 (by decide) ?_
          refine lv_isub hx hb d_B_read_93 ?_
          refine lv_topi (fun x28 e_x28 => ?_)
          have e_x28 : x28 = nI (2 ^ q - 1) := by rw [e_x28]; exact (show nI (2 ^ q) - nI 1 = nI (2 ^ q - 1) from pk_sub hpp)
          subst e_x28
          refine lv_iand hx hb d_B_read_94 ?_
          refine lv_topi (fun x29 e_x29 => ?_)
          have e_x29 : x29 = nI (zb f a / 2 ^ u % 2 ^ q) := by rw [e_x29]; exact zand (by omega) (by omega)
          subst e_x29
          refine lv_istore (lv' := [(5, .int (nI (zb f a / 2 ^ u % 2 ^ q))), (4, .int (nI q)), (3, .int (nI g)), (2, .int (nI (zbits f p0 g))), (0, .ref qr), (1, .int (nI n))]) hx hb d_B_read_95 hl (by decide) rfl (fun ls hl => ?_)
          refine lv_iload_n hx hb d_B_read_97 rfl (lv_at hl 3 rfl) ?_
          refine lv_iload hx hb d_B_read_98 (lv_at hl 0 rfl) ?_
          refine lv_iload_n hx hb d_B_read_100 rfl (lv_at hl 2 rfl) ?_
          refine lv_ishl hx hb d_B_read_101 ?_
          refine lv_ior hx hb d_B_read_102 ?_
          refine lv_topi (fun x30 e_x30 => ?_)
          have e_x30 : x30 = nI (zbits f p0 (g + q)) := by rw [e_x30]; exact zstep f hp hq8 (by omega)
          subst e_x30
          refine lv_istore_n (lv' := [(2, .int (nI (zbits f p0 (g + q)))), (5, .int (nI (zb f a / 2 ^ u % 2 ^ q))), (4, .int (nI q)), (3, .int (nI g)), (0, .ref qr), (1, .int (nI n))]) hx hb d_B_read_103 rfl hl (by decide) rfl (fun ls hl => ?_)
          refine lv_iload_n hx hb d_B_read_104 rfl (lv_at hl 3 rfl) ?_
          refine lv_iload hx hb d_B_read_105 (lv_at hl 2 rfl) ?_
          refine lv_iadd hx hb d_B_read_107 ?_
          refine lv_topi (fun x31 e_x31 => ?_)
          have e_x31 : x31 = nI (g + q) := by rw [e_x31]; exact nI_add g q
          subst e_x31
          refine lv_istore_n (lv' := [(3, .int (nI (g + q))), (2, .int (nI (zbits f p0 (g + q)))), (5, .int (nI (zb f a / 2 ^ u % 2 ^ q))), (4, .int (nI q)), (0, .ref qr), (1, .int (nI n))]) hx hb d_B_read_108 rfl hl (by decide) rfl (fun ls hl => ?_)
          refine lv_aload_n hx hb d_B_read_109 rfl (lv_at hl 4 rfl) ?_
          refine lv_dup hx hb d_B_read_110 rfl ?_
          refine va_get (ci := 5) (C := "ZipGuard$BitReader") (T := F_B) (N := 4) hx hb ht zi_B hown hK hP 0 rfl rfl 3 (by decide) (ht _ zm_240) (fun _ h9 => h9) rfl d_B_read_111 ?_
          refine lv_iload hx hb d_B_read_114 (lv_at hl 3 rfl) ?_
          refine lv_iadd hx hb d_B_read_116 ?_
          refine lv_topi (fun x32 e_x32 => ?_)
          have e_x32 : x32 = nI (u + q) := by rw [e_x32]; exact nI_add u q
          subst e_x32
          refine va_put (ci := 5) (v := .int (nI (u + q))) (ty := .int) (C := "ZipGuard$BitReader") (T := F_B) (N := 4) hx hb ht zi_B ty_B tk_B nm_B hown hK hP hD hS 0 rfl rfl 3 (by decide) (ht _ zm_240) (fun _ h9 => h9) rfl (by decide +kernel) rfl rfl (Nat.le_of_ble_eq_true rfl) d_B_read_117 (fun H locs hP hD hS => ?_)
          have hP : va_P D zcl [(qr, .inr (5, [.ref qb, .int (nI a), .int (nI bh), .int (nI (u + q))])), (qb, .inl (cB, 20000, .inl f))] H := hP
          have hD : va_D A [(qr, .inr (5, [.ref qb, .int (nI a), .int (nI bh), .int (nI (u + q))])), (qb, .inl (cB, 20000, .inl f))] := hD
          refine lv_aload_n hx hb d_B_read_120 rfl (lv_at hl 4 rfl) ?_
          refine va_get (ci := 5) (C := "ZipGuard$BitReader") (T := F_B) (N := 4) hx hb ht zi_B hown hK hP 0 rfl rfl 3 (by decide) (ht _ zm_240) (fun _ h9 => h9) rfl d_B_read_121 ?_
          refine lv_bipush (v := 8) hx hb d_B_read_124 (by decide) ?_
          by_cases hu8 : u + q = 8
          · skip
            refine lv_icmp_ne (tgt := 144) hx hb d_B_read_126 (by decide) (fun h => absurd (show nI (u + q) = nI 8 from by rw [hu8]) h) (fun _ => ?_)
            refine lv_aload_n hx hb d_B_read_129 rfl (lv_at hl 4 rfl) ?_
            refine lv_iconst (v := 0) hx hb d_B_read_130 (by decide) ?_
            refine va_put (ci := 5) (v := .int 0) (ty := .int) (C := "ZipGuard$BitReader") (T := F_B) (N := 4) hx hb ht zi_B ty_B tk_B nm_B hown hK hP hD hS 0 rfl rfl 3 (by decide) (ht _ zm_240) (fun _ h9 => h9) rfl (by decide +kernel) rfl rfl (Nat.le_of_ble_eq_true rfl) d_B_read_131 (fun H locs hP hD hS => ?_)
            have hP : va_P D zcl [(qr, .inr (5, [.ref qb, .int (nI a), .int (nI bh), .int 0])), (qb, .inl (cB, 20000, .inl f))] H := hP
            have hD : va_D A [(qr, .inr (5, [.ref qb, .int (nI a), .int (nI bh), .int 0])), (qb, .inl (cB, 20000, .inl f))] := hD
            refine lv_aload_n hx hb d_B_read_134 rfl (lv_at hl 4 rfl) ?_
            refine lv_dup hx hb d_B_read_135 rfl ?_
            refine va_get (ci := 5) (C := "ZipGuard$BitReader") (T := F_B) (N := 4) hx hb ht zi_B hown hK hP 0 rfl rfl 1 (by decide) (ht _ zm_238) (fun _ h9 => h9) rfl d_B_read_136 ?_
            refine lv_iconst (v := 1) hx hb d_B_read_139 (by decide) ?_
            refine lv_iadd hx hb d_B_read_140 ?_
            refine lv_topi (fun x34 e_x34 => ?_)
            have e_x34 : x34 = nI (a + 1) := by rw [e_x34]; exact nI_1 a
            subst e_x34
            refine va_put (ci := 5) (v := .int (nI (a + 1))) (ty := .int) (C := "ZipGuard$BitReader") (T := F_B) (N := 4) hx hb ht zi_B ty_B tk_B nm_B hown hK hP hD hS 0 rfl rfl 1 (by decide) (ht _ zm_238) (fun _ h9 => h9) rfl (by decide +kernel) rfl rfl (Nat.le_of_ble_eq_true rfl) d_B_read_141 (fun H locs hP hD hS => ?_)
            have hP : va_P D zcl [(qr, .inr (5, [.ref qb, .int (nI (a + 1)), .int (nI bh), .int 0])), (qb, .inl (cB, 20000, .inl f))] H := hP
            have hD : va_D A [(qr, .inr (5, [.ref qb, .int (nI (a + 1)), .int (nI bh), .int 0])), (qb, .inl (cB, 20000, .inl f))] := hD
            refine lv_goto (tgt := 4) hx hb d_B_read_144 (by decide) ?_
            exact ih (g + q) (a + 1) 0 H locs ls (by omega) (by omega) (by omega) (by omega) (by omega) (Or.inr (by omega)) hP hD hS (lv_sub hl [0, 1, 4, 5] rfl)
          · skip
            refine lv_icmp_ne (tgt := 144) hx hb d_B_read_126 (by decide) (fun _ => ?_) (fun h => absurd h (show ¬ nI (u + q) = nI 8 from fun h => hu8 ((nI_eq (by omega) (by omega)).mp h)))
            refine lv_goto (tgt := 4) hx hb d_B_read_144 (by decide) ?_
            exact ih (g + q) a (u + q) H locs ls (by omega) (by omega) (by omega) (by omega) ha (Or.inr (by omega)) hP hD hS (lv_sub hl [0, 1, 4, 5] rfl)
set_option maxHeartbeats 4000000 in
set_option maxRecDepth 100000 in
theorem c_B_read (l : Launch) (D : va_G) (sz : Nat) (qr : Nat) (qb : Nat) (cB : ClassId) (f : Nat → Int32) (bh : Nat) (n : Nat) (a : Nat) (u : Nat) (hbh : bh ≤ 20000) (hn : n ≤ 16) (hu : u ≤ 7) (ha : a ≤ 20000) : Met l y_B_read (Cond.code y_B_read prog_2_method_3_code 6 (Option.some Jvm.ClassFile.FieldType.int) :: zt) { frames := 0, cells := 0, slots := 0, locals := 0 } (zPc [.ref qr, .int (nI n)] D [(qr, .inr (5, [.ref qb, .int (nI a), .int (nI bh), .int (nI u)])), (qb, .inl (cB, 20000, .inl f))] [(cB, .byte)] sz (fun _ => True)) (va_Qi (fun (r : Int32) => fun (u9 : Nat × Nat) => match u9 with | (a1, u1) => u1 ≤ 7 ∧ a1 ≤ 20000 ∧ ((r = nI (zbits f (8 * a + u) n) ∧ 8 * a1 + u1 = 8 * a + u + n ∧ (n = 0 ∨ 8 * a + u + n ≤ 8 * bh)) ∨ (r = -30 ∧ 8 * bh < 8 * a + u + n))) (fun u9 t => zB D ((fun (u9 : Nat × Nat) => match u9 with | (a1, u1) => [(qr, .inr (5, [.ref qb, .int (nI a1), .int (nI bh), .int (nI u1)])), (qb, .inl (cB, 20000, .inl f))]) u9) ((fun (u9 : Nat × Nat) => match u9 with | (a1, u1) => [(cB, .byte)]) u9) (va_A [(qr, .inr (5, [.ref qb, .int (nI a), .int (nI bh), .int (nI u)])), (qb, .inl (cB, 20000, .inl f))] sz) t) (va_A [(qr, .inr (5, [.ref qb, .int (nI a), .int (nI bh), .int (nI u)])), (qb, .inl (cB, 20000, .inl f))] sz)) 0 0 (va_A [(qr, .inr (5, [.ref qb, .int (nI a), .int (nI bh), .int (nI u)])), (qb, .inl (cB, 20000, .inl f))] sz) :=
  zMet (Qf := fun A => va_Qi (fun (r : Int32) => fun (u9 : Nat × Nat) => match u9 with | (a1, u1) => u1 ≤ 7 ∧ a1 ≤ 20000 ∧ ((r = nI (zbits f (8 * a + u) n) ∧ 8 * a1 + u1 = 8 * a + u + n ∧ (n = 0 ∨ 8 * a + u + n ≤ 8 * bh)) ∨ (r = -30 ∧ 8 * bh < 8 * a + u + n))) (fun u9 t => zB D ((fun (u9 : Nat × Nat) => match u9 with | (a1, u1) => [(qr, .inr (5, [.ref qb, .int (nI a1), .int (nI bh), .int (nI u1)])), (qb, .inl (cB, 20000, .inl f))]) u9) ((fun (u9 : Nat × Nat) => match u9 with | (a1, u1) => [(cB, .byte)]) u9) A t) A) (by decide) (Nat.le_of_ble_eq_true rfl) (fun p e s m below meth c A ls hx hb hr hml hown ht hlk hnm hA hK hP hD hX hl => by
    have hS : va_S A s.heap s.heap [] := va_S.rf
    have hl : lv_has ls 6 [(0, .ref qr), (1, .int (nI n))] := hl
    refine lv_iconst (v := 0) hx hb d_B_read_0 (by decide) ?_
    refine lv_istore_n (lv' := [(2, .int 0), (0, .ref qr), (1, .int (nI n))]) hx hb d_B_read_1 rfl hl (by decide) rfl (fun ls hl => ?_)
    refine lv_iconst (v := 0) hx hb d_B_read_2 (by decide) ?_
    refine lv_istore_n (lv' := [(3, .int 0), (2, .int 0), (0, .ref qr), (1, .int (nI n))]) hx hb d_B_read_3 rfl hl (by decide) rfl (fun ls hl => ?_)
    refine lp_B_read hx hb hml hown ht hA qr qb cB f bh n (8 * a + u) hbh hn hK (fun a1 u1 H locs ls hlt hu1 ha1 hP hD hS hl => ?_) (fun a1 u1 H locs ls hp hu1 ha1 hle hP hD hS hl => ?_) n 0 a u s.heap [] ls (by omega) (by omega) (by omega) hu ha (Or.inl rfl) hP hD hS hl
    · skip
      refine lv_bipush (v := (-30)) hx hb d_B_read_39 (by decide) ?_
      exact zreti hx hb hr hlk hK hP hD hS (a1, u1) [0, 1] [0] rfl (by decide) rfl (⟨hu1, ha1, Or.inr ⟨rfl, hlt⟩⟩) (Nat.le_of_ble_eq_true rfl) (Nat.le_of_ble_eq_true rfl) d_B_read_41
    · skip
      refine lv_iload_n hx hb d_B_read_147 rfl (lv_at hl 1 rfl) ?_
      exact zreti hx hb hr hlk hK hP hD hS (a1, u1) [0, 1] [0] rfl (by decide) rfl (⟨hu1, ha1, Or.inl ⟨rfl, hp.symm, hle⟩⟩) (Nat.le_of_ble_eq_true rfl) (Nat.le_of_ble_eq_true rfl) d_B_read_148)
set_option maxHeartbeats 4000000 in
set_option maxRecDepth 100000 in
theorem c_B_skip (l : Launch) (D : va_G) (sz : Nat) (qr : Nat) (qb : Nat) (bh : Nat) (a : Nat) (u : Nat) (hu : u ≤ 7) : Met l y_B_skipToFullByte (Cond.code y_B_skipToFullByte prog_2_method_4_code 1 (Option.none : Option Jvm.ClassFile.FieldType) :: zt) { frames := 0, cells := 0, slots := 0, locals := 0 } (zPc [.ref qr] D [(qr, .inr (5, [.ref qb, .int (nI a), .int (nI bh), .int (nI u)]))] [] sz (fun _ => True)) (va_Qv (fun (u9 : Nat) => match u9 with | a1 => a1 = (8 * a + u + 7) / 8) (fun u9 t => zB D ((fun (u9 : Nat) => match u9 with | a1 => [(qr, .inr (5, [.ref qb, .int (nI a1), .int (nI bh), .int 0]))]) u9) ((fun (u9 : Nat) => match u9 with | a1 => []) u9) (va_A [(qr, .inr (5, [.ref qb, .int (nI a), .int (nI bh), .int (nI u)]))] sz) t) (va_A [(qr, .inr (5, [.ref qb, .int (nI a), .int (nI bh), .int (nI u)]))] sz)) 0 0 (va_A [(qr, .inr (5, [.ref qb, .int (nI a), .int (nI bh), .int (nI u)]))] sz) :=
  zMet (Qf := fun A => va_Qv (fun (u9 : Nat) => match u9 with | a1 => a1 = (8 * a + u + 7) / 8) (fun u9 t => zB D ((fun (u9 : Nat) => match u9 with | a1 => [(qr, .inr (5, [.ref qb, .int (nI a1), .int (nI bh), .int 0]))]) u9) ((fun (u9 : Nat) => match u9 with | a1 => []) u9) A t) A) (by decide) (Nat.le_of_ble_eq_true rfl) (fun p e s m below meth c A ls hx hb hr hml hown ht hlk hnm hA hK hP hD hX hl => by
    have hS : va_S A s.heap s.heap [] := va_S.rf
    have hl : lv_has ls 1 [(0, .ref qr)] := hl
    refine lv_aload_n hx hb d_B_skipToFullByte_0 rfl (lv_at hl 0 rfl) ?_
    refine va_get (ci := 5) (C := "ZipGuard$BitReader") (T := F_B) (N := 4) hx hb ht zi_B hown hK hP 0 rfl rfl 3 (by decide) (ht _ zm_240) (fun _ h9 => h9) rfl d_B_skipToFullByte_1 ?_
    by_cases h0 : u = 0
    · skip
      refine lv_if_le (tgt := 22) hx hb d_B_skipToFullByte_4 (by decide) (fun _ => ?_) (fun h => absurd (by rw [h0]; decide) h)
      subst h0
      exact zretv hx hb hr hlk hK hP hD hS a [0] [] rfl (by decide) rfl (by omega) (Nat.le_of_ble_eq_true rfl) (Nat.le_of_ble_eq_true rfl) d_B_skipToFullByte_22
    · skip
      refine lv_if_le (tgt := 22) hx hb d_B_skipToFullByte_4 (by decide) (fun h => absurd h (nI_nle (by omega) (by omega))) (fun _ => ?_)
      refine lv_aload_n hx hb d_B_skipToFullByte_7 rfl (lv_at hl 0 rfl) ?_
      refine lv_iconst (v := 0) hx hb d_B_skipToFullByte_8 (by decide) ?_
      refine va_put (ci := 5) (v := .int 0) (ty := .int) (C := "ZipGuard$BitReader") (T := F_B) (N := 4) hx hb ht zi_B ty_B tk_B nm_B hown hK hP hD hS 0 rfl rfl 3 (by decide) (ht _ zm_240) (fun _ h9 => h9) rfl (by decide +kernel) rfl rfl (Nat.le_of_ble_eq_true rfl) d_B_skipToFullByte_9 (fun H locs hP hD hS => ?_)
      have hP : va_P D zcl [(qr, .inr (5, [.ref qb, .int (nI a), .int (nI bh), .int 0]))] H := hP
      have hD : va_D A [(qr, .inr (5, [.ref qb, .int (nI a), .int (nI bh), .int 0]))] := hD
      refine lv_aload_n hx hb d_B_skipToFullByte_12 rfl (lv_at hl 0 rfl) ?_
      refine lv_dup hx hb d_B_skipToFullByte_13 rfl ?_
      refine va_get (ci := 5) (C := "ZipGuard$BitReader") (T := F_B) (N := 4) hx hb ht zi_B hown hK hP 0 rfl rfl 1 (by decide) (ht _ zm_238) (fun _ h9 => h9) rfl d_B_skipToFullByte_14 ?_
      refine lv_iconst (v := 1) hx hb d_B_skipToFullByte_17 (by decide) ?_
      refine lv_iadd hx hb d_B_skipToFullByte_18 ?_
      refine lv_topi (fun x3 e_x3 => ?_)
      have e_x3 : x3 = nI (a + 1) := by rw [e_x3]; exact nI_1 a
      subst e_x3
      refine va_put (ci := 5) (v := .int (nI (a + 1))) (ty := .int) (C := "ZipGuard$BitReader") (T := F_B) (N := 4) hx hb ht zi_B ty_B tk_B nm_B hown hK hP hD hS 0 rfl rfl 1 (by decide) (ht _ zm_238) (fun _ h9 => h9) rfl (by decide +kernel) rfl rfl (Nat.le_of_ble_eq_true rfl) d_B_skipToFullByte_19 (fun H locs hP hD hS => ?_)
      have hP : va_P D zcl [(qr, .inr (5, [.ref qb, .int (nI (a + 1)), .int (nI bh), .int 0]))] H := hP
      have hD : va_D A [(qr, .inr (5, [.ref qb, .int (nI (a + 1)), .int (nI bh), .int 0]))] := hD
      exact zretv hx hb hr hlk hK hP hD hS (a + 1) [0] [] rfl (by decide) rfl (by omega) (Nat.le_of_ble_eq_true rfl) (Nat.le_of_ble_eq_true rfl) d_B_skipToFullByte_22)
