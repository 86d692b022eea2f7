/-- the lengths of the codes for lengths, k of them read from the bit q on -/
def zlr (f : Nat → Int32) (q : Nat) : Nat → Nat → Nat
  | 0 => fun _ => 0
  | k + 1 => fun i => if i = zN ztab_1 k then zbits f (q + 3 * k) 3 else zlr f q k i
theorem zlr_le (f : Nat → Int32) (q : Nat) : ∀ k i, zlr f q k i ≤ 15
  | 0, _ => Nat.zero_le _
  | k + 1, i => by
    have h := zbits_lt f (q + 3 * k) 3
    have ih := zlr_le f q k i
    simp only [zlr]
    split <;> omega
def zlc (f : Nat → Int32) (bh n q : Nat) : Int32 × Nat := if 8 * bh < q + 3 * n then (-30, q) else if zkf (zlr f q n) 19 16 = 32768 then (0, q + 3 * n) else (-33, q + 3 * n)
set_option maxRecDepth 100000 in
theorem zm_273 : Jvm.Cond.methodLink "ZipGuard$Unpacker" (50 : Nat) ({ cls := "java/util/Arrays", name := "fill", desc := "([IIII)V" } : Jvm.MethodName) ∈ zt := zt_m1 (List.mem_of_getElem? (i := 209) rfl)
set_option maxRecDepth 100000 in
theorem zm_274 : Jvm.Cond.static ({ cls := "java/util/Arrays", name := "fill", desc := "([IIII)V" } : Jvm.MethodName) ∈ zt := zt_m1 (List.mem_of_getElem? (i := 210) rfl)
set_option maxRecDepth 100000 in
theorem zm_275 : Jvm.Cond.code ({ cls := "java/util/Arrays", name := "fill", desc := "([IIII)V" } : Jvm.MethodName) prog_27_method_104_code (5 : Nat) (Option.none : Option Jvm.ClassFile.FieldType) ∈ zt := zt_m1 (List.mem_of_getElem? (i := 211) rfl)
set_option maxRecDepth 100000 in
theorem zm_363 : Jvm.Cond.methodLink "ZipGuard$Unpacker" (56 : Nat) ({ cls := "ZipGuard$CodeSet", name := "build", desc := "([III)V" } : Jvm.MethodName) ∈ zt := zt_m3 (List.mem_of_getElem? (i := 35) rfl)
set_option maxRecDepth 100000 in
theorem zm_364 : Jvm.Cond.instanceMethod ({ cls := "ZipGuard$CodeSet", name := "build", desc := "([III)V" } : Jvm.MethodName) ∈ zt := zt_m3 (List.mem_of_getElem? (i := 36) rfl)
set_option maxRecDepth 100000 in
theorem zm_365 : Jvm.Cond.selects "ZipGuard$CodeSet" ({ cls := "ZipGuard$CodeSet", name := "build", desc := "([III)V" } : Jvm.MethodName) ({ cls := "ZipGuard$CodeSet", name := "build", desc := "([III)V" } : Jvm.MethodName) ∈ zt := zt_m3 (List.mem_of_getElem? (i := 37) rfl)
set_option maxRecDepth 100000 in
theorem zm_366 : Jvm.Cond.code ({ cls := "ZipGuard$CodeSet", name := "build", desc := "([III)V" } : Jvm.MethodName) prog_3_method_2_code (6 : Nat) (Option.none : Option Jvm.ClassFile.FieldType) ∈ zt := zt_m3 (List.mem_of_getElem? (i := 38) rfl)
set_option maxRecDepth 100000 in
theorem zm_372 : Jvm.Cond.fieldLink "ZipGuard$Unpacker" (22 : Nat) "ZipGuard$Unpacker" "row" "[I" ∈ zt := zt_m3 (List.mem_of_getElem? (i := 44) rfl)
set_option maxRecDepth 100000 in
theorem zm_375 : Jvm.Cond.fieldLink "ZipGuard$Unpacker" (38 : Nat) "ZipGuard$Unpacker" "lengthCodes" "LZipGuard$CodeSet;" ∈ zt := zt_m3 (List.mem_of_getElem? (i := 47) rfl)
set_option maxRecDepth 100000 in
theorem zm_678 : Jvm.Cond.fieldLink "ZipGuard$Unpacker" (150 : Nat) "ZipGuard$Unpacker" "ORDER_OF_LENGTH_CODES" "[I" ∈ zt := zt_m4 (List.mem_of_getElem? (i := 167) rfl)
set_option maxRecDepth 100000 in
theorem zm_679 : Jvm.Cond.methodLink "ZipGuard$Unpacker" (144 : Nat) ({ cls := "ZipGuard$CodeSet", name := "isFull", desc := "()Z" } : Jvm.MethodName) ∈ zt := zt_m4 (List.mem_of_getElem? (i := 168) rfl)
theorem d_U_readLengthCodes_0 : decode prog_8_method_9_code 0 = .ok (.aload_n 0, 1) := by decide +kernel
theorem d_U_readLengthCodes_1 : decode prog_8_method_9_code 1 = .ok (.getfield 22, 3) := by decide +kernel
theorem d_U_readLengthCodes_4 : decode prog_8_method_9_code 4 = .ok (.iconst 0, 1) := by decide +kernel
theorem d_U_readLengthCodes_5 : decode prog_8_method_9_code 5 = .ok (.bipush 19, 2) := by decide +kernel
theorem d_U_readLengthCodes_7 : decode prog_8_method_9_code 7 = .ok (.iconst 0, 1) := by decide +kernel
theorem d_U_readLengthCodes_8 : decode prog_8_method_9_code 8 = .ok (.invokestatic 50, 3) := by decide +kernel
theorem d_U_readLengthCodes_11 : decode prog_8_method_9_code 11 = .ok (.iconst 0, 1) := by decide +kernel
theorem d_U_readLengthCodes_12 : decode prog_8_method_9_code 12 = .ok (.istore_n 2, 1) := by decide +kernel
theorem d_U_readLengthCodes_13 : decode prog_8_method_9_code 13 = .ok (.iload_n 2, 1) := by decide +kernel
theorem d_U_readLengthCodes_14 : decode prog_8_method_9_code 14 = .ok (.iload_n 1, 1) := by decide +kernel
theorem d_U_readLengthCodes_15 : decode prog_8_method_9_code 15 = .ok (.if_icmp .ge 41, 3) := by decide +kernel
theorem d_U_readLengthCodes_18 : decode prog_8_method_9_code 18 = .ok (.iload_n 2, 1) := by decide +kernel
theorem d_U_readLengthCodes_19 : decode prog_8_method_9_code 19 = .ok (.bipush 19, 2) := by decide +kernel
theorem d_U_readLengthCodes_21 : decode prog_8_method_9_code 21 = .ok (.if_icmp .ge 35, 3) := by decide +kernel
theorem d_U_readLengthCodes_24 : decode prog_8_method_9_code 24 = .ok (.aload_n 0, 1) := by decide +kernel
theorem d_U_readLengthCodes_25 : decode prog_8_method_9_code 25 = .ok (.getfield 18, 3) := by decide +kernel
theorem d_U_readLengthCodes_28 : decode prog_8_method_9_code 28 = .ok (.iconst 3, 1) := by decide +kernel
theorem d_U_readLengthCodes_29 : decode prog_8_method_9_code 29 = .ok (.invokevirtual 117, 3) := by decide +kernel
theorem d_U_readLengthCodes_32 : decode prog_8_method_9_code 32 = .ok (.istore_n 3, 1) := by decide +kernel
theorem d_U_readLengthCodes_33 : decode prog_8_method_9_code 33 = .ok (.iload_n 3, 1) := by decide +kernel
theorem d_U_readLengthCodes_34 : decode prog_8_method_9_code 34 = .ok (.ifCond .ge 5, 3) := by decide +kernel
theorem d_U_readLengthCodes_37 : decode prog_8_method_9_code 37 = .ok (.iload_n 3, 1) := by decide +kernel
theorem d_U_readLengthCodes_38 : decode prog_8_method_9_code 38 = .ok (.ireturn, 1) := by decide +kernel
theorem d_U_readLengthCodes_39 : decode prog_8_method_9_code 39 = .ok (.aload_n 0, 1) := by decide +kernel
theorem d_U_readLengthCodes_40 : decode prog_8_method_9_code 40 = .ok (.getfield 22, 3) := by decide +kernel
theorem d_U_readLengthCodes_43 : decode prog_8_method_9_code 43 = .ok (.getstatic 150, 3) := by decide +kernel
theorem d_U_readLengthCodes_46 : decode prog_8_method_9_code 46 = .ok (.iload_n 2, 1) := by decide +kernel
theorem d_U_readLengthCodes_47 : decode prog_8_method_9_code 47 = .ok (.iaload, 1) := by decide +kernel
theorem d_U_readLengthCodes_48 : decode prog_8_method_9_code 48 = .ok (.iload_n 3, 1) := by decide +kernel
theorem d_U_readLengthCodes_49 : decode prog_8_method_9_code 49 = .ok (.iastore, 1) := by decide +kernel
theorem d_U_readLengthCodes_50 : decode prog_8_method_9_code 50 = .ok (.iinc 2 1, 3) := by decide +kernel
theorem d_U_readLengthCodes_53 : decode prog_8_method_9_code 53 = .ok (.goto (-40), 3) := by decide +kernel
theorem d_U_readLengthCodes_56 : decode prog_8_method_9_code 56 = .ok (.aload_n 0, 1) := by decide +kernel
theorem d_U_readLengthCodes_57 : decode prog_8_method_9_code 57 = .ok (.getfield 38, 3) := by decide +kernel
theorem d_U_readLengthCodes_60 : decode prog_8_method_9_code 60 = .ok (.aload_n 0, 1) := by decide +kernel
theorem d_U_readLengthCodes_61 : decode prog_8_method_9_code 61 = .ok (.getfield 22, 3) := by decide +kernel
theorem d_U_readLengthCodes_64 : decode prog_8_method_9_code 64 = .ok (.iconst 0, 1) := by decide +kernel
theorem d_U_readLengthCodes_65 : decode prog_8_method_9_code 65 = .ok (.bipush 19, 2) := by decide +kernel
theorem d_U_readLengthCodes_67 : decode prog_8_method_9_code 67 = .ok (.invokevirtual 56, 3) := by decide +kernel
theorem d_U_readLengthCodes_70 : decode prog_8_method_9_code 70 = .ok (.aload_n 0, 1) := by decide +kernel
theorem d_U_readLengthCodes_71 : decode prog_8_method_9_code 71 = .ok (.getfield 38, 3) := by decide +kernel
theorem d_U_readLengthCodes_74 : decode prog_8_method_9_code 74 = .ok (.invokevirtual 144, 3) := by decide +kernel
theorem d_U_readLengthCodes_77 : decode prog_8_method_9_code 77 = .ok (.ifCond .eq 7, 3) := by decide +kernel
theorem d_U_readLengthCodes_80 : decode prog_8_method_9_code 80 = .ok (.iconst 0, 1) := by decide +kernel
theorem d_U_readLengthCodes_81 : decode prog_8_method_9_code 81 = .ok (.goto 5, 3) := by decide +kernel
theorem d_U_readLengthCodes_84 : decode prog_8_method_9_code 84 = .ok (.bipush (-33), 2) := by decide +kernel
theorem d_U_readLengthCodes_86 : decode prog_8_method_9_code 86 = .ok (.ireturn, 1) := by decide +kernel
set_option maxHeartbeats 4000000 in
set_option maxRecDepth 100000 in
theorem lp_U_len {p : Program} {l : Launch} {e : Env} {R : Room} {s : State} {m : MethodId} {args : Array Value} {below : List Frame} {meth : Method} {c : Code} {cells slots : Nat} {Q : State → Prop} {A : Nat → Prop} {D : va_G} (hx : p.tables.exec = Jvm.exec) (hb : c.code = prog_8_method_9_code) (hml : c.maxLocals = 4) (hown : s.vm.findClass "ZipGuard$Unpacker" = some m.cls) (ht : ∀ w ∈ zt, w.before args s = true) (hA : ∀ q, s.heap.size ≤ q → A q) (qu : Nat) (qw : Nat) (s1 : Nat) (s2 : Nat) (s3 : Nat) (s4 : Nat) (s5 : Nat) (qa : Nat) (qr : Nat) (qb : Nat) (l1 : Nat) (l2 : Nat) (l3 : Nat) (cB : ClassId) (cW : ClassId) (cL1 : ClassId) (cL2 : ClassId) (cL3 : ClassId) (f : Nat → Int32) (bh : Nat) (n : Nat) (q : Nat) (k0 : Int32) (g1 : Nat → Int32) (g2 : Nat → Int32) (g3 : Nat → Int32) (hbh : bh ≤ 20000) (hn : n ≤ 19) (hX : zTab A s) (hF0 : 0 + 1 ≤ R.frames) (hL0 : 8 + (6 + 11) + 0 ≤ R.locals) (hcc : cells + 0 ≤ R.cells) (hss : slots + 0 ≤ R.slots) (hK : va_K D zcl [(cB, .byte), (cW, .int), (cL1, .int), (cL2, .int), (cL3, .int)] s) (k38 : ∀ (a u : Nat) (rw : Nat → Int32) (H : Heap) (locs : List Loc) (ls : Array Slot), 8 * bh < q + 3 * n → u ≤ 7 → a ≤ 20000 → va_P D zcl [(qu, .inr (4, [.ref qa, .ref qr, .ref qw, .ref s1, .ref s2, .ref s3, .ref s4, .ref s5])), (qr, .inr (5, [.ref qb, .int (nI a), .int (nI bh), .int (nI u)])), (qb, .inl (cB, 20000, .inl f)), (qw, .inl (cW, 320, .inl rw)), (s3, .inr (6, [.ref l1, .ref l2, .ref l3, .int k0])), (l1, .inl (cL1, 16, .inl g1)), (l2, .inl (cL2, 16, .inl g2)), (l3, .inl (cL3, 19, .inl g3))] H → va_D A [(qu, .inr (4, [.ref qa, .ref qr, .ref qw, .ref s1, .ref s2, .ref s3, .ref s4, .ref s5])), (qr, .inr (5, [.ref qb, .int (nI a), .int (nI bh), .int (nI u)])), (qb, .inl (cB, 20000, .inl f)), (qw, .inl (cW, 320, .inl rw)), (s3, .inr (6, [.ref l1, .ref l2, .ref l3, .int k0])), (l1, .inl (cL1, 16, .inl g1)), (l2, .inl (cL2, 16, .inl g2)), (l3, .inl (cL3, 19, .inl g3))] → va_S A s.heap H locs → lv_has ls 4 [] → W p l e R s m args below meth c H locs cells slots Q (F0 m 38 ls [.int (-30)]))
    (kk : ∀ (a : Nat) (u : Nat) (rw : Nat → Int32) (H : Heap) (locs : List Loc) (ls : Array Slot), 8 * a + u = q + 3 * n → u ≤ 7 → 8 * a + u ≤ 8 * bh → (∀ i, i < 19 → rw i = nI (zlr f q n i)) → va_P D zcl [(qu, .inr (4, [.ref qa, .ref qr, .ref qw, .ref s1, .ref s2, .ref s3, .ref s4, .ref s5])), (qr, .inr (5, [.ref qb, .int (nI a), .int (nI bh), .int (nI u)])), (qb, .inl (cB, 20000, .inl f)), (qw, .inl (cW, 320, .inl rw)), (s3, .inr (6, [.ref l1, .ref l2, .ref l3, .int k0])), (l1, .inl (cL1, 16, .inl g1)), (l2, .inl (cL2, 16, .inl g2)), (l3, .inl (cL3, 19, .inl g3))] H → va_D A [(qu, .inr (4, [.ref qa, .ref qr, .ref qw, .ref s1, .ref s2, .ref s3, .ref s4, .ref s5])), (qr, .inr (5, [.ref qb, .int (nI a), .int (nI bh), .int (nI u)])), (qb, .inl (cB, 20000, .inl f)), (qw, .inl (cW, 320, .inl rw)), (s3, .inr (6, [.ref l1, .ref l2, .ref l3, .int k0])), (l1, .inl (cL1, 16, .inl g1)), (l2, .inl (cL2, 16, .inl g2)), (l3, .inl (cL3, 19, .inl g3))] → va_S A s.heap H locs → lv_has ls 4 [(0, .ref qu)] → W p l e R s m args below meth c H locs cells slots Q (F0 m 56 ls [])) :
    ∀ (j : Nat) (k : Nat) (a : Nat) (u : Nat) (rw : Nat → Int32) (H : Heap) (locs : List Loc) (ls : Array Slot), k + j = n → 8 * a + u = q + 3 * k → u ≤ 7 → 8 * a + u ≤ 8 * bh → (∀ i, i < 19 → rw i = nI (zlr f q k i)) → va_P D zcl [(qu, .inr (4, [.ref qa, .ref qr, .ref qw, .ref s1, .ref s2, .ref s3, .ref s4, .ref s5])), (qr, .inr (5, [.ref qb, .int (nI a), .int (nI bh), .int (nI u)])), (qb, .inl (cB, 20000, .inl f)), (qw, .inl (cW, 320, .inl rw)), (s3, .inr (6, [.ref l1, .ref l2, .ref l3, .int k0])), (l1, .inl (cL1, 16, .inl g1)), (l2, .inl (cL2, 16, .inl g2)), (l3, .inl (cL3, 19, .inl g3))] H → va_D A [(qu, .inr (4, [.ref qa, .ref qr, .ref qw, .ref s1, .ref s2, .ref s3, .ref s4, .ref s5])), (qr, .inr (5, [.ref qb, .int (nI a), .int (nI bh), .int (nI u)])), (qb, .inl (cB, 20000, .inl f)), (qw, .inl (cW, 320, .inl rw)), (s3, .inr (6, [.ref l1, .ref l2, .ref l3, .int k0])), (l1, .inl (cL1, 16, .inl g1)), (l2, .inl (cL2, 16, .inl g2)), (l3, .inl (cL3, 19, .inl g3))] → va_S A s.heap H locs → lv_has ls 4 [(2, .int (nI k)), (0, .ref qu), (1, .int (nI n))] → W p l e R s m args below meth c H locs cells slots Q (F0 m 13 ls []) := by
  intro j
  induction j with
  | zero =>
    intro k a u rw H locs ls hk hp hu hau hrw hP hD hS hl
    have hk : k = n := by omega
    subst hk
    refine lv_iload_n hx hb d_U_readLengthCodes_13 rfl (lv_at hl 0 rfl) ?_
    refine lv_iload_n hx hb d_U_readLengthCodes_14 rfl (lv_at hl 2 rfl) ?_
    refine lv_icmp_ge (tgt := 56) hx hb d_U_readLengthCodes_15 (by decide) (fun _ => ?_) (fun h => absurd (nI_le (by omega) (by omega)) h)
    exact kk a u rw H locs ls hp hu hau hrw hP hD hS (lv_sub hl [1] rfl)
  | succ j ih =>
    intro k a u rw H locs ls hk hp hu hau hrw hP hD hS hl
    obtain ⟨t1, hz1, hT1⟩ := hX _ ztm_1
    have hz1 : va_Z "ZipGuard$Unpacker" "ORDER_OF_LENGTH_CODES" "[I" (.ref t1) A s s.heap := hz1
    have hT1 : va_T .int t1 19 (fun j => .int (ztab_1.getD j 0)) A s s.heap := hT1
    refine lv_iload_n hx hb d_U_readLengthCodes_13 rfl (lv_at hl 0 rfl) ?_
    refine lv_iload_n hx hb d_U_readLengthCodes_14 rfl (lv_at hl 2 rfl) ?_
    refine lv_icmp_ge (tgt := 56) hx hb d_U_readLengthCodes_15 (by decide) (fun h => absurd h (nI_ge (by omega) (by omega))) (fun _ => ?_)
    refine lv_iload_n hx hb d_U_readLengthCodes_18 rfl (lv_at hl 0 rfl) ?_
    refine lv_bipush (v := 19) hx hb d_U_readLengthCodes_19 (by decide) ?_
    refine lv_icmp_ge (tgt := 56) hx hb d_U_readLengthCodes_21 (by decide) (fun h => absurd h (show ¬ nI 19 ≤ nI k from nI_ge (by omega) (by decide))) (fun _ => ?_)
    refine lv_aload_n hx hb d_U_readLengthCodes_24 rfl (lv_at hl 1 rfl) ?_
    refine va_get (ci := 4) (C := "ZipGuard$Unpacker") (T := F_U) (N := 8) hx hb ht zi_U hown hK hP 0 rfl rfl 1 (by decide) (ht _ zm_371) (fun _ h9 => h9) rfl d_U_readLengthCodes_25 ?_
    refine lv_iconst (v := 3) hx hb d_U_readLengthCodes_28 (by decide) ?_
    refine zji (wr := [(qu, .inr (4, [.ref qa, .ref qr, .ref qw, .ref s1, .ref s2, .ref s3, .ref s4, .ref s5])), (qw, .inl (cW, 320, .inl rw)), (s3, .inr (6, [.ref l1, .ref l2, .ref l3, .int k0])), (l1, .inl (cL1, 16, .inl g1)), (l2, .inl (cL2, 16, .inl g2)), (l3, .inl (cL3, 19, .inl g3))]) (va_runV (As := [.int 3]) (rest := []) ⟨hx, hb, hml, hown, ht⟩ (c_B_read l D _ qr qb cB f bh 3 a u hbh (by decide) hu (by omega)) (cwV 1 ht (zt_goodV zm_629 zm_630 zm_631 zm_71 zm_632) rfl rfl rfl (by decide +kernel) ⟨hF0, hL0⟩) (zpreV zBlind_t hK hP hD [1, 2] [0] rfl (by decide) rfl (fun _ _ _ => trivial) (va_recv (q := ("ZipGuard$BitReader", F_B, 4)) hK hP rfl (q0 := 1) (ci := 5) rfl)) rfl rfl hl.1 rfl (lv_room (Nat.le_of_ble_eq_true rfl)) d_U_readLengthCodes_29 ⟨hcc, hss⟩) hK hP hD hS hA [1, 2] [0, 3, 4, 5, 6, 7] rfl rfl (by decide) (by decide) (fun r4 u9 H locs hp5 hP hD hK hS => ?_)
    obtain ⟨a2, u2⟩ := u9
    dsimp only at hp5 hP hD hK
    have hP : va_P D zcl [(qu, .inr (4, [.ref qa, .ref qr, .ref qw, .ref s1, .ref s2, .ref s3, .ref s4, .ref s5])), (qw, .inl (cW, 320, .inl rw)), (s3, .inr (6, [.ref l1, .ref l2, .ref l3, .int k0])), (l1, .inl (cL1, 16, .inl g1)), (l2, .inl (cL2, 16, .inl g2)), (l3, .inl (cL3, 19, .inl g3)), (qr, .inr (5, [.ref qb, .int (nI a2), .int (nI bh), .int (nI u2)])), (qb, .inl (cB, 20000, .inl f))] H := hP
    have hD : va_D A [(qu, .inr (4, [.ref qa, .ref qr, .ref qw, .ref s1, .ref s2, .ref s3, .ref s4, .ref s5])), (qw, .inl (cW, 320, .inl rw)), (s3, .inr (6, [.ref l1, .ref l2, .ref l3, .int k0])), (l1, .inl (cL1, 16, .inl g1)), (l2, .inl (cL2, 16, .inl g2)), (l3, .inl (cL3, 19, .inl g3)), (qr, .inr (5, [.ref qb, .int (nI a2), .int (nI bh), .int (nI u2)])), (qb, .inl (cB, 20000, .inl f))] := hD
    have hK : va_K D zcl [(cB, .byte), (cW, .int), (cL1, .int), (cL2, .int), (cL3, .int), (cB, .byte)] s := hK
    have hP := hP.sub (ws' := [(qu, .inr (4, [.ref qa, .ref qr, .ref qw, .ref s1, .ref s2, .ref s3, .ref s4, .ref s5])), (qr, .inr (5, [.ref qb, .int (nI a2), .int (nI bh), .int (nI u2)])), (qb, .inl (cB, 20000, .inl f)), (qw, .inl (cW, 320, .inl rw)), (s3, .inr (6, [.ref l1, .ref l2, .ref l3, .int k0])), (l1, .inl (cL1, 16, .inl g1)), (l2, .inl (cL2, 16, .inl g2)), (l3, .inl (cL3, 19, .inl g3))]) [0, 6, 7, 1, 2, 3, 4, 5] rfl
    have hD := hD.sub (ws' := [(qu, .inr (4, [.ref qa, .ref qr, .ref qw, .ref s1, .ref s2, .ref s3, .ref s4, .ref s5])), (qr, .inr (5, [.ref qb, .int (nI a2), .int (nI bh), .int (nI u2)])), (qb, .inl (cB, 20000, .inl f)), (qw, .inl (cW, 320, .inl rw)), (s3, .inr (6, [.ref l1, .ref l2, .ref l3, .int k0])), (l1, .inl (cL1, 16, .inl g1)), (l2, .inl (cL2, 16, .inl g2)), (l3, .inl (cL3, 19, .inl g3))]) [0, 6, 7, 1, 2, 3, 4, 5] (by decide) rfl
    have hK := hK.sub (tys' := [(cB, .byte), (cW, .int), (cL1, .int), (cL2, .int), (cL3, .int)]) [0, 1, 2, 3, 4] rfl
    obtain ⟨hu2, ha2, hp5⟩ := hp5
    have hzb := zbits_lt f (8 * a + u) 3
    refine lv_istore_n (lv' := [(3, .int r4), (2, .int (nI k)), (0, .ref qu), (1, .int (nI n))]) hx hb d_U_readLengthCodes_32 rfl hl (by decide) rfl (fun ls hl => ?_)
    refine lv_iload_n hx hb d_U_readLengthCodes_33 rfl (lv_at hl 0 rfl) ?_
    rcases hp5 with ⟨hp5, hpos1, hle1⟩ | ⟨hp5, hend1⟩
    · skip
      have hp5 := hp5.symm
      subst hp5
      refine lv_if_ge (tgt := 39) hx hb d_U_readLengthCodes_34 (by decide) (fun _ => ?_) (fun h => absurd (nI_pos' (by omega)) h)
      obtain ⟨hn1, hb1⟩ := zN_1 k (by omega)
      refine lv_aload_n hx hb d_U_readLengthCodes_39 rfl (lv_at hl 2 rfl) ?_
      refine va_get (ci := 4) (C := "ZipGuard$Unpacker") (T := F_U) (N := 8) hx hb ht zi_U hown hK hP 0 rfl rfl 2 (by decide) (ht _ zm_372) (fun _ h9 => h9) rfl d_U_readLengthCodes_40 ?_
      refine va_gets hx hb hz1 hS hown (ht _ zm_678) (fun _ h9 => h9) d_U_readLengthCodes_43 ?_
      refine lv_iload_n hx hb d_U_readLengthCodes_46 rfl (lv_at hl 1 rfl) ?_
      refine va_ti (v := .int (ztab_1.getD (nI k).toNatClampNeg 0)) hx hb hT1 hS (vp_in_nI (by omega) (by decide)) rfl d_U_readLengthCodes_47 ?_
      refine lv_topi (fun x7 e_x7 => ?_)
      have e_x7 : x7 = nI (zN ztab_1 k) := by rw [e_x7, nI_clamp (by omega)]; exact hn1
      subst e_x7
      refine lv_iload_n hx hb d_U_readLengthCodes_48 rfl (lv_at hl 0 rfl) ?_
      refine va_iast hx hb hK hP hD hS 3 1 rfl rfl (vp_in_nI (by omega) (by decide)) d_U_readLengthCodes_49 (fun H locs hP hD hS => ?_)
      have hP : va_P D zcl [(qu, .inr (4, [.ref qa, .ref qr, .ref qw, .ref s1, .ref s2, .ref s3, .ref s4, .ref s5])), (qr, .inr (5, [.ref qb, .int (nI a2), .int (nI bh), .int (nI u2)])), (qb, .inl (cB, 20000, .inl f)), (qw, .inl (cW, 320, .inl (upd rw (nI (zN ztab_1 k)).toNatClampNeg (nI (zbits f (8 * a + u) 3))))), (s3, .inr (6, [.ref l1, .ref l2, .ref l3, .int k0])), (l1, .inl (cL1, 16, .inl g1)), (l2, .inl (cL2, 16, .inl g2)), (l3, .inl (cL3, 19, .inl g3))] H := hP
      have hD : va_D A [(qu, .inr (4, [.ref qa, .ref qr, .ref qw, .ref s1, .ref s2, .ref s3, .ref s4, .ref s5])), (qr, .inr (5, [.ref qb, .int (nI a2), .int (nI bh), .int (nI u2)])), (qb, .inl (cB, 20000, .inl f)), (qw, .inl (cW, 320, .inl (upd rw (nI (zN ztab_1 k)).toNatClampNeg (nI (zbits f (8 * a + u) 3))))), (s3, .inr (6, [.ref l1, .ref l2, .ref l3, .int k0])), (l1, .inl (cL1, 16, .inl g1)), (l2, .inl (cL2, 16, .inl g2)), (l3, .inl (cL3, 19, .inl g3))] := hD
      refine lv_iinc (k := 1) (v := (nI k) + 1) (lv' := [(2, .int ((nI k) + 1)), (3, .int (nI (zbits f (8 * a + u) 3))), (0, .ref qu), (1, .int (nI n))]) hx hb d_U_readLengthCodes_50 hl rfl rfl (by decide) rfl (fun ls hl => ?_)
      rw [nI_clamp (by omega)] at hP hD
      refine lv_goto (tgt := 13) hx hb d_U_readLengthCodes_53 (by decide) ?_
      rw [nI_1] at hl
      refine ih (k + 1) a2 u2 (upd rw (zN ztab_1 k) (nI (zbits f (8 * a + u) 3))) H locs ls (by omega) (by omega) hu2 (by omega) (fun i hi => ?_) hP hD hS (lv_sub hl [0, 2, 3] rfl)
      simp only [zlr]
      by_cases he : i = zN ztab_1 k
      · rw [he, pk_us, if_pos rfl, hp]
      · rw [pk_un he, if_neg he]; exact hrw i hi
    · skip
      have hp5 := hp5.symm
      subst hp5
      refine lv_if_ge (tgt := 39) hx hb d_U_readLengthCodes_34 (by decide) (fun h => absurd h (by decide)) (fun _ => ?_)
      refine lv_iload_n hx hb d_U_readLengthCodes_37 rfl (lv_at hl 0 rfl) ?_
      exact k38 a2 u2 rw H locs ls (by omega) hu2 ha2 hP hD hS (lv_sub hl [] rfl)
set_option maxHeartbeats 4000000 in
set_option maxRecDepth 100000 in
theorem c_U_len (l : Launch) (D : va_G) (sz : Nat) (qu : Nat) (qw : Nat) (s1 : Nat) (s2 : Nat) (s3 : Nat) (s4 : Nat) (s5 : Nat) (qa : Nat) (qr : Nat) (qb : Nat) (l1 : Nat) (l2 : Nat) (l3 : Nat) (cB : ClassId) (cW : ClassId) (cL1 : ClassId) (cL2 : ClassId) (cL3 : ClassId) (f : Nat → Int32) (bh : Nat) (n : Nat) (k0 : Int32) (g1 : Nat → Int32) (g2 : Nat → Int32) (g3 : Nat → Int32) (rw : Nat → Int32) (a : Nat) (u : Nat) (hbh : bh ≤ 20000) (hn : n ≤ 19) (hu : u ≤ 7) (hau : 8 * a + u ≤ 8 * bh) : Met l y_U_readLengthCodes (Cond.code y_U_readLengthCodes prog_8_method_9_code 4 (Option.some Jvm.ClassFile.FieldType.int) :: zt) { frames := 2, cells := 0, slots := 0, locals := 48 } (zPc [.ref qu, .int (nI n)] D [(qu, .inr (4, [.ref qa, .ref qr, .ref qw, .ref s1, .ref s2, .ref s3, .ref s4, .ref s5])), (qr, .inr (5, [.ref qb, .int (nI a), .int (nI bh), .int (nI u)])), (qb, .inl (cB, 20000, .inl f)), (qw, .inl (cW, 320, .inl rw)), (s3, .inr (6, [.ref l1, .ref l2, .ref l3, .int k0])), (l1, .inl (cL1, 16, .inl g1)), (l2, .inl (cL2, 16, .inl g2)), (l3, .inl (cL3, 19, .inl g3))] [(cB, .byte), (cW, .int), (cL1, .int), (cL2, .int), (cL3, .int)] sz (zXT [(qu, .inr (4, [.ref qa, .ref qr, .ref qw, .ref s1, .ref s2, .ref s3, .ref s4, .ref s5])), (qr, .inr (5, [.ref qb, .int (nI a), .int (nI bh), .int (nI u)])), (qb, .inl (cB, 20000, .inl f)), (qw, .inl (cW, 320, .inl rw)), (s3, .inr (6, [.ref l1, .ref l2, .ref l3, .int k0])), (l1, .inl (cL1, 16, .inl g1)), (l2, .inl (cL2, 16, .inl g2)), (l3, .inl (cL3, 19, .inl g3))])) (va_Qi (fun (r : Int32) => fun (u9 : Nat × Nat × (Nat → Int32) × Int32 × (Nat → Int32) × (Nat → Int32) × (Nat → Int32)) => match u9 with | (a1, u1, rw1, k1, G1, G2, G3) => r = (zlc f bh n (8 * a + u)).1 ∧ u1 ≤ 7 ∧ a1 ≤ 20000 ∧ (r ≠ -30 → 8 * a1 + u1 = (zlc f bh n (8 * a + u)).2 ∧ 8 * a1 + u1 ≤ 8 * bh) ∧ (r = 0 → (∀ l, l ≤ 15 → G1 l = nI (zcn (zlr f (8 * a + u) n) 19 l)) ∧ (∀ i, i < 19 → 1 ≤ (zlr f (8 * a + u) n) i → G3 (zst (zlr f (8 * a + u) n) 19 ((zlr f (8 * a + u) n) i) + zcn (zlr f (8 * a + u) n) i ((zlr f (8 * a + u) n) i)) = nI i) ∧ k1 = nI (zst (zlr f (8 * a + u) n) 19 16))) (fun u9 t => zB D ((fun (u9 : Nat × Nat × (Nat → Int32) × Int32 × (Nat → Int32) × (Nat → Int32) × (Nat → Int32)) => match u9 with | (a1, u1, rw1, k1, G1, G2, G3) => [(qu, .inr (4, [.ref qa, .ref qr, .ref qw, .ref s1, .ref s2, .ref s3, .ref s4, .ref s5])), (qr, .inr (5, [.ref qb, .int (nI a1), .int (nI bh), .int (nI u1)])), (qb, .inl (cB, 20000, .inl f)), (qw, .inl (cW, 320, .inl rw1)), (s3, .inr (6, [.ref l1, .ref l2, .ref l3, .int k1])), (l1, .inl (cL1, 16, .inl G1)), (l2, .inl (cL2, 16, .inl G2)), (l3, .inl (cL3, 19, .inl G3))]) u9) ((fun (u9 : Nat × Nat × (Nat → Int32) × Int32 × (Nat → Int32) × (Nat → Int32) × (Nat → Int32)) => match u9 with | (a1, u1, rw1, k1, G1, G2, G3) => [(cB, .byte), (cW, .int), (cL1, .int), (cL2, .int), (cL3, .int)]) u9) (va_A [(qu, .inr (4, [.ref qa, .ref qr, .ref qw, .ref s1, .ref s2, .ref s3, .ref s4, .ref s5])), (qr, .inr (5, [.ref qb, .int (nI a), .int (nI bh), .int (nI u)])), (qb, .inl (cB, 20000, .inl f)), (qw, .inl (cW, 320, .inl rw)), (s3, .inr (6, [.ref l1, .ref l2, .ref l3, .int k0])), (l1, .inl (cL1, 16, .inl g1)), (l2, .inl (cL2, 16, .inl g2)), (l3, .inl (cL3, 19, .inl g3))] sz) t) (va_A [(qu, .inr (4, [.ref qa, .ref qr, .ref qw, .ref s1, .ref s2, .ref s3, .ref s4, .ref s5])), (qr, .inr (5, [.ref qb, .int (nI a), .int (nI bh), .int (nI u)])), (qb, .inl (cB, 20000, .inl f)), (qw, .inl (cW, 320, .inl rw)), (s3, .inr (6, [.ref l1, .ref l2, .ref l3, .int k0])), (l1, .inl (cL1, 16, .inl g1)), (l2, .inl (cL2, 16, .inl g2)), (l3, .inl (cL3, 19, .inl g3))] sz)) 0 0 (va_A [(qu, .inr (4, [.ref qa, .ref qr, .ref qw, .ref s1, .ref s2, .ref s3, .ref s4, .ref s5])), (qr, .inr (5, [.ref qb, .int (nI a), .int (nI bh), .int (nI u)])), (qb, .inl (cB, 20000, .inl f)), (qw, .inl (cW, 320, .inl rw)), (s3, .inr (6, [.ref l1, .ref l2, .ref l3, .int k0])), (l1, .inl (cL1, 16, .inl g1)), (l2, .inl (cL2, 16, .inl g2)), (l3, .inl (cL3, 19, .inl g3))] sz) :=
  zMetA (Qf := fun A => va_Qi (fun (r : Int32) => fun (u9 : Nat × Nat × (Nat → Int32) × Int32 × (Nat → Int32) × (Nat → Int32) × (Nat → Int32)) => match u9 with | (a1, u1, rw1, k1, G1, G2, G3) => r = (zlc f bh n (8 * a + u)).1 ∧ u1 ≤ 7 ∧ a1 ≤ 20000 ∧ (r ≠ -30 → 8 * a1 + u1 = (zlc f bh n (8 * a + u)).2 ∧ 8 * a1 + u1 ≤ 8 * bh) ∧ (r = 0 → (∀ l, l ≤ 15 → G1 l = nI (zcn (zlr f (8 * a + u) n) 19 l)) ∧ (∀ i, i < 19 → 1 ≤ (zlr f (8 * a + u) n) i → G3 (zst (zlr f (8 * a + u) n) 19 ((zlr f (8 * a + u) n) i) + zcn (zlr f (8 * a + u) n) i ((zlr f (8 * a + u) n) i)) = nI i) ∧ k1 = nI (zst (zlr f (8 * a + u) n) 19 16))) (fun u9 t => zB D ((fun (u9 : Nat × Nat × (Nat → Int32) × Int32 × (Nat → Int32) × (Nat → Int32) × (Nat → Int32)) => match u9 with | (a1, u1, rw1, k1, G1, G2, G3) => [(qu, .inr (4, [.ref qa, .ref qr, .ref qw, .ref s1, .ref s2, .ref s3, .ref s4, .ref s5])), (qr, .inr (5, [.ref qb, .int (nI a1), .int (nI bh), .int (nI u1)])), (qb, .inl (cB, 20000, .inl f)), (qw, .inl (cW, 320, .inl rw1)), (s3, .inr (6, [.ref l1, .ref l2, .ref l3, .int k1])), (l1, .inl (cL1, 16, .inl G1)), (l2, .inl (cL2, 16, .inl G2)), (l3, .inl (cL3, 19, .inl G3))]) u9) ((fun (u9 : Nat × Nat × (Nat → Int32) × Int32 × (Nat → Int32) × (Nat → Int32) × (Nat → Int32)) => match u9 with | (a1, u1, rw1, k1, G1, G2, G3) => [(cB, .byte), (cW, .int), (cL1, .int), (cL2, .int), (cL3, .int)]) u9) A t) A) (by decide) (Nat.le_of_ble_eq_true rfl) (fun p e s m below meth c A ls hx hb hr hml hown ht hlk hnm hA hK hP hD hX hl => by
    have hS : va_S A s.heap s.heap [] := va_S.rf
    have hl : lv_has ls 4 [(0, .ref qu), (1, .int (nI n))] := hl
    refine lv_aload_n hx hb d_U_readLengthCodes_0 rfl (lv_at hl 0 rfl) ?_
    refine va_get (ci := 4) (C := "ZipGuard$Unpacker") (T := F_U) (N := 8) hx hb ht zi_U hown hK hP 0 rfl rfl 2 (by decide) (ht _ zm_372) (fun _ h9 => h9) rfl d_U_readLengthCodes_1 ?_
    refine lv_iconst (v := 0) hx hb d_U_readLengthCodes_4 (by decide) ?_
    refine lv_bipush (v := 19) hx hb d_U_readLengthCodes_5 (by decide) ?_
    refine lv_iconst (v := 0) hx hb d_U_readLengthCodes_7 (by decide) ?_
    refine zjv (wr := [(qu, .inr (4, [.ref qa, .ref qr, .ref qw, .ref s1, .ref s2, .ref s3, .ref s4, .ref s5])), (qr, .inr (5, [.ref qb, .int (nI a), .int (nI bh), .int (nI u)])), (qb, .inl (cB, 20000, .inl f)), (s3, .inr (6, [.ref l1, .ref l2, .ref l3, .int k0])), (l1, .inl (cL1, 16, .inl g1)), (l2, .inl (cL2, 16, .inl g2)), (l3, .inl (cL3, 19, .inl g3))]) (va_runS (As := [.ref qw, .int 0, .int 19, .int 0]) (rest := []) ⟨hx, hb, hml, hown, ht⟩ (c_J_fillr l D _ qw cW 320 rw 0 19 0 (by decide) (by decide) (by decide)) (zcwS 4 ht zm_273 zm_274 zm_73 zm_275 rfl rfl (by decide +kernel) ⟨Nat.le_of_ble_eq_true rfl, Nat.le_of_ble_eq_true rfl⟩) (zpre zBlind_t hK hP hD [3] [1] rfl (by decide) rfl (fun _ _ _ => trivial)) rfl rfl hl.1 rfl (lv_room (Nat.le_of_ble_eq_true rfl)) d_U_readLengthCodes_8 ⟨Nat.le_of_ble_eq_true rfl, Nat.le_of_ble_eq_true rfl⟩) hK hP hD hS hA [3] [0, 1, 2, 4, 5, 6, 7] rfl rfl (by decide) (by decide) (fun u9 H locs hp2 hP hD hK hS => ?_)
    have hP : va_P D zcl [(qu, .inr (4, [.ref qa, .ref qr, .ref qw, .ref s1, .ref s2, .ref s3, .ref s4, .ref s5])), (qr, .inr (5, [.ref qb, .int (nI a), .int (nI bh), .int (nI u)])), (qb, .inl (cB, 20000, .inl f)), (s3, .inr (6, [.ref l1, .ref l2, .ref l3, .int k0])), (l1, .inl (cL1, 16, .inl g1)), (l2, .inl (cL2, 16, .inl g2)), (l3, .inl (cL3, 19, .inl g3)), (qw, .inl (cW, 320, .inl (zfill rw 0 0 19)))] H := hP
    have hD : va_D A [(qu, .inr (4, [.ref qa, .ref qr, .ref qw, .ref s1, .ref s2, .ref s3, .ref s4, .ref s5])), (qr, .inr (5, [.ref qb, .int (nI a), .int (nI bh), .int (nI u)])), (qb, .inl (cB, 20000, .inl f)), (s3, .inr (6, [.ref l1, .ref l2, .ref l3, .int k0])), (l1, .inl (cL1, 16, .inl g1)), (l2, .inl (cL2, 16, .inl g2)), (l3, .inl (cL3, 19, .inl g3)), (qw, .inl (cW, 320, .inl (zfill rw 0 0 19)))] := hD
    have hK : va_K D zcl [(cB, .byte), (cW, .int), (cL1, .int), (cL2, .int), (cL3, .int), (cW, .int)] s := hK
    have hP := hP.sub (ws' := [(qu, .inr (4, [.ref qa, .ref qr, .ref qw, .ref s1, .ref s2, .ref s3, .ref s4, .ref s5])), (qr, .inr (5, [.ref qb, .int (nI a), .int (nI bh), .int (nI u)])), (qb, .inl (cB, 20000, .inl f)), (qw, .inl (cW, 320, .inl (zfill rw 0 0 19))), (s3, .inr (6, [.ref l1, .ref l2, .ref l3, .int k0])), (l1, .inl (cL1, 16, .inl g1)), (l2, .inl (cL2, 16, .inl g2)), (l3, .inl (cL3, 19, .inl g3))]) [0, 1, 2, 7, 3, 4, 5, 6] rfl
    have hD := hD.sub (ws' := [(qu, .inr (4, [.ref qa, .ref qr, .ref qw, .ref s1, .ref s2, .ref s3, .ref s4, .ref s5])), (qr, .inr (5, [.ref qb, .int (nI a), .int (nI bh), .int (nI u)])), (qb, .inl (cB, 20000, .inl f)), (qw, .inl (cW, 320, .inl (zfill rw 0 0 19))), (s3, .inr (6, [.ref l1, .ref l2, .ref l3, .int k0])), (l1, .inl (cL1, 16, .inl g1)), (l2, .inl (cL2, 16, .inl g2)), (l3, .inl (cL3, 19, .inl g3))]) [0, 1, 2, 7, 3, 4, 5, 6] (by decide) rfl
    have hK := hK.sub (tys' := [(cB, .byte), (cW, .int), (cL1, .int), (cL2, .int), (cL3, .int)]) [0, 1, 2, 3, 4] rfl
    refine lv_iconst (v := 0) hx hb d_U_readLengthCodes_11 (by decide) ?_
    refine lv_istore_n (lv' := [(2, .int 0), (0, .ref qu), (1, .int (nI n))]) hx hb d_U_readLengthCodes_12 rfl hl (by decide) rfl (fun ls hl => ?_)
    have hl : lv_has ls 4 [(2, .int (nI 0)), (0, .ref qu), (1, .int (nI n))] := hl
    refine lp_U_len hx hb hml hown ht hA qu qw s1 s2 s3 s4 s5 qa qr qb l1 l2 l3 cB cW cL1 cL2 cL3 f bh n (8 * a + u) k0 g1 g2 g3 hbh hn hX (Nat.le_of_ble_eq_true rfl) (Nat.le_of_ble_eq_true rfl) (Nat.le_of_ble_eq_true rfl) (Nat.le_of_ble_eq_true rfl) hK (fun a1 u1 rw1 H locs ls hlt hu1 ha1 hP hD hS hl => ?_) (fun a1 u1 rw1 H locs ls hp1 hu1 hau1 hrw hP hD hS hl => ?_) n 0 a u (zfill rw 0 0 19) H locs ls (by omega) (by omega) hu hau (fun i hi => by unfold zfill; rw [if_pos (by omega)]; rfl) hP hD hS hl
    · skip
      exact zreti hx hb hr hlk hK hP hD hS (a1, u1, rw1, k0, g1, g2, g3) [0, 1, 2, 3, 4, 5, 6, 7] [0, 1, 2, 3, 4] rfl (by decide) rfl (by unfold zlc; rw [if_pos hlt]; exact ⟨rfl, hu1, ha1, fun h => absurd rfl h, fun h => absurd h (by decide)⟩) (Nat.le_of_ble_eq_true rfl) (Nat.le_of_ble_eq_true rfl) d_U_readLengthCodes_38
    · skip
      refine lv_aload_n hx hb d_U_readLengthCodes_56 rfl (lv_at hl 0 rfl) ?_
      refine va_get (ci := 4) (C := "ZipGuard$Unpacker") (T := F_U) (N := 8) hx hb ht zi_U hown hK hP 0 rfl rfl 5 (by decide) (ht _ zm_375) (fun _ h9 => h9) rfl d_U_readLengthCodes_57 ?_
      refine lv_aload_n hx hb d_U_readLengthCodes_60 rfl (lv_at hl 0 rfl) ?_
      refine va_get (ci := 4) (C := "ZipGuard$Unpacker") (T := F_U) (N := 8) hx hb ht zi_U hown hK hP 0 rfl rfl 2 (by decide) (ht _ zm_372) (fun _ h9 => h9) rfl d_U_readLengthCodes_61 ?_
      refine lv_iconst (v := 0) hx hb d_U_readLengthCodes_64 (by decide) ?_
      refine lv_bipush (v := 19) hx hb d_U_readLengthCodes_65 (by decide) ?_
      refine zjv (wr := [(qu, .inr (4, [.ref qa, .ref qr, .ref qw, .ref s1, .ref s2, .ref s3, .ref s4, .ref s5])), (qr, .inr (5, [.ref qb, .int (nI a1), .int (nI bh), .int (nI u1)])), (qb, .inl (cB, 20000, .inl f))]) (va_runV (As := [.ref qw, .int 0, .int 19]) (rest := []) ⟨hx, hb, hml, hown, ht⟩ (c_C_build l D _ s3 l1 l2 l3 qw cL1 cL2 cL3 cW 19 320 rw1 0 19 (zlr f (8 * a + u) n) k0 g1 g2 g3 (fun k hk => by rw [Nat.zero_add]; exact hrw k hk) (fun k _ => zlr_le f (8 * a + u) n k) (by decide) (by decide) (by decide) (by decide)) (cwV 3 ht (zt_goodV zm_363 zm_364 zm_365 zm_72 zm_366) rfl rfl rfl (by decide +kernel) ⟨Nat.le_of_ble_eq_true rfl, Nat.le_of_ble_eq_true rfl⟩) (zpreV zBlind_t hK hP hD [4, 5, 6, 7, 3] [2, 3, 4, 1] rfl (by decide) rfl (fun _ _ _ => trivial) (va_recv (q := ("ZipGuard$CodeSet", F_C, 4)) hK hP rfl (q0 := 4) (ci := 6) rfl)) rfl rfl hl.1 rfl (lv_room (Nat.le_of_ble_eq_true rfl)) d_U_readLengthCodes_67 ⟨Nat.le_of_ble_eq_true rfl, Nat.le_of_ble_eq_true rfl⟩) hK hP hD hS hA [4, 5, 6, 7, 3] [0, 1, 2] rfl rfl (by decide) (by decide) (fun u9 H locs hp4 hP hD hK hS => ?_)
      obtain ⟨G1, G2, G3⟩ := u9
      dsimp only at hp4 hP hD hK
      have hP : va_P D zcl [(qu, .inr (4, [.ref qa, .ref qr, .ref qw, .ref s1, .ref s2, .ref s3, .ref s4, .ref s5])), (qr, .inr (5, [.ref qb, .int (nI a1), .int (nI bh), .int (nI u1)])), (qb, .inl (cB, 20000, .inl f)), (s3, .inr (6, [.ref l1, .ref l2, .ref l3, .int (nI (zst (zlr f (8 * a + u) n) 19 16))])), (l1, .inl (cL1, 16, .inl G1)), (l2, .inl (cL2, 16, .inl G2)), (l3, .inl (cL3, 19, .inl G3)), (qw, .inl (cW, 320, .inl rw1))] H := hP
      have hD : va_D A [(qu, .inr (4, [.ref qa, .ref qr, .ref qw, .ref s1, .ref s2, .ref s3, .ref s4, .ref s5])), (qr, .inr (5, [.ref qb, .int (nI a1), .int (nI bh), .int (nI u1)])), (qb, .inl (cB, 20000, .inl f)), (s3, .inr (6, [.ref l1, .ref l2, .ref l3, .int (nI (zst (zlr f (8 * a + u) n) 19 16))])), (l1, .inl (cL1, 16, .inl G1)), (l2, .inl (cL2, 16, .inl G2)), (l3, .inl (cL3, 19, .inl G3)), (qw, .inl (cW, 320, .inl rw1))] := hD
      have hK : va_K D zcl [(cB, .byte), (cW, .int), (cL1, .int), (cL2, .int), (cL3, .int), (cL1, .int), (cL2, .int), (cL3, .int), (cW, .int)] s := hK
      have hP := hP.sub (ws' := [(qu, .inr (4, [.ref qa, .ref qr, .ref qw, .ref s1, .ref s2, .ref s3, .ref s4, .ref s5])), (qr, .inr (5, [.ref qb, .int (nI a1), .int (nI bh), .int (nI u1)])), (qb, .inl (cB, 20000, .inl f)), (qw, .inl (cW, 320, .inl rw1)), (s3, .inr (6, [.ref l1, .ref l2, .ref l3, .int (nI (zst (zlr f (8 * a + u) n) 19 16))])), (l1, .inl (cL1, 16, .inl G1)), (l2, .inl (cL2, 16, .inl G2)), (l3, .inl (cL3, 19, .inl G3))]) [0, 1, 2, 7, 3, 4, 5, 6] rfl
      have hD := hD.sub (ws' := [(qu, .inr (4, [.ref qa, .ref qr, .ref qw, .ref s1, .ref s2, .ref s3, .ref s4, .ref s5])), (qr, .inr (5, [.ref qb, .int (nI a1), .int (nI bh), .int (nI u1)])), (qb, .inl (cB, 20000, .inl f)), (qw, .inl (cW, 320, .inl rw1)), (s3, .inr (6, [.ref l1, .ref l2, .ref l3, .int (nI (zst (zlr f (8 * a + u) n) 19 16))])), (l1, .inl (cL1, 16, .inl G1)), (l2, .inl (cL2, 16, .inl G2)), (l3, .inl (cL3, 19, .inl G3))]) [0, 1, 2, 7, 3, 4, 5, 6] (by decide) rfl
      have hK := hK.sub (tys' := [(cB, .byte), (cW, .int), (cL1, .int), (cL2, .int), (cL3, .int)]) [0, 1, 2, 3, 4] rfl
      refine lv_aload_n hx hb d_U_readLengthCodes_70 rfl (lv_at hl 0 rfl) ?_
      refine va_get (ci := 4) (C := "ZipGuard$Unpacker") (T := F_U) (N := 8) hx hb ht zi_U hown hK hP 0 rfl rfl 5 (by decide) (ht _ zm_375) (fun _ h9 => h9) rfl d_U_readLengthCodes_71 ?_
      refine zjR (va_runV (As := []) (rest := []) ⟨hx, hb, hml, hown, ht⟩ (r_C_full l D s3 l1 l2 l3 cL1 G1 (nI (zst (zlr f (8 * a + u) n) 19 16)) (zlr f (8 * a + u) n) 19 hp4.1 (by decide)) (cwV 0 ht (zt_goodV zm_679 zm_680 zm_681 zm_72 zm_682) rfl rfl rfl (by decide +kernel) ⟨Nat.le_of_ble_eq_true rfl, Nat.le_of_ble_eq_true rfl⟩) (zpreRV zBlind_t hK hP [4, 5] [2] rfl rfl (fun _ _ _ => trivial) (va_recv (q := ("ZipGuard$CodeSet", F_C, 4)) hK hP rfl (q0 := 4) (ci := 6) rfl)) rfl rfl hl.1 rfl (lv_room (Nat.le_of_ble_eq_true rfl)) d_U_readLengthCodes_74 ⟨Nat.le_of_ble_eq_true rfl, Nat.le_of_ble_eq_true rfl⟩) (fun r5 hp6 => ?_)
      have hNE : ¬ 8 * bh < 8 * a + u + 3 * n := by omega
      rcases hp6 with ⟨hp6, hf⟩ | ⟨hp6, hf⟩
      · skip
        have hp6 := hp6.symm
        subst hp6
        refine lv_if_eq (tgt := 84) hx hb d_U_readLengthCodes_77 (by decide) (fun h => absurd h (by decide)) (fun _ => ?_)
        refine lv_iconst (v := 0) hx hb d_U_readLengthCodes_80 (by decide) ?_
        refine lv_goto (tgt := 86) hx hb d_U_readLengthCodes_81 (by decide) ?_
        exact zreti hx hb hr hlk hK hP hD hS (a1, u1, rw1, nI (zst (zlr f (8 * a + u) n) 19 16), G1, G2, G3) [0, 1, 2, 3, 4, 5, 6, 7] [0, 1, 2, 3, 4] rfl (by decide) rfl (by unfold zlc; rw [if_neg hNE, if_pos (show zkf (zlr f (8 * a + u) n) 19 16 = 32768 from hf)]; exact ⟨rfl, hu1, by omega, fun _ => ⟨hp1, hau1⟩, fun _ => ⟨hp4.1, hp4.2, rfl⟩⟩) (Nat.le_of_ble_eq_true rfl) (Nat.le_of_ble_eq_true rfl) d_U_readLengthCodes_86
      · skip
        have hp6 := hp6.symm
        subst hp6
        refine lv_if_eq (tgt := 84) hx hb d_U_readLengthCodes_77 (by decide) (fun _ => ?_) (fun h => absurd (by decide) h)
        refine lv_bipush (v := (-33)) hx hb d_U_readLengthCodes_84 (by decide) ?_
        exact zreti hx hb hr hlk hK hP hD hS (a1, u1, rw1, nI (zst (zlr f (8 * a + u) n) 19 16), G1, G2, G3) [0, 1, 2, 3, 4, 5, 6, 7] [0, 1, 2, 3, 4] rfl (by decide) rfl (by unfold zlc; rw [if_neg hNE, if_neg (show ¬ zkf (zlr f (8 * a + u) n) 19 16 = 32768 from hf)]; exact ⟨rfl, hu1, by omega, fun _ => ⟨hp1, hau1⟩, fun h => absurd h (by decide)⟩) (Nat.le_of_ble_eq_true rfl) (Nat.le_of_ble_eq_true rfl) d_U_readLengthCodes_86)
