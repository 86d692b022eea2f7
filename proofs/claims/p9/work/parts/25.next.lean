set_option maxRecDepth 100000 in
theorem zm_71 : Jvm.Cond.initialized "ZipGuard$BitReader" ∈ zt := zt_m1 (List.mem_of_getElem? (i := 7) rfl)
set_option maxRecDepth 100000 in
theorem zm_72 : Jvm.Cond.initialized "ZipGuard$CodeSet" ∈ zt := zt_m1 (List.mem_of_getElem? (i := 8) rfl)
set_option maxRecDepth 100000 in
theorem zm_630 : Jvm.Cond.instanceMethod ({ cls := "ZipGuard$BitReader", name := "read", desc := "(I)I" } : Jvm.MethodName) ∈ zt := zt_m4 (List.mem_of_getElem? (i := 119) rfl)
set_option maxRecDepth 100000 in
theorem zm_631 : Jvm.Cond.selects "ZipGuard$BitReader" ({ cls := "ZipGuard$BitReader", name := "read", desc := "(I)I" } : Jvm.MethodName) ({ cls := "ZipGuard$BitReader", name := "read", desc := "(I)I" } : Jvm.MethodName) ∈ zt := zt_m4 (List.mem_of_getElem? (i := 120) rfl)
set_option maxRecDepth 100000 in
theorem zm_632 : Jvm.Cond.code ({ cls := "ZipGuard$BitReader", name := "read", desc := "(I)I" } : Jvm.MethodName) prog_2_method_3_code (6 : Nat) (Option.some Jvm.ClassFile.FieldType.int) ∈ zt := zt_m4 (List.mem_of_getElem? (i := 121) rfl)
set_option maxRecDepth 100000 in
theorem zm_657 : Jvm.Cond.methodLink "ZipGuard$CodeSet" (34 : Nat) ({ cls := "ZipGuard$BitReader", name := "read", desc := "(I)I" } : Jvm.MethodName) ∈ zt := zt_m4 (List.mem_of_getElem? (i := 146) rfl)
set_option maxRecDepth 100000 in
theorem zm_680 : Jvm.Cond.instanceMethod ({ cls := "ZipGuard$CodeSet", name := "isFull", desc := "()Z" } : Jvm.MethodName) ∈ zt := zt_m4 (List.mem_of_getElem? (i := 169) rfl)
set_option maxRecDepth 100000 in
theorem zm_681 : Jvm.Cond.selects "ZipGuard$CodeSet" ({ cls := "ZipGuard$CodeSet", name := "isFull", desc := "()Z" } : Jvm.MethodName) ({ cls := "ZipGuard$CodeSet", name := "isFull", desc := "()Z" } : Jvm.MethodName) ∈ zt := zt_m4 (List.mem_of_getElem? (i := 170) rfl)
set_option maxRecDepth 100000 in
theorem zm_682 : Jvm.Cond.code ({ cls := "ZipGuard$CodeSet", name := "isFull", desc := "()Z" } : Jvm.MethodName) prog_3_method_3_code (3 : Nat) (Option.some Jvm.ClassFile.FieldType.boolean) ∈ zt := zt_m4 (List.mem_of_getElem? (i := 171) rfl)
set_option maxRecDepth 100000 in
theorem zm_683 : Jvm.Cond.constant "ZipGuard$CodeSet" (29 : Nat) (32768 : Int32) ∈ zt := zt_m4 (List.mem_of_getElem? (i := 172) rfl)
set_option maxRecDepth 100000 in
theorem zm_697 : Jvm.Cond.methodLink "ZipGuard$CodeSet" (30 : Nat) ({ cls := "ZipGuard$CodeSet", name := "isFull", desc := "()Z" } : Jvm.MethodName) ∈ zt := zt_m4 (List.mem_of_getElem? (i := 186) rfl)
theorem d_C_isFull_0 : decode prog_3_method_3_code 0 = .ok (.iconst 0, 1) := by decide +kernel
theorem d_C_isFull_1 : decode prog_3_method_3_code 1 = .ok (.istore_n 1, 1) := by decide +kernel
theorem d_C_isFull_2 : decode prog_3_method_3_code 2 = .ok (.iconst 1, 1) := by decide +kernel
theorem d_C_isFull_3 : decode prog_3_method_3_code 3 = .ok (.istore_n 2, 1) := by decide +kernel
theorem d_C_isFull_4 : decode prog_3_method_3_code 4 = .ok (.iload_n 2, 1) := by decide +kernel
theorem d_C_isFull_5 : decode prog_3_method_3_code 5 = .ok (.bipush 15, 2) := by decide +kernel
theorem d_C_isFull_7 : decode prog_3_method_3_code 7 = .ok (.if_icmp .gt 23, 3) := by decide +kernel
theorem d_C_isFull_10 : decode prog_3_method_3_code 10 = .ok (.iload_n 1, 1) := by decide +kernel
theorem d_C_isFull_11 : decode prog_3_method_3_code 11 = .ok (.aload_n 0, 1) := by decide +kernel
theorem d_C_isFull_12 : decode prog_3_method_3_code 12 = .ok (.getfield 9, 3) := by decide +kernel
theorem d_C_isFull_15 : decode prog_3_method_3_code 15 = .ok (.iload_n 2, 1) := by decide +kernel
theorem d_C_isFull_16 : decode prog_3_method_3_code 16 = .ok (.iaload, 1) := by decide +kernel
theorem d_C_isFull_17 : decode prog_3_method_3_code 17 = .ok (.bipush 15, 2) := by decide +kernel
theorem d_C_isFull_19 : decode prog_3_method_3_code 19 = .ok (.iload_n 2, 1) := by decide +kernel
theorem d_C_isFull_20 : decode prog_3_method_3_code 20 = .ok (.isub, 1) := by decide +kernel
theorem d_C_isFull_21 : decode prog_3_method_3_code 21 = .ok (.ishl, 1) := by decide +kernel
theorem d_C_isFull_22 : decode prog_3_method_3_code 22 = .ok (.iadd, 1) := by decide +kernel
theorem d_C_isFull_23 : decode prog_3_method_3_code 23 = .ok (.istore_n 1, 1) := by decide +kernel
theorem d_C_isFull_24 : decode prog_3_method_3_code 24 = .ok (.iinc 2 1, 3) := by decide +kernel
theorem d_C_isFull_27 : decode prog_3_method_3_code 27 = .ok (.goto (-23), 3) := by decide +kernel
theorem d_C_isFull_30 : decode prog_3_method_3_code 30 = .ok (.iload_n 1, 1) := by decide +kernel
theorem d_C_isFull_31 : decode prog_3_method_3_code 31 = .ok (.ldc 29, 2) := by decide +kernel
theorem d_C_isFull_33 : decode prog_3_method_3_code 33 = .ok (.if_icmp .ne 7, 3) := by decide +kernel
theorem d_C_isFull_36 : decode prog_3_method_3_code 36 = .ok (.iconst 1, 1) := by decide +kernel
theorem d_C_isFull_37 : decode prog_3_method_3_code 37 = .ok (.goto 4, 3) := by decide +kernel
theorem d_C_isFull_40 : decode prog_3_method_3_code 40 = .ok (.iconst 0, 1) := by decide +kernel
theorem d_C_isFull_41 : decode prog_3_method_3_code 41 = .ok (.ireturn, 1) := by decide +kernel
theorem d_C_isRightForDistances_0 : decode prog_3_method_4_code 0 = .ok (.aload_n 0, 1) := by decide +kernel
theorem d_C_isRightForDistances_1 : decode prog_3_method_4_code 1 = .ok (.invokevirtual 30, 3) := by decide +kernel
theorem d_C_isRightForDistances_4 : decode prog_3_method_4_code 4 = .ok (.ifCond .ne 28, 3) := by decide +kernel
theorem d_C_isRightForDistances_7 : decode prog_3_method_4_code 7 = .ok (.aload_n 0, 1) := by decide +kernel
theorem d_C_isRightForDistances_8 : decode prog_3_method_4_code 8 = .ok (.getfield 19, 3) := by decide +kernel
theorem d_C_isRightForDistances_11 : decode prog_3_method_4_code 11 = .ok (.ifCond .eq 21, 3) := by decide +kernel
theorem d_C_isRightForDistances_14 : decode prog_3_method_4_code 14 = .ok (.aload_n 0, 1) := by decide +kernel
theorem d_C_isRightForDistances_15 : decode prog_3_method_4_code 15 = .ok (.getfield 19, 3) := by decide +kernel
theorem d_C_isRightForDistances_18 : decode prog_3_method_4_code 18 = .ok (.iconst 1, 1) := by decide +kernel
theorem d_C_isRightForDistances_19 : decode prog_3_method_4_code 19 = .ok (.if_icmp .ne 17, 3) := by decide +kernel
theorem d_C_isRightForDistances_22 : decode prog_3_method_4_code 22 = .ok (.aload_n 0, 1) := by decide +kernel
theorem d_C_isRightForDistances_23 : decode prog_3_method_4_code 23 = .ok (.getfield 9, 3) := by decide +kernel
theorem d_C_isRightForDistances_26 : decode prog_3_method_4_code 26 = .ok (.iconst 1, 1) := by decide +kernel
theorem d_C_isRightForDistances_27 : decode prog_3_method_4_code 27 = .ok (.iaload, 1) := by decide +kernel
theorem d_C_isRightForDistances_28 : decode prog_3_method_4_code 28 = .ok (.iconst 1, 1) := by decide +kernel
theorem d_C_isRightForDistances_29 : decode prog_3_method_4_code 29 = .ok (.if_icmp .ne 7, 3) := by decide +kernel
theorem d_C_isRightForDistances_32 : decode prog_3_method_4_code 32 = .ok (.iconst 1, 1) := by decide +kernel
theorem d_C_isRightForDistances_33 : decode prog_3_method_4_code 33 = .ok (.goto 4, 3) := by decide +kernel
theorem d_C_isRightForDistances_36 : decode prog_3_method_4_code 36 = .ok (.iconst 0, 1) := by decide +kernel
theorem d_C_isRightForDistances_37 : decode prog_3_method_4_code 37 = .ok (.ireturn, 1) := by decide +kernel
theorem d_C_nextSymbol_0 : decode prog_3_method_5_code 0 = .ok (.iconst 0, 1) := by decide +kernel
theorem d_C_nextSymbol_1 : decode prog_3_method_5_code 1 = .ok (.istore_n 2, 1) := by decide +kernel
theorem d_C_nextSymbol_2 : decode prog_3_method_5_code 2 = .ok (.iconst 0, 1) := by decide +kernel
theorem d_C_nextSymbol_3 : decode prog_3_method_5_code 3 = .ok (.istore_n 3, 1) := by decide +kernel
theorem d_C_nextSymbol_4 : decode prog_3_method_5_code 4 = .ok (.iconst 0, 1) := by decide +kernel
theorem d_C_nextSymbol_5 : decode prog_3_method_5_code 5 = .ok (.istore 4, 2) := by decide +kernel
theorem d_C_nextSymbol_7 : decode prog_3_method_5_code 7 = .ok (.iconst 1, 1) := by decide +kernel
theorem d_C_nextSymbol_8 : decode prog_3_method_5_code 8 = .ok (.istore 5, 2) := by decide +kernel
theorem d_C_nextSymbol_10 : decode prog_3_method_5_code 10 = .ok (.iload 5, 2) := by decide +kernel
theorem d_C_nextSymbol_12 : decode prog_3_method_5_code 12 = .ok (.bipush 15, 2) := by decide +kernel
theorem d_C_nextSymbol_14 : decode prog_3_method_5_code 14 = .ok (.if_icmp .gt 97, 3) := by decide +kernel
theorem d_C_nextSymbol_17 : decode prog_3_method_5_code 17 = .ok (.aload_n 1, 1) := by decide +kernel
theorem d_C_nextSymbol_18 : decode prog_3_method_5_code 18 = .ok (.iconst 1, 1) := by decide +kernel
theorem d_C_nextSymbol_19 : decode prog_3_method_5_code 19 = .ok (.invokevirtual 34, 3) := by decide +kernel
theorem d_C_nextSymbol_22 : decode prog_3_method_5_code 22 = .ok (.istore 6, 2) := by decide +kernel
theorem d_C_nextSymbol_24 : decode prog_3_method_5_code 24 = .ok (.iload 6, 2) := by decide +kernel
theorem d_C_nextSymbol_26 : decode prog_3_method_5_code 26 = .ok (.ifCond .ge 6, 3) := by decide +kernel
theorem d_C_nextSymbol_29 : decode prog_3_method_5_code 29 = .ok (.iload 6, 2) := by decide +kernel
theorem d_C_nextSymbol_31 : decode prog_3_method_5_code 31 = .ok (.ireturn, 1) := by decide +kernel
theorem d_C_nextSymbol_32 : decode prog_3_method_5_code 32 = .ok (.iload_n 2, 1) := by decide +kernel
theorem d_C_nextSymbol_33 : decode prog_3_method_5_code 33 = .ok (.iconst 1, 1) := by decide +kernel
theorem d_C_nextSymbol_34 : decode prog_3_method_5_code 34 = .ok (.ishl, 1) := by decide +kernel
theorem d_C_nextSymbol_35 : decode prog_3_method_5_code 35 = .ok (.iload 6, 2) := by decide +kernel
theorem d_C_nextSymbol_37 : decode prog_3_method_5_code 37 = .ok (.ior, 1) := by decide +kernel
theorem d_C_nextSymbol_38 : decode prog_3_method_5_code 38 = .ok (.istore_n 2, 1) := by decide +kernel
theorem d_C_nextSymbol_39 : decode prog_3_method_5_code 39 = .ok (.iload_n 3, 1) := by decide +kernel
theorem d_C_nextSymbol_40 : decode prog_3_method_5_code 40 = .ok (.iconst 1, 1) := by decide +kernel
theorem d_C_nextSymbol_41 : decode prog_3_method_5_code 41 = .ok (.ishl, 1) := by decide +kernel
theorem d_C_nextSymbol_42 : decode prog_3_method_5_code 42 = .ok (.istore_n 3, 1) := by decide +kernel
theorem d_C_nextSymbol_43 : decode prog_3_method_5_code 43 = .ok (.iload_n 2, 1) := by decide +kernel
theorem d_C_nextSymbol_44 : decode prog_3_method_5_code 44 = .ok (.iload_n 3, 1) := by decide +kernel
theorem d_C_nextSymbol_45 : decode prog_3_method_5_code 45 = .ok (.isub, 1) := by decide +kernel
theorem d_C_nextSymbol_46 : decode prog_3_method_5_code 46 = .ok (.istore 7, 2) := by decide +kernel
theorem d_C_nextSymbol_48 : decode prog_3_method_5_code 48 = .ok (.iload 7, 2) := by decide +kernel
theorem d_C_nextSymbol_50 : decode prog_3_method_5_code 50 = .ok (.aload_n 0, 1) := by decide +kernel
theorem d_C_nextSymbol_51 : decode prog_3_method_5_code 51 = .ok (.getfield 9, 3) := by decide +kernel
theorem d_C_nextSymbol_54 : decode prog_3_method_5_code 54 = .ok (.iload 5, 2) := by decide +kernel
theorem d_C_nextSymbol_56 : decode prog_3_method_5_code 56 = .ok (.iaload, 1) := by decide +kernel
theorem d_C_nextSymbol_57 : decode prog_3_method_5_code 57 = .ok (.if_icmp .ge 14, 3) := by decide +kernel
theorem d_C_nextSymbol_60 : decode prog_3_method_5_code 60 = .ok (.aload_n 0, 1) := by decide +kernel
theorem d_C_nextSymbol_61 : decode prog_3_method_5_code 61 = .ok (.getfield 16, 3) := by decide +kernel
theorem d_C_nextSymbol_64 : decode prog_3_method_5_code 64 = .ok (.iload 4, 2) := by decide +kernel
theorem d_C_nextSymbol_66 : decode prog_3_method_5_code 66 = .ok (.iload 7, 2) := by decide +kernel
theorem d_C_nextSymbol_68 : decode prog_3_method_5_code 68 = .ok (.iadd, 1) := by decide +kernel
theorem d_C_nextSymbol_69 : decode prog_3_method_5_code 69 = .ok (.iaload, 1) := by decide +kernel
theorem d_C_nextSymbol_70 : decode prog_3_method_5_code 70 = .ok (.ireturn, 1) := by decide +kernel
theorem d_C_nextSymbol_71 : decode prog_3_method_5_code 71 = .ok (.iload_n 3, 1) := by decide +kernel
theorem d_C_nextSymbol_72 : decode prog_3_method_5_code 72 = .ok (.aload_n 0, 1) := by decide +kernel
theorem d_C_nextSymbol_73 : decode prog_3_method_5_code 73 = .ok (.getfield 9, 3) := by decide +kernel
theorem d_C_nextSymbol_76 : decode prog_3_method_5_code 76 = .ok (.iload 5, 2) := by decide +kernel
theorem d_C_nextSymbol_78 : decode prog_3_method_5_code 78 = .ok (.iaload, 1) := by decide +kernel
theorem d_C_nextSymbol_79 : decode prog_3_method_5_code 79 = .ok (.iadd, 1) := by decide +kernel
theorem d_C_nextSymbol_80 : decode prog_3_method_5_code 80 = .ok (.istore_n 3, 1) := by decide +kernel
theorem d_C_nextSymbol_81 : decode prog_3_method_5_code 81 = .ok (.iload 4, 2) := by decide +kernel
theorem d_C_nextSymbol_83 : decode prog_3_method_5_code 83 = .ok (.aload_n 0, 1) := by decide +kernel
theorem d_C_nextSymbol_84 : decode prog_3_method_5_code 84 = .ok (.getfield 9, 3) := by decide +kernel
theorem d_C_nextSymbol_87 : decode prog_3_method_5_code 87 = .ok (.iload 5, 2) := by decide +kernel
theorem d_C_nextSymbol_89 : decode prog_3_method_5_code 89 = .ok (.iaload, 1) := by decide +kernel
theorem d_C_nextSymbol_90 : decode prog_3_method_5_code 90 = .ok (.iadd, 1) := by decide +kernel
theorem d_C_nextSymbol_91 : decode prog_3_method_5_code 91 = .ok (.istore 4, 2) := by decide +kernel
theorem d_C_nextSymbol_93 : decode prog_3_method_5_code 93 = .ok (.iload 4, 2) := by decide +kernel
theorem d_C_nextSymbol_95 : decode prog_3_method_5_code 95 = .ok (.aload_n 0, 1) := by decide +kernel
theorem d_C_nextSymbol_96 : decode prog_3_method_5_code 96 = .ok (.getfield 19, 3) := by decide +kernel
theorem d_C_nextSymbol_99 : decode prog_3_method_5_code 99 = .ok (.if_icmp .lt 6, 3) := by decide +kernel
theorem d_C_nextSymbol_102 : decode prog_3_method_5_code 102 = .ok (.bipush (-34), 2) := by decide +kernel
theorem d_C_nextSymbol_104 : decode prog_3_method_5_code 104 = .ok (.ireturn, 1) := by decide +kernel
theorem d_C_nextSymbol_105 : decode prog_3_method_5_code 105 = .ok (.iinc 5 1, 3) := by decide +kernel
theorem d_C_nextSymbol_108 : decode prog_3_method_5_code 108 = .ok (.goto (-98), 3) := by decide +kernel
theorem d_C_nextSymbol_111 : decode prog_3_method_5_code 111 = .ok (.bipush (-34), 2) := by decide +kernel
theorem d_C_nextSymbol_113 : decode prog_3_method_5_code 113 = .ok (.ireturn, 1) := by decide +kernel
set_option maxHeartbeats 4000000 in
set_option maxRecDepth 100000 in
theorem rl_C_full {p : Program} {l : Launch} {e : Env} {R : Room} {s : State} {m : MethodId} {args : Array Value} {below : List Frame} {meth : Method} {c : Code} {cells slots : Nat} {Q : State → Prop} {D : va_G} {H : Heap} {locs : List Loc} (hx : p.tables.exec = Jvm.exec) (hb : c.code = prog_3_method_3_code) (hml : c.maxLocals = 3) (hown : s.vm.findClass "ZipGuard$CodeSet" = some m.cls) (ht : ∀ w ∈ zt, w.before args s = true) (hcc : cells + 0 ≤ R.cells) (hss : slots + 0 ≤ R.slots) (qc : Nat) (c1 : Nat) (c2 : Nat) (c3 : Nat) (cC1 : ClassId) (g1 : Nat → Int32) (k0 : Int32) (d : Nat → Nat) (n : Nat) (hG : ∀ l, l ≤ 15 → g1 l = nI (zcn d n l)) (hn : n ≤ 320) (hK : va_K D zcl [(cC1, .int)] s) (hP : va_P D zcl [(qc, .inr (6, [.ref c1, .ref c2, .ref c3, .int k0])), (c1, .inl (cC1, 16, .inl g1))] H)
    (k1 : ∀  (ls : Array Slot), lv_has ls 3 [(1, .int (nI (zkf d n 16)))] → W p l e R s m args below meth c H locs cells slots Q (F0 m 30 ls [])) :
    ∀ (j : Nat) (k : Nat) (ls : Array Slot), (k + j = 16) → (1 ≤ k) → lv_has ls 3 [(2, .int (nI k)), (1, .int (nI (zkf d n k))), (0, .ref qc)] → W p l e R s m args below meth c H locs cells slots Q (F0 m 4 ls []) := by
  intro j
  induction j with
  | zero =>
    intro k ls hk hk1 hl
    have hk : k = 16 := by omega
    subst hk
    refine lv_iload_n hx hb d_C_isFull_4 rfl (lv_at hl 0 rfl) ?_
    refine lv_bipush (v := 15) hx hb d_C_isFull_5 (by decide) ?_
    refine lv_icmp_gt (tgt := 30) hx hb d_C_isFull_7 (by decide) (fun _ => ?_) (fun h => absurd (by decide +kernel) h)
    exact k1 ls (lv_sub hl [1] rfl)
  | succ j ih =>
    intro k ls hk hk1 hl
    refine lv_iload_n hx hb d_C_isFull_4 rfl (lv_at hl 0 rfl) ?_
    refine lv_bipush (v := 15) hx hb d_C_isFull_5 (by decide) ?_
    refine lv_icmp_gt (tgt := 30) hx hb d_C_isFull_7 (by decide) (fun h => absurd h (show ¬ nI 15 < nI k from nI_nlt (by omega) (by omega))) (fun _ => ?_)
    refine lv_iload_n hx hb d_C_isFull_10 rfl (lv_at hl 1 rfl) ?_
    refine lv_aload_n hx hb d_C_isFull_11 rfl (lv_at hl 2 rfl) ?_
    refine va_get (ci := 6) (C := "ZipGuard$CodeSet") (T := F_C) (N := 4) hx hb ht zi_C hown hK hP 0 rfl rfl 0 (by decide) (ht _ zm_256) (fun _ h9 => h9) rfl d_C_isFull_12 ?_
    refine lv_iload_n hx hb d_C_isFull_15 rfl (lv_at hl 0 rfl) ?_
    refine va_iald hx hb hK hP 1 0 rfl rfl (vp_in_nI (by omega) (by omega)) d_C_isFull_16 ?_
    refine lv_topi (fun x3 e_x3 => ?_)
    have e_x3 : x3 = nI (zcn d n k) := by rw [e_x3, nI_clamp (by omega)]; exact hG k (by omega)
    subst e_x3
    refine lv_bipush (v := 15) hx hb d_C_isFull_17 (by decide) ?_
    refine lv_iload_n hx hb d_C_isFull_19 rfl (lv_at hl 0 rfl) ?_
    refine lv_isub hx hb d_C_isFull_20 ?_
    refine lv_topi (fun x4 e_x4 => ?_)
    have e_x4 : x4 = nI (15 - k) := by rw [e_x4]; exact (show nI 15 - nI k = nI (15 - k) from pk_sub (by omega))
    subst e_x4
    refine lv_ishl hx hb d_C_isFull_21 ?_
    refine lv_topi (fun x5 e_x5 => ?_)
    have e_x5 : x5 = nI (zcn d n k * 2 ^ (15 - k)) := by rw [e_x5]; exact zshl (by omega) (zcnS d hn)
    subst e_x5
    refine lv_iadd hx hb d_C_isFull_22 ?_
    refine lv_topi (fun x6 e_x6 => ?_)
    have e_x6 : x6 = nI (zkf d n (k + 1)) := by rw [e_x6, nI_add]; simp only [zkf]; rw [if_neg (by omega)]
    subst e_x6
    refine lv_istore_n (lv' := [(1, .int (nI (zkf d n (k + 1)))), (2, .int (nI k)), (0, .ref qc)]) hx hb d_C_isFull_23 rfl hl (by decide) rfl (fun ls hl => ?_)
    refine lv_iinc (k := 1) (v := (nI k) + 1) (lv' := [(2, .int ((nI k) + 1)), (1, .int (nI (zkf d n (k + 1)))), (0, .ref qc)]) hx hb d_C_isFull_24 hl rfl rfl (by decide) rfl (fun ls hl => ?_)
    refine lv_goto (tgt := 4) hx hb d_C_isFull_27 (by decide) ?_
    rw [nI_1] at hl
    exact ih (k + 1) ls (by omega) (by omega) (lv_sub hl [0, 1, 2] rfl)
set_option maxHeartbeats 4000000 in
set_option maxRecDepth 100000 in
theorem r_C_full (l : Launch) (D : va_G) (qc : Nat) (c1 : Nat) (c2 : Nat) (c3 : Nat) (cC1 : ClassId) (g1 : Nat → Int32) (k0 : Int32) (d : Nat → Nat) (n : Nat) (hG : ∀ l, l ≤ 15 → g1 l = nI (zcn d n l)) (hn : n ≤ 320) : Met l y_C_isFull (Cond.code y_C_isFull prog_3_method_3_code 3 (Option.some Jvm.ClassFile.FieldType.boolean) :: zt) { frames := 0, cells := 0, slots := 0, locals := 0 } (zPcR [.ref qc] D [(qc, .inr (6, [.ref c1, .ref c2, .ref c3, .int k0])), (c1, .inl (cC1, 16, .inl g1))] [(cC1, .int)] (fun _ => True)) (zQR (fun (r : Int32) => (r = 1 ∧ zFull d n) ∨ (r = 0 ∧ ¬ zFull d n))) 0 0 (fun _ => False) :=
  zMetR (by decide) (Nat.le_of_ble_eq_true rfl) (fun p e s m below meth c ls hx hb hr hml hown ht hlk hK hP hX hl => by
    have hl : lv_has ls 3 [(0, .ref qc)] := hl
    refine lv_iconst (v := 0) hx hb d_C_isFull_0 (by decide) ?_
    refine lv_istore_n (lv' := [(1, .int 0), (0, .ref qc)]) hx hb d_C_isFull_1 rfl hl (by decide) rfl (fun ls hl => ?_)
    refine lv_iconst (v := 1) hx hb d_C_isFull_2 (by decide) ?_
    refine lv_istore_n (lv' := [(2, .int 1), (1, .int 0), (0, .ref qc)]) hx hb d_C_isFull_3 rfl hl (by decide) rfl (fun ls hl => ?_)
    have hkb : zkf d n 16 < 2 ^ 31 := by have h1 := zkf_le d n 16; have h2 := zst_le d 16 n; omega
    refine rl_C_full hx hb hml hown ht (Nat.le_of_ble_eq_true rfl) (Nat.le_of_ble_eq_true rfl) qc c1 c2 c3 cC1 g1 k0 d n hG hn hK hP (fun ls hl => ?_) 15 1 ls (by omega) (by omega) hl
    refine lv_iload_n hx hb d_C_isFull_30 rfl (lv_at hl 0 rfl) ?_
    refine lv_ldc (v := 32768) hx hb hown (ht _ zm_683) d_C_isFull_31 ?_
    by_cases hf : zFull d n
    · skip
      refine lv_icmp_ne (tgt := 40) hx hb d_C_isFull_33 (by decide) (fun h => absurd (show nI (zkf d n 16) = nI 32768 from by rw [show zkf d n 16 = 32768 from hf]) h) (fun _ => ?_)
      refine lv_iconst (v := 1) hx hb d_C_isFull_36 (by decide) ?_
      refine lv_goto (tgt := 41) hx hb d_C_isFull_37 (by decide) ?_
      exact zretRz hx hb hr hlk (Or.inl ⟨rfl, hf⟩) rfl d_C_isFull_41
    · skip
      refine lv_icmp_ne (tgt := 40) hx hb d_C_isFull_33 (by decide) (fun _ => ?_) (fun h => absurd h (show ¬ nI (zkf d n 16) = nI 32768 from fun h => hf ((nI_eq hkb (by decide)).mp h)))
      refine lv_iconst (v := 0) hx hb d_C_isFull_40 (by decide) ?_
      exact zretRz hx hb hr hlk (Or.inr ⟨rfl, hf⟩) rfl d_C_isFull_41)
set_option maxHeartbeats 4000000 in
set_option maxRecDepth 100000 in
theorem r_C_rig (l : Launch) (D : va_G) (qc : Nat) (c1 : Nat) (c2 : Nat) (c3 : Nat) (cC1 : ClassId) (g1 : Nat → Int32) (d : Nat → Nat) (n : Nat) (hG : ∀ l, l ≤ 15 → g1 l = nI (zcn d n l)) (hn : n ≤ 320) : Met l y_C_isRightForDistances (Cond.code y_C_isRightForDistances prog_3_method_4_code 1 (Option.some Jvm.ClassFile.FieldType.boolean) :: zt) { frames := 1, cells := 0, slots := 0, locals := 22 } (zPcR [.ref qc] D [(qc, .inr (6, [.ref c1, .ref c2, .ref c3, .int (nI (zst d n 16))])), (c1, .inl (cC1, 16, .inl g1))] [(cC1, .int)] (fun _ => True)) (zQR (fun (r : Int32) => (r = 1 ∧ (zFull d n ∨ zst d n 16 = 0 ∨ (zst d n 16 = 1 ∧ zcn d n 1 = 1))) ∨ (r = 0 ∧ ¬ (zFull d n ∨ zst d n 16 = 0 ∨ (zst d n 16 = 1 ∧ zcn d n 1 = 1))))) 0 0 (fun _ => False) :=
  zMetR (by decide) (Nat.le_of_ble_eq_true rfl) (fun p e s m below meth c ls hx hb hr hml hown ht hlk hK hP hX hl => by
    have hl : lv_has ls 1 [(0, .ref qc)] := hl
    refine lv_aload_n hx hb d_C_isRightForDistances_0 rfl (lv_at hl 0 rfl) ?_
    refine zjR (va_runV (As := []) (rest := []) ⟨hx, hb, hml, hown, ht⟩ (r_C_full l D qc c1 c2 c3 cC1 g1 (nI (zst d n 16)) d n hG hn) (cwV 0 ht (zt_goodV zm_697 zm_680 zm_681 zm_72 zm_682) rfl rfl rfl (by decide +kernel) ⟨Nat.le_of_ble_eq_true rfl, Nat.le_of_ble_eq_true rfl⟩) (zpreRV zBlind_t hK hP [0, 1] [0] rfl rfl (fun _ _ _ => trivial) (va_recv (q := ("ZipGuard$CodeSet", F_C, 4)) hK hP rfl (q0 := 0) (ci := 6) rfl)) rfl rfl hl.1 rfl (lv_room (Nat.le_of_ble_eq_true rfl)) d_C_isRightForDistances_1 ⟨Nat.le_of_ble_eq_true rfl, Nat.le_of_ble_eq_true rfl⟩) (fun r1 hp2 => ?_)
    have hz := zst_le d 16 n
    have hc := zcn_le d 1 n
    rcases hp2 with ⟨hp2, hf⟩ | ⟨hp2, hf⟩
    · skip
      have hp2 := hp2.symm
      subst hp2
      refine lv_if_ne (tgt := 32) hx hb d_C_isRightForDistances_4 (by decide) (fun _ => ?_) (fun h => absurd h (by decide))
      refine lv_iconst (v := 1) hx hb d_C_isRightForDistances_32 (by decide) ?_
      refine lv_goto (tgt := 37) hx hb d_C_isRightForDistances_33 (by decide) ?_
      exact zretRz hx hb hr hlk (Or.inl ⟨rfl, Or.inl hf⟩) rfl d_C_isRightForDistances_37
    · skip
      have hp2 := hp2.symm
      subst hp2
      refine lv_if_ne (tgt := 32) hx hb d_C_isRightForDistances_4 (by decide) (fun h => absurd (by decide) h) (fun _ => ?_)
      refine lv_aload_n hx hb d_C_isRightForDistances_7 rfl (lv_at hl 0 rfl) ?_
      refine va_get (ci := 6) (C := "ZipGuard$CodeSet") (T := F_C) (N := 4) hx hb ht zi_C hown hK hP 0 rfl rfl 3 (by decide) (ht _ zm_259) (fun _ h9 => h9) rfl d_C_isRightForDistances_8 ?_
      by_cases h0 : zst d n 16 = 0
      · skip
        refine lv_if_eq (tgt := 32) hx hb d_C_isRightForDistances_11 (by decide) (fun _ => ?_) (fun h => absurd (by rw [h0]; rfl) h)
        refine lv_iconst (v := 1) hx hb d_C_isRightForDistances_32 (by decide) ?_
        refine lv_goto (tgt := 37) hx hb d_C_isRightForDistances_33 (by decide) ?_
        exact zretRz hx hb hr hlk (Or.inl ⟨rfl, Or.inr (Or.inl h0)⟩) rfl d_C_isRightForDistances_37
      · skip
        refine lv_if_eq (tgt := 32) hx hb d_C_isRightForDistances_11 (by decide) (fun h => absurd h (nI_ne0 (by omega) (by omega))) (fun _ => ?_)
        refine lv_aload_n hx hb d_C_isRightForDistances_14 rfl (lv_at hl 0 rfl) ?_
        refine va_get (ci := 6) (C := "ZipGuard$CodeSet") (T := F_C) (N := 4) hx hb ht zi_C hown hK hP 0 rfl rfl 3 (by decide) (ht _ zm_259) (fun _ h9 => h9) rfl d_C_isRightForDistances_15 ?_
        refine lv_iconst (v := 1) hx hb d_C_isRightForDistances_18 (by decide) ?_
        by_cases h1 : zst d n 16 = 1
        · skip
          refine lv_icmp_ne (tgt := 36) hx hb d_C_isRightForDistances_19 (by decide) (fun h => absurd (show nI (zst d n 16) = nI 1 from by rw [h1]) h) (fun _ => ?_)
          refine lv_aload_n hx hb d_C_isRightForDistances_22 rfl (lv_at hl 0 rfl) ?_
          refine va_get (ci := 6) (C := "ZipGuard$CodeSet") (T := F_C) (N := 4) hx hb ht zi_C hown hK hP 0 rfl rfl 0 (by decide) (ht _ zm_256) (fun _ h9 => h9) rfl d_C_isRightForDistances_23 ?_
          refine lv_iconst (v := 1) hx hb d_C_isRightForDistances_26 (by decide) ?_
          refine va_iald hx hb hK hP 1 0 rfl rfl (by unfold vp_in; decide) d_C_isRightForDistances_27 ?_
          refine lv_topi (fun x8 e_x8 => ?_)
          have e_x8 : x8 = nI (zcn d n 1) := by rw [e_x8]; exact hG 1 (by decide)
          subst e_x8
          refine lv_iconst (v := 1) hx hb d_C_isRightForDistances_28 (by decide) ?_
          by_cases h2 : zcn d n 1 = 1
          · skip
            refine lv_icmp_ne (tgt := 36) hx hb d_C_isRightForDistances_29 (by decide) (fun h => absurd (show nI (zcn d n 1) = nI 1 from by rw [h2]) h) (fun _ => ?_)
            refine lv_iconst (v := 1) hx hb d_C_isRightForDistances_32 (by decide) ?_
            refine lv_goto (tgt := 37) hx hb d_C_isRightForDistances_33 (by decide) ?_
            exact zretRz hx hb hr hlk (Or.inl ⟨rfl, Or.inr (Or.inr ⟨h1, h2⟩)⟩) rfl d_C_isRightForDistances_37
          · skip
            refine lv_icmp_ne (tgt := 36) hx hb d_C_isRightForDistances_29 (by decide) (fun _ => ?_) (fun h => absurd h (show ¬ nI (zcn d n 1) = nI 1 from fun h => h2 ((nI_eq (by omega) (by decide)).mp h)))
            refine lv_iconst (v := 0) hx hb d_C_isRightForDistances_36 (by decide) ?_
            exact zretRz hx hb hr hlk (Or.inr ⟨rfl, fun h => h.elim hf (fun h => h.elim h0 (fun h => h2 h.2))⟩) rfl d_C_isRightForDistances_37
        · skip
          refine lv_icmp_ne (tgt := 36) hx hb d_C_isRightForDistances_19 (by decide) (fun _ => ?_) (fun h => absurd h (show ¬ nI (zst d n 16) = nI 1 from fun h => h1 ((nI_eq (by omega) (by decide)).mp h)))
          refine lv_iconst (v := 0) hx hb d_C_isRightForDistances_36 (by decide) ?_
          exact zretRz hx hb hr hlk (Or.inr ⟨rfl, fun h => h.elim hf (fun h => h.elim h0 (fun h => h1 h.1))⟩) rfl d_C_isRightForDistances_37)
set_option maxHeartbeats 4000000 in
set_option maxRecDepth 100000 in
theorem lp_C_next {p : Program} {l : Launch} {e : Env} {R : Room} {s : State} {m : MethodId} {args : Array Value} {below : List Frame} {meth : Method} {c : Code} {cells slots : Nat} {Q : State → Prop} {A : Nat → Prop} {D : va_G} (hx : p.tables.exec = Jvm.exec) (hb : c.code = prog_3_method_5_code) (hml : c.maxLocals = 8) (hown : s.vm.findClass "ZipGuard$CodeSet" = some m.cls) (ht : ∀ w ∈ zt, w.before args s = true) (hA : ∀ q, s.heap.size ≤ q → A q) (qc : Nat) (c1 : Nat) (c2 : Nat) (c3 : Nat) (qr : Nat) (qb : Nat) (cC1 : ClassId) (cC3 : ClassId) (cB : ClassId) (g1 : Nat → Int32) (g3 : Nat → Int32) (f : Nat → Int32) (SS : Nat) (bh : Nat) (d : Nat → Nat) (n : Nat) (RES : Int32 × Nat) (hG : ∀ l, l ≤ 15 → g1 l = nI (zcn d n l)) (hn : n ≤ 320) (hSS : n ≤ SS) (hS2 : SS < 2 ^ 31) (hbh : bh ≤ 20000) (hRf : 1 ≤ R.frames) (hRl : 8 + (6 + 11) + 0 ≤ R.locals) (hcc : cells + 0 ≤ R.cells) (hss : slots + 0 ≤ R.slots) (hK : va_K D zcl [(cC1, .int), (cC3, .int), (cB, .byte)] s) (k31 : ∀ (a u : Nat) (H : Heap) (locs : List Loc) (ls : Array Slot) (v : Int32), v = (RES).1 → u ≤ 7 → a ≤ 20000 → (v ≠ -30 → 8 * a + u = RES.2) → va_P D zcl [(qc, .inr (6, [.ref c1, .ref c2, .ref c3, .int (nI (zst d n 16))])), (c1, .inl (cC1, 16, .inl g1)), (c3, .inl (cC3, SS, .inl g3)), (qr, .inr (5, [.ref qb, .int (nI a), .int (nI bh), .int (nI u)])), (qb, .inl (cB, 20000, .inl f))] H → va_D A [(qc, .inr (6, [.ref c1, .ref c2, .ref c3, .int (nI (zst d n 16))])), (c1, .inl (cC1, 16, .inl g1)), (c3, .inl (cC3, SS, .inl g3)), (qr, .inr (5, [.ref qb, .int (nI a), .int (nI bh), .int (nI u)])), (qb, .inl (cB, 20000, .inl f))] → va_S A s.heap H locs → lv_has ls 8 [] → W p l e R s m args below meth c H locs cells slots Q (F0 m 31 ls [.int v])) (k70 : ∀ (a u : Nat) (H : Heap) (locs : List Loc) (ls : Array Slot) (v : Int32), v = (RES).1 → u ≤ 7 → a ≤ 20000 → (v ≠ -30 → 8 * a + u = RES.2) → va_P D zcl [(qc, .inr (6, [.ref c1, .ref c2, .ref c3, .int (nI (zst d n 16))])), (c1, .inl (cC1, 16, .inl g1)), (c3, .inl (cC3, SS, .inl g3)), (qr, .inr (5, [.ref qb, .int (nI a), .int (nI bh), .int (nI u)])), (qb, .inl (cB, 20000, .inl f))] H → va_D A [(qc, .inr (6, [.ref c1, .ref c2, .ref c3, .int (nI (zst d n 16))])), (c1, .inl (cC1, 16, .inl g1)), (c3, .inl (cC3, SS, .inl g3)), (qr, .inr (5, [.ref qb, .int (nI a), .int (nI bh), .int (nI u)])), (qb, .inl (cB, 20000, .inl f))] → va_S A s.heap H locs → lv_has ls 8 [] → W p l e R s m args below meth c H locs cells slots Q (F0 m 70 ls [.int v])) (k104 : ∀ (a u : Nat) (H : Heap) (locs : List Loc) (ls : Array Slot) (v : Int32), v = (RES).1 → u ≤ 7 → a ≤ 20000 → (v ≠ -30 → 8 * a + u = RES.2) → va_P D zcl [(qc, .inr (6, [.ref c1, .ref c2, .ref c3, .int (nI (zst d n 16))])), (c1, .inl (cC1, 16, .inl g1)), (c3, .inl (cC3, SS, .inl g3)), (qr, .inr (5, [.ref qb, .int (nI a), .int (nI bh), .int (nI u)])), (qb, .inl (cB, 20000, .inl f))] H → va_D A [(qc, .inr (6, [.ref c1, .ref c2, .ref c3, .int (nI (zst d n 16))])), (c1, .inl (cC1, 16, .inl g1)), (c3, .inl (cC3, SS, .inl g3)), (qr, .inr (5, [.ref qb, .int (nI a), .int (nI bh), .int (nI u)])), (qb, .inl (cB, 20000, .inl f))] → va_S A s.heap H locs → lv_has ls 8 [] → W p l e R s m args below meth c H locs cells slots Q (F0 m 104 ls [.int v]))
    (kk : ∀ (a : Nat) (u : Nat) (v : Int32) (H : Heap) (locs : List Loc) (ls : Array Slot), v = RES.1 → u ≤ 7 → a ≤ 20000 → (v ≠ -30 → 8 * a + u = RES.2) → va_P D zcl [(qc, .inr (6, [.ref c1, .ref c2, .ref c3, .int (nI (zst d n 16))])), (c1, .inl (cC1, 16, .inl g1)), (c3, .inl (cC3, SS, .inl g3)), (qr, .inr (5, [.ref qb, .int (nI a), .int (nI bh), .int (nI u)])), (qb, .inl (cB, 20000, .inl f))] H → va_D A [(qc, .inr (6, [.ref c1, .ref c2, .ref c3, .int (nI (zst d n 16))])), (c1, .inl (cC1, 16, .inl g1)), (c3, .inl (cC3, SS, .inl g3)), (qr, .inr (5, [.ref qb, .int (nI a), .int (nI bh), .int (nI u)])), (qb, .inl (cB, 20000, .inl f))] → va_S A s.heap H locs → lv_has ls 8 [] → W p l e R s m args below meth c H locs cells slots Q (F0 m 113 ls [.int v])) :
    ∀ (j : Nat) (k : Nat) (cd : Nat) (fi : Nat) (sh : Nat) (a : Nat) (u : Nat) (H : Heap) (locs : List Loc) (ls : Array Slot), k + j = 16 → 1 ≤ k → sh = zst d n k → fi ≤ cd → cd < 2 ^ (k - 1) → u ≤ 7 → a ≤ 20000 → znx f d n g3 bh j k (8 * a + u) cd fi sh = RES → va_P D zcl [(qc, .inr (6, [.ref c1, .ref c2, .ref c3, .int (nI (zst d n 16))])), (c1, .inl (cC1, 16, .inl g1)), (c3, .inl (cC3, SS, .inl g3)), (qr, .inr (5, [.ref qb, .int (nI a), .int (nI bh), .int (nI u)])), (qb, .inl (cB, 20000, .inl f))] H → va_D A [(qc, .inr (6, [.ref c1, .ref c2, .ref c3, .int (nI (zst d n 16))])), (c1, .inl (cC1, 16, .inl g1)), (c3, .inl (cC3, SS, .inl g3)), (qr, .inr (5, [.ref qb, .int (nI a), .int (nI bh), .int (nI u)])), (qb, .inl (cB, 20000, .inl f))] → va_S A s.heap H locs → lv_has ls 8 [(5, .int (nI k)), (4, .int (nI sh)), (3, .int (nI fi)), (2, .int (nI cd)), (0, .ref qc), (1, .ref qr)] → W p l e R s m args below meth c H locs cells slots Q (F0 m 10 ls []) := by
  intro j
  induction j with
  | zero =>
    intro k cd fi sh a u H locs ls hk hk1 hsh hfc hcd hu ha hR hP hD hS hl
    have hk : k = 16 := by omega
    subst hk
    refine lv_iload hx hb d_C_nextSymbol_10 (lv_at hl 0 rfl) ?_
    refine lv_bipush (v := 15) hx hb d_C_nextSymbol_12 (by decide) ?_
    refine lv_icmp_gt (tgt := 111) hx hb d_C_nextSymbol_14 (by decide) (fun _ => ?_) (fun h => absurd (by decide +kernel) h)
    refine lv_bipush (v := (-34)) hx hb d_C_nextSymbol_111 (by decide) ?_
    exact kk a u (-34) H locs ls (by rw [← hR]; rfl) hu ha (fun _ => by rw [← hR]; rfl) hP hD hS (lv_sub hl [] rfl)
  | succ j ih =>
    intro k cd fi sh a u H locs ls hk hk1 hsh hfc hcd hu ha hR hP hD hS hl
    refine lv_iload hx hb d_C_nextSymbol_10 (lv_at hl 0 rfl) ?_
    refine lv_bipush (v := 15) hx hb d_C_nextSymbol_12 (by decide) ?_
    refine lv_icmp_gt (tgt := 111) hx hb d_C_nextSymbol_14 (by decide) (fun h => absurd h (show ¬ nI 15 < nI k from nI_nlt (by omega) (by omega))) (fun _ => ?_)
    refine lv_aload_n hx hb d_C_nextSymbol_17 rfl (lv_at hl 5 rfl) ?_
    refine lv_iconst (v := 1) hx hb d_C_nextSymbol_18 (by decide) ?_
    refine zji (wr := [(qc, .inr (6, [.ref c1, .ref c2, .ref c3, .int (nI (zst d n 16))])), (c1, .inl (cC1, 16, .inl g1)), (c3, .inl (cC3, SS, .inl g3))]) (va_runV (As := [.int 1]) (rest := []) ⟨hx, hb, hml, hown, ht⟩ (c_B_read l D _ qr qb cB f bh 1 a u hbh (by decide) hu ha) (cwV 1 ht (zt_goodV zm_657 zm_630 zm_631 zm_71 zm_632) rfl rfl rfl (by decide +kernel) ⟨hRf, hRl⟩) (zpreV zBlind_t hK hP hD [3, 4] [2] rfl (by decide) rfl (fun _ _ _ => trivial) (va_recv (q := ("ZipGuard$BitReader", F_B, 4)) hK hP rfl (q0 := 3) (ci := 5) rfl)) rfl rfl hl.1 rfl (lv_room (Nat.le_of_ble_eq_true rfl)) d_C_nextSymbol_19 ⟨hcc, hss⟩) hK hP hD hS hA [3, 4] [0, 1, 2] rfl rfl (by decide) (by decide) (fun r3 u9 H locs hp4 hP hD hK hS => ?_)
    obtain ⟨a1, u1⟩ := u9
    dsimp only at hp4 hP hD hK
    have hP : va_P D zcl [(qc, .inr (6, [.ref c1, .ref c2, .ref c3, .int (nI (zst d n 16))])), (c1, .inl (cC1, 16, .inl g1)), (c3, .inl (cC3, SS, .inl g3)), (qr, .inr (5, [.ref qb, .int (nI a1), .int (nI bh), .int (nI u1)])), (qb, .inl (cB, 20000, .inl f))] H := hP
    have hD : va_D A [(qc, .inr (6, [.ref c1, .ref c2, .ref c3, .int (nI (zst d n 16))])), (c1, .inl (cC1, 16, .inl g1)), (c3, .inl (cC3, SS, .inl g3)), (qr, .inr (5, [.ref qb, .int (nI a1), .int (nI bh), .int (nI u1)])), (qb, .inl (cB, 20000, .inl f))] := hD
    have hK : va_K D zcl [(cC1, .int), (cC3, .int), (cB, .byte), (cB, .byte)] s := hK
    have hP := hP.sub (ws' := [(qc, .inr (6, [.ref c1, .ref c2, .ref c3, .int (nI (zst d n 16))])), (c1, .inl (cC1, 16, .inl g1)), (c3, .inl (cC3, SS, .inl g3)), (qr, .inr (5, [.ref qb, .int (nI a1), .int (nI bh), .int (nI u1)])), (qb, .inl (cB, 20000, .inl f))]) [0, 1, 2, 3, 4] rfl
    have hD := hD.sub (ws' := [(qc, .inr (6, [.ref c1, .ref c2, .ref c3, .int (nI (zst d n 16))])), (c1, .inl (cC1, 16, .inl g1)), (c3, .inl (cC3, SS, .inl g3)), (qr, .inr (5, [.ref qb, .int (nI a1), .int (nI bh), .int (nI u1)])), (qb, .inl (cB, 20000, .inl f))]) [0, 1, 2, 3, 4] (by decide) rfl
    have hK := hK.sub (tys' := [(cC1, .int), (cC3, .int), (cB, .byte)]) [0, 1, 2] rfl
    rw [zbits_1] at hp4
    have hzb := zbit_lt f (8 * a + u)
    obtain ⟨hu1, ha1, hp4⟩ := hp4
    have hpw := zpow_le (a := k - 1) (b := 15) (by omega)
    have hpk : 2 ^ k = 2 * 2 ^ (k - 1) := by rw [← Nat.pow_succ']; congr 1; omega
    unfold znx at hR
    rcases hp4 with ⟨hp4, hpos, hle9⟩ | ⟨hp4, hend⟩
    · skip
      have hNE : ¬ 8 * bh < 8 * a + u + 1 := by omega
      have hp4 := hp4.symm
      subst hp4
      refine lv_istore (lv' := [(6, .int (nI (zbit f (8 * a + u)))), (5, .int (nI k)), (4, .int (nI sh)), (3, .int (nI fi)), (2, .int (nI cd)), (0, .ref qc), (1, .ref qr)]) hx hb d_C_nextSymbol_22 hl (by decide) rfl (fun ls hl => ?_)
      refine lv_iload hx hb d_C_nextSymbol_24 (lv_at hl 0 rfl) ?_
      refine lv_if_ge (tgt := 32) hx hb d_C_nextSymbol_26 (by decide) (fun _ => ?_) (fun h => absurd (nI_pos' (by omega)) h)
      refine lv_iload_n hx hb d_C_nextSymbol_32 rfl (lv_at hl 4 rfl) ?_
      refine lv_iconst (v := 1) hx hb d_C_nextSymbol_33 (by decide) ?_
      refine lv_ishl hx hb d_C_nextSymbol_34 ?_
      refine lv_topi (fun x6 e_x6 => ?_)
      have e_x6 : x6 = nI (cd * 2) := by rw [e_x6]; exact (show nI cd <<< (nI 1 &&& 31) = nI (cd * 2) from zshl (by decide) (by omega))
      subst e_x6
      refine lv_iload hx hb d_C_nextSymbol_35 (lv_at hl 0 rfl) ?_
      refine lv_ior hx hb d_C_nextSymbol_37 ?_
      refine lv_topi (fun x7 e_x7 => ?_)
      have e_x7 : x7 = nI (2 * cd + zbit f (8 * a + u)) := by rw [e_x7, zorN]; congr 1; have h9 := Nat.shiftLeft_add_eq_or_of_lt (i := 1) (b := zbit f (8 * a + u)) (by omega) cd; rw [Nat.shiftLeft_eq, Nat.pow_one] at h9; omega
      subst e_x7
      refine lv_istore_n (lv' := [(2, .int (nI (2 * cd + zbit f (8 * a + u)))), (6, .int (nI (zbit f (8 * a + u)))), (5, .int (nI k)), (4, .int (nI sh)), (3, .int (nI fi)), (0, .ref qc), (1, .ref qr)]) hx hb d_C_nextSymbol_38 rfl hl (by decide) rfl (fun ls hl => ?_)
      refine lv_iload_n hx hb d_C_nextSymbol_39 rfl (lv_at hl 4 rfl) ?_
      refine lv_iconst (v := 1) hx hb d_C_nextSymbol_40 (by decide) ?_
      refine lv_ishl hx hb d_C_nextSymbol_41 ?_
      refine lv_topi (fun x8 e_x8 => ?_)
      have e_x8 : x8 = nI (2 * fi) := by rw [e_x8]; exact (show nI fi <<< (nI 1 &&& 31) = nI (2 * fi) from by rw [zshl (by decide) (by omega), Nat.mul_comm])
      subst e_x8
      refine lv_istore_n (lv' := [(3, .int (nI (2 * fi))), (2, .int (nI (2 * cd + zbit f (8 * a + u)))), (6, .int (nI (zbit f (8 * a + u)))), (5, .int (nI k)), (4, .int (nI sh)), (0, .ref qc), (1, .ref qr)]) hx hb d_C_nextSymbol_42 rfl hl (by decide) rfl (fun ls hl => ?_)
      refine lv_iload_n hx hb d_C_nextSymbol_43 rfl (lv_at hl 1 rfl) ?_
      refine lv_iload_n hx hb d_C_nextSymbol_44 rfl (lv_at hl 0 rfl) ?_
      refine lv_isub hx hb d_C_nextSymbol_45 ?_
      refine lv_topi (fun x9 e_x9 => ?_)
      have e_x9 : x9 = nI (2 * cd + zbit f (8 * a + u) - 2 * fi) := by rw [e_x9]; exact pk_sub (by omega)
      subst e_x9
      refine lv_istore (lv' := [(7, .int (nI (2 * cd + zbit f (8 * a + u) - 2 * fi))), (3, .int (nI (2 * fi))), (2, .int (nI (2 * cd + zbit f (8 * a + u)))), (6, .int (nI (zbit f (8 * a + u)))), (5, .int (nI k)), (4, .int (nI sh)), (0, .ref qc), (1, .ref qr)]) hx hb d_C_nextSymbol_46 hl (by decide) rfl (fun ls hl => ?_)
      refine lv_iload hx hb d_C_nextSymbol_48 (lv_at hl 0 rfl) ?_
      refine lv_aload_n hx hb d_C_nextSymbol_50 rfl (lv_at hl 6 rfl) ?_
      refine va_get (ci := 6) (C := "ZipGuard$CodeSet") (T := F_C) (N := 4) hx hb ht zi_C hown hK hP 0 rfl rfl 0 (by decide) (ht _ zm_256) (fun _ h9 => h9) rfl d_C_nextSymbol_51 ?_
      refine lv_iload hx hb d_C_nextSymbol_54 (lv_at hl 4 rfl) ?_
      refine va_iald hx hb hK hP 1 0 rfl rfl (vp_in_nI (by omega) (by omega)) d_C_nextSymbol_56 ?_
      refine lv_topi (fun x10 e_x10 => ?_)
      have e_x10 : x10 = nI (zcn d n k) := by rw [e_x10, nI_clamp (by omega)]; exact hG k (by omega)
      subst e_x10
      have hc := zcn_le d k n
      have hup := zst_up d n hk1 (m := 16) (by omega)
      have hst := zst_le d 16 n
      by_cases hrk : 2 * cd + zbit f (8 * a + u) - 2 * fi < zcn d n k
      · skip
        refine lv_icmp_ge (tgt := 71) hx hb d_C_nextSymbol_57 (by decide) (fun h => absurd h (nI_ge hrk (by omega))) (fun _ => ?_)
        refine lv_aload_n hx hb d_C_nextSymbol_60 rfl (lv_at hl 6 rfl) ?_
        refine va_get (ci := 6) (C := "ZipGuard$CodeSet") (T := F_C) (N := 4) hx hb ht zi_C hown hK hP 0 rfl rfl 2 (by decide) (ht _ zm_258) (fun _ h9 => h9) rfl d_C_nextSymbol_61 ?_
        refine lv_iload hx hb d_C_nextSymbol_64 (lv_at hl 5 rfl) ?_
        refine lv_iload hx hb d_C_nextSymbol_66 (lv_at hl 0 rfl) ?_
        refine lv_iadd hx hb d_C_nextSymbol_68 ?_
        refine lv_topi (fun x12 e_x12 => ?_)
        have e_x12 : x12 = nI (sh + (2 * cd + zbit f (8 * a + u) - 2 * fi)) := by rw [e_x12]; exact nI_add _ _
        subst e_x12
        refine va_iald hx hb hK hP 2 1 rfl rfl (vp_in_nI (by omega) (by omega)) d_C_nextSymbol_69 ?_
        refine k70 a1 u1 H locs ls _ ?_ hu1 ha1 (fun hv9 => ?_) hP hD hS (lv_sub hl [] rfl)
        · rw [← hR, if_neg hNE, if_pos hrk, nI_clamp (by omega)]
        · rw [← hR, if_neg hNE, if_pos hrk]; omega
      · skip
        refine lv_icmp_ge (tgt := 71) hx hb d_C_nextSymbol_57 (by decide) (fun _ => ?_) (fun h => absurd (nI_le (by omega) (by omega)) h)
        refine lv_iload_n hx hb d_C_nextSymbol_71 rfl (lv_at hl 1 rfl) ?_
        refine lv_aload_n hx hb d_C_nextSymbol_72 rfl (lv_at hl 6 rfl) ?_
        refine va_get (ci := 6) (C := "ZipGuard$CodeSet") (T := F_C) (N := 4) hx hb ht zi_C hown hK hP 0 rfl rfl 0 (by decide) (ht _ zm_256) (fun _ h9 => h9) rfl d_C_nextSymbol_73 ?_
        refine lv_iload hx hb d_C_nextSymbol_76 (lv_at hl 4 rfl) ?_
        refine va_iald hx hb hK hP 1 0 rfl rfl (vp_in_nI (by omega) (by omega)) d_C_nextSymbol_78 ?_
        refine lv_topi (fun x14 e_x14 => ?_)
        have e_x14 : x14 = nI (zcn d n k) := by rw [e_x14, nI_clamp (by omega)]; exact hG k (by omega)
        subst e_x14
        refine lv_iadd hx hb d_C_nextSymbol_79 ?_
        refine lv_topi (fun x15 e_x15 => ?_)
        have e_x15 : x15 = nI (2 * fi + zcn d n k) := by rw [e_x15]; exact nI_add _ _
        subst e_x15
        refine lv_istore_n (lv' := [(3, .int (nI (2 * fi + zcn d n k))), (7, .int (nI (2 * cd + zbit f (8 * a + u) - 2 * fi))), (2, .int (nI (2 * cd + zbit f (8 * a + u)))), (6, .int (nI (zbit f (8 * a + u)))), (5, .int (nI k)), (4, .int (nI sh)), (0, .ref qc), (1, .ref qr)]) hx hb d_C_nextSymbol_80 rfl hl (by decide) rfl (fun ls hl => ?_)
        refine lv_iload hx hb d_C_nextSymbol_81 (lv_at hl 5 rfl) ?_
        refine lv_aload_n hx hb d_C_nextSymbol_83 rfl (lv_at hl 6 rfl) ?_
        refine va_get (ci := 6) (C := "ZipGuard$CodeSet") (T := F_C) (N := 4) hx hb ht zi_C hown hK hP 0 rfl rfl 0 (by decide) (ht _ zm_256) (fun _ h9 => h9) rfl d_C_nextSymbol_84 ?_
        refine lv_iload hx hb d_C_nextSymbol_87 (lv_at hl 4 rfl) ?_
        refine va_iald hx hb hK hP 1 0 rfl rfl (vp_in_nI (by omega) (by omega)) d_C_nextSymbol_89 ?_
        refine lv_topi (fun x16 e_x16 => ?_)
        have e_x16 : x16 = nI (zcn d n k) := by rw [e_x16, nI_clamp (by omega)]; exact hG k (by omega)
        subst e_x16
        refine lv_iadd hx hb d_C_nextSymbol_90 ?_
        refine lv_topi (fun x17 e_x17 => ?_)
        have e_x17 : x17 = nI (sh + zcn d n k) := by rw [e_x17]; exact nI_add _ _
        subst e_x17
        refine lv_istore (lv' := [(4, .int (nI (sh + zcn d n k))), (3, .int (nI (2 * fi + zcn d n k))), (7, .int (nI (2 * cd + zbit f (8 * a + u) - 2 * fi))), (2, .int (nI (2 * cd + zbit f (8 * a + u)))), (6, .int (nI (zbit f (8 * a + u)))), (5, .int (nI k)), (0, .ref qc), (1, .ref qr)]) hx hb d_C_nextSymbol_91 hl (by decide) rfl (fun ls hl => ?_)
        refine lv_iload hx hb d_C_nextSymbol_93 (lv_at hl 0 rfl) ?_
        refine lv_aload_n hx hb d_C_nextSymbol_95 rfl (lv_at hl 6 rfl) ?_
        refine va_get (ci := 6) (C := "ZipGuard$CodeSet") (T := F_C) (N := 4) hx hb ht zi_C hown hK hP 0 rfl rfl 3 (by decide) (ht _ zm_259) (fun _ h9 => h9) rfl d_C_nextSymbol_96 ?_
        by_cases hfu : zst d n 16 ≤ sh + zcn d n k
        · skip
          refine lv_icmp_lt (tgt := 105) hx hb d_C_nextSymbol_99 (by decide) (fun h => absurd h (nI_nlt hfu (by omega))) (fun _ => ?_)
          refine lv_bipush (v := (-34)) hx hb d_C_nextSymbol_102 (by decide) ?_
          refine k104 a1 u1 H locs ls (-34) ?_ hu1 ha1 (fun hv9 => ?_) hP hD hS (lv_sub hl [] rfl)
          · rw [← hR, if_neg hNE, if_neg hrk, if_pos hfu]
          · rw [← hR, if_neg hNE, if_neg hrk, if_pos hfu]; omega
        · skip
          refine lv_icmp_lt (tgt := 105) hx hb d_C_nextSymbol_99 (by decide) (fun _ => ?_) (fun h => absurd (nI_lt (by omega) (by omega)) h)
          refine lv_iinc (k := 5) (v := (nI k) + 1) (lv' := [(5, .int ((nI k) + 1)), (4, .int (nI (sh + zcn d n k))), (3, .int (nI (2 * fi + zcn d n k))), (7, .int (nI (2 * cd + zbit f (8 * a + u) - 2 * fi))), (2, .int (nI (2 * cd + zbit f (8 * a + u)))), (6, .int (nI (zbit f (8 * a + u)))), (0, .ref qc), (1, .ref qr)]) hx hb d_C_nextSymbol_105 hl rfl rfl (by decide) rfl (fun ls hl => ?_)
          refine lv_goto (tgt := 10) hx hb d_C_nextSymbol_108 (by decide) ?_
          rw [nI_1] at hl
          refine ih (k + 1) (2 * cd + zbit f (8 * a + u)) (2 * fi + zcn d n k) (sh + zcn d n k) a1 u1 H locs ls (by omega) (by omega) ?_ (by omega) ?_ hu1 ha1 ?_ hP hD hS (lv_sub hl [0, 1, 2, 4, 6, 7] rfl)
          · rw [hsh]; simp only [zst]; rw [if_neg (by omega)]
          · rw [Nat.add_sub_cancel, hpk]; omega
          · rw [← hR, if_neg hNE, if_neg hrk, if_neg hfu, hpos]
    · skip
      have hp4 := hp4.symm
      subst hp4
      refine lv_istore (lv' := [(6, .int (-30)), (5, .int (nI k)), (4, .int (nI sh)), (3, .int (nI fi)), (2, .int (nI cd)), (0, .ref qc), (1, .ref qr)]) hx hb d_C_nextSymbol_22 hl (by decide) rfl (fun ls hl => ?_)
      refine lv_iload hx hb d_C_nextSymbol_24 (lv_at hl 0 rfl) ?_
      refine lv_if_ge (tgt := 32) hx hb d_C_nextSymbol_26 (by decide) (fun h => absurd h (by decide)) (fun _ => ?_)
      refine lv_iload hx hb d_C_nextSymbol_29 (lv_at hl 0 rfl) ?_
      exact k31 a1 u1 H locs ls (-30) (by rw [← hR, if_pos hend]) hu1 ha1 (fun h => absurd rfl h) hP hD hS (lv_sub hl [] rfl)
set_option maxHeartbeats 4000000 in
set_option maxRecDepth 100000 in
theorem c_C_next (l : Launch) (D : va_G) (sz : Nat) (qc : Nat) (c1 : Nat) (c2 : Nat) (c3 : Nat) (qr : Nat) (qb : Nat) (cC1 : ClassId) (cC3 : ClassId) (cB : ClassId) (g1 : Nat → Int32) (g3 : Nat → Int32) (f : Nat → Int32) (SS : Nat) (bh : Nat) (d : Nat → Nat) (n : Nat) (a : Nat) (u : Nat) (hG : ∀ l, l ≤ 15 → g1 l = nI (zcn d n l)) (hn : n ≤ 320) (hSS : n ≤ SS) (hS2 : SS < 2 ^ 31) (hbh : bh ≤ 20000) (hu : u ≤ 7) (ha : a ≤ 20000) : Met l y_C_nextSymbol (Cond.code y_C_nextSymbol prog_3_method_5_code 8 (Option.some Jvm.ClassFile.FieldType.int) :: zt) { frames := 1, cells := 0, slots := 0, locals := 25 } (zPc [.ref qc, .ref qr] D [(qc, .inr (6, [.ref c1, .ref c2, .ref c3, .int (nI (zst d n 16))])), (c1, .inl (cC1, 16, .inl g1)), (c3, .inl (cC3, SS, .inl g3)), (qr, .inr (5, [.ref qb, .int (nI a), .int (nI bh), .int (nI u)])), (qb, .inl (cB, 20000, .inl f))] [(cC1, .int), (cC3, .int), (cB, .byte)] sz (fun _ => True)) (va_Qi (fun (r : Int32) => fun (u9 : Nat × Nat) => match u9 with | (a1, u1) => r = (znx f d n g3 bh 15 1 (8 * a + u) 0 0 0).1 ∧ u1 ≤ 7 ∧ a1 ≤ 20000 ∧ (r ≠ -30 → 8 * a1 + u1 = (znx f d n g3 bh 15 1 (8 * a + u) 0 0 0).2)) (fun u9 t => zB D ((fun (u9 : Nat × Nat) => match u9 with | (a1, u1) => [(qc, .inr (6, [.ref c1, .ref c2, .ref c3, .int (nI (zst d n 16))])), (c1, .inl (cC1, 16, .inl g1)), (c3, .inl (cC3, SS, .inl g3)), (qr, .inr (5, [.ref qb, .int (nI a1), .int (nI bh), .int (nI u1)])), (qb, .inl (cB, 20000, .inl f))]) u9) ((fun (u9 : Nat × Nat) => match u9 with | (a1, u1) => [(cC1, .int), (cC3, .int), (cB, .byte)]) u9) (va_A [(qc, .inr (6, [.ref c1, .ref c2, .ref c3, .int (nI (zst d n 16))])), (c1, .inl (cC1, 16, .inl g1)), (c3, .inl (cC3, SS, .inl g3)), (qr, .inr (5, [.ref qb, .int (nI a), .int (nI bh), .int (nI u)])), (qb, .inl (cB, 20000, .inl f))] sz) t) (va_A [(qc, .inr (6, [.ref c1, .ref c2, .ref c3, .int (nI (zst d n 16))])), (c1, .inl (cC1, 16, .inl g1)), (c3, .inl (cC3, SS, .inl g3)), (qr, .inr (5, [.ref qb, .int (nI a), .int (nI bh), .int (nI u)])), (qb, .inl (cB, 20000, .inl f))] sz)) 0 0 (va_A [(qc, .inr (6, [.ref c1, .ref c2, .ref c3, .int (nI (zst d n 16))])), (c1, .inl (cC1, 16, .inl g1)), (c3, .inl (cC3, SS, .inl g3)), (qr, .inr (5, [.ref qb, .int (nI a), .int (nI bh), .int (nI u)])), (qb, .inl (cB, 20000, .inl f))] sz) :=
  zMet (Qf := fun A => va_Qi (fun (r : Int32) => fun (u9 : Nat × Nat) => match u9 with | (a1, u1) => r = (znx f d n g3 bh 15 1 (8 * a + u) 0 0 0).1 ∧ u1 ≤ 7 ∧ a1 ≤ 20000 ∧ (r ≠ -30 → 8 * a1 + u1 = (znx f d n g3 bh 15 1 (8 * a + u) 0 0 0).2)) (fun u9 t => zB D ((fun (u9 : Nat × Nat) => match u9 with | (a1, u1) => [(qc, .inr (6, [.ref c1, .ref c2, .ref c3, .int (nI (zst d n 16))])), (c1, .inl (cC1, 16, .inl g1)), (c3, .inl (cC3, SS, .inl g3)), (qr, .inr (5, [.ref qb, .int (nI a1), .int (nI bh), .int (nI u1)])), (qb, .inl (cB, 20000, .inl f))]) u9) ((fun (u9 : Nat × Nat) => match u9 with | (a1, u1) => [(cC1, .int), (cC3, .int), (cB, .byte)]) u9) A t) A) (by decide) (Nat.le_of_ble_eq_true rfl) (fun p e s m below meth c A ls hx hb hr hml hown ht hlk hnm hA hK hP hD hX hl => by
    have hS : va_S A s.heap s.heap [] := va_S.rf
    have hl : lv_has ls 8 [(0, .ref qc), (1, .ref qr)] := hl
    refine lv_iconst (v := 0) hx hb d_C_nextSymbol_0 (by decide) ?_
    refine lv_istore_n (lv' := [(2, .int 0), (0, .ref qc), (1, .ref qr)]) hx hb d_C_nextSymbol_1 rfl hl (by decide) rfl (fun ls hl => ?_)
    refine lv_iconst (v := 0) hx hb d_C_nextSymbol_2 (by decide) ?_
    refine lv_istore_n (lv' := [(3, .int 0), (2, .int 0), (0, .ref qc), (1, .ref qr)]) hx hb d_C_nextSymbol_3 rfl hl (by decide) rfl (fun ls hl => ?_)
    refine lv_iconst (v := 0) hx hb d_C_nextSymbol_4 (by decide) ?_
    refine lv_istore (lv' := [(4, .int 0), (3, .int 0), (2, .int 0), (0, .ref qc), (1, .ref qr)]) hx hb d_C_nextSymbol_5 hl (by decide) rfl (fun ls hl => ?_)
    refine lv_iconst (v := 1) hx hb d_C_nextSymbol_7 (by decide) ?_
    refine lv_istore (lv' := [(5, .int 1), (4, .int 0), (3, .int 0), (2, .int 0), (0, .ref qc), (1, .ref qr)]) hx hb d_C_nextSymbol_8 hl (by decide) rfl (fun ls hl => ?_)
    have hl : lv_has ls 8 [(5, .int (nI 1)), (4, .int (nI 0)), (3, .int (nI 0)), (2, .int (nI 0)), (0, .ref qc), (1, .ref qr)] := hl
    refine lp_C_next hx hb hml hown ht hA qc c1 c2 c3 qr qb cC1 cC3 cB g1 g3 f SS bh d n (znx f d n g3 bh 15 1 (8 * a + u) 0 0 0) hG hn hSS hS2 hbh (Nat.le_of_ble_eq_true rfl) (Nat.le_of_ble_eq_true rfl) (Nat.le_of_ble_eq_true rfl) (Nat.le_of_ble_eq_true rfl) hK (fun a1 u1 H locs ls v hv hu1 ha1 hpos hP hD hS hl => ?_) (fun a1 u1 H locs ls v hv hu1 ha1 hpos hP hD hS hl => ?_) (fun a1 u1 H locs ls v hv hu1 ha1 hpos hP hD hS hl => ?_) (fun a1 u1 v H locs ls hv hu1 ha1 hpos hP hD hS hl => ?_) 15 1 0 0 0 a u s.heap [] ls (by omega) (by omega) (by simp [zst]) (by omega) (by decide) hu ha rfl hP hD hS hl
    · skip
      exact zreti hx hb hr hlk hK hP hD hS (a1, u1) [0, 1, 2, 3, 4] [0, 1, 2] rfl (by decide) rfl (⟨hv, hu1, ha1, hpos⟩) (Nat.le_of_ble_eq_true rfl) (Nat.le_of_ble_eq_true rfl) d_C_nextSymbol_31
    · skip
      exact zreti hx hb hr hlk hK hP hD hS (a1, u1) [0, 1, 2, 3, 4] [0, 1, 2] rfl (by decide) rfl (⟨hv, hu1, ha1, hpos⟩) (Nat.le_of_ble_eq_true rfl) (Nat.le_of_ble_eq_true rfl) d_C_nextSymbol_70
    · skip
      exact zreti hx hb hr hlk hK hP hD hS (a1, u1) [0, 1, 2, 3, 4] [0, 1, 2] rfl (by decide) rfl (⟨hv, hu1, ha1, hpos⟩) (Nat.le_of_ble_eq_true rfl) (Nat.le_of_ble_eq_true rfl) d_C_nextSymbol_104
    · skip
      exact zreti hx hb hr hlk hK hP hD hS (a1, u1) [0, 1, 2, 3, 4] [0, 1, 2] rfl (by decide) rfl (⟨hv, hu1, ha1, hpos⟩) (Nat.le_of_ble_eq_true rfl) (Nat.le_of_ble_eq_true rfl) d_C_nextSymbol_113)
