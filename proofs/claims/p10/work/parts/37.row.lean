def zrl (y i : Nat) (m : Nat → Nat) : Nat := if y < 16 then y else if y = 16 then m (i - 1) else 0
def zrf (m : Nat → Nat) (v i t : Nat) : Nat → Nat := fun k => if i ≤ k ∧ k < i + t then v else m k
/-- the row of lengths: n of them, by the codes d g3; i are there -/
def zrow (f : Nat → Int32) (bh : Nat) (d : Nat → Nat) (g3 : Nat → Int32) (n : Nat) : Nat → Nat → Nat → (Nat → Nat) → Int32 × Nat × (Nat → Nat)
  | 0, _, q, m => (0, q, m)
  | j + 1, i, q, m => if n ≤ i then (0, q, m)
    else if (znx f d 19 g3 bh 15 1 q 0 0 0).1 < 0 then ((znx f d 19 g3 bh 15 1 q 0 0 0).1, (znx f d 19 g3 bh 15 1 q 0 0 0).2, m)
    else if 8 * bh < (znx f d 19 g3 bh 15 1 q 0 0 0).2 + zrep (znx f d 19 g3 bh 15 1 q 0 0 0).1.toNatClampNeg then (-30, q, m)
    else if ((znx f d 19 g3 bh 15 1 q 0 0 0).1.toNatClampNeg = 16 ∧ i = 0) ∨ n < i + (zlst (znx f d 19 g3 bh 15 1 q 0 0 0).1.toNatClampNeg + zbits f (znx f d 19 g3 bh 15 1 q 0 0 0).2 (zrep (znx f d 19 g3 bh 15 1 q 0 0 0).1.toNatClampNeg)) then (-33, (znx f d 19 g3 bh 15 1 q 0 0 0).2 + zrep (znx f d 19 g3 bh 15 1 q 0 0 0).1.toNatClampNeg, m)
    else zrow f bh d g3 n j (i + (zlst (znx f d 19 g3 bh 15 1 q 0 0 0).1.toNatClampNeg + zbits f (znx f d 19 g3 bh 15 1 q 0 0 0).2 (zrep (znx f d 19 g3 bh 15 1 q 0 0 0).1.toNatClampNeg))) ((znx f d 19 g3 bh 15 1 q 0 0 0).2 + zrep (znx f d 19 g3 bh 15 1 q 0 0 0).1.toNatClampNeg) (zrf m (zrl (znx f d 19 g3 bh 15 1 q 0 0 0).1.toNatClampNeg i m) i (zlst (znx f d 19 g3 bh 15 1 q 0 0 0).1.toNatClampNeg + zbits f (znx f d 19 g3 bh 15 1 q 0 0 0).2 (zrep (znx f d 19 g3 bh 15 1 q 0 0 0).1.toNatClampNeg)))
theorem zrep_le (y : Nat) : zrep y ≤ 7 := by
  unfold zrep
  split <;> (try split) <;> (try split) <;> omega
theorem zlst_le (y : Nat) : 1 ≤ zlst y ∧ zlst y ≤ 11 := by
  unfold zlst
  split <;> (try split) <;> omega
theorem zrl_le {y i : Nat} {m : Nat → Nat} (hm : ∀ k, k < i → m k ≤ 15) (h : y = 16 → 1 ≤ i) : zrl y i m ≤ 15 := by
  unfold zrl
  by_cases h1 : y < 16
  · rw [if_pos h1]; omega
  · rw [if_neg h1]
    by_cases h2 : y = 16
    · rw [if_pos h2]; exact hm _ (by have := h h2; omega)
    · rw [if_neg h2]; omega
theorem zrf_n {m : Nat → Nat} {rw : Nat → Int32} {v i t : Nat} (h : ∀ k, k < i → rw k = nI (m k)) : ∀ k, k < i + t → zfill rw (nI v) i (i + t) k = nI (zrf m v i t k) := fun k hk => by
  unfold zfill zrf
  by_cases h1 : i ≤ k ∧ k < i + t
  · rw [if_pos h1, if_pos h1]
  · rw [if_neg h1, if_neg h1]; exact h k (by omega)
theorem zrf_le {m : Nat → Nat} {v i t : Nat} (hv : v ≤ 15) (h : ∀ k, k < i → m k ≤ 15) : ∀ k, k < i + t → zrf m v i t k ≤ 15 := fun k hk => by
  unfold zrf
  by_cases h1 : i ≤ k ∧ k < i + t
  · rw [if_pos h1]; exact hv
  · rw [if_neg h1]; exact h k (by omega)
set_option maxRecDepth 100000 in
theorem zm_27 : Jvm.Cond.selects "ZipGuard$Unpacker" ({ cls := "ZipGuard$Unpacker", name := "repeatBits", desc := "(I)I" } : Jvm.MethodName) ({ cls := "ZipGuard$Unpacker", name := "repeatBits", desc := "(I)I" } : Jvm.MethodName) ∈ zt := zt_mp (List.mem_of_getElem? (i := 27) rfl)
set_option maxRecDepth 100000 in
theorem zm_28 : Jvm.Cond.selects "ZipGuard$Unpacker" ({ cls := "ZipGuard$Unpacker", name := "leastTimes", desc := "(I)I" } : Jvm.MethodName) ({ cls := "ZipGuard$Unpacker", name := "leastTimes", desc := "(I)I" } : Jvm.MethodName) ∈ zt := zt_mp (List.mem_of_getElem? (i := 28) rfl)
set_option maxRecDepth 100000 in
theorem zm_687 : Jvm.Cond.methodLink "ZipGuard$Unpacker" (157 : Nat) ({ cls := "ZipGuard$Unpacker", name := "repeatBits", desc := "(I)I" } : Jvm.MethodName) ∈ zt := zt_m4 (List.mem_of_getElem? (i := 176) rfl)
set_option maxRecDepth 100000 in
theorem zm_688 : Jvm.Cond.instanceMethod ({ cls := "ZipGuard$Unpacker", name := "repeatBits", desc := "(I)I" } : Jvm.MethodName) ∈ zt := zt_m4 (List.mem_of_getElem? (i := 177) rfl)
set_option maxRecDepth 100000 in
theorem zm_689 : Jvm.Cond.code ({ cls := "ZipGuard$Unpacker", name := "repeatBits", desc := "(I)I" } : Jvm.MethodName) prog_8_method_11_code (2 : Nat) (Option.some Jvm.ClassFile.FieldType.int) ∈ zt := zt_m4 (List.mem_of_getElem? (i := 178) rfl)
set_option maxRecDepth 100000 in
theorem zm_690 : Jvm.Cond.methodLink "ZipGuard$Unpacker" (160 : Nat) ({ cls := "ZipGuard$Unpacker", name := "leastTimes", desc := "(I)I" } : Jvm.MethodName) ∈ zt := zt_m4 (List.mem_of_getElem? (i := 179) rfl)
set_option maxRecDepth 100000 in
theorem zm_691 : Jvm.Cond.instanceMethod ({ cls := "ZipGuard$Unpacker", name := "leastTimes", desc := "(I)I" } : Jvm.MethodName) ∈ zt := zt_m4 (List.mem_of_getElem? (i := 180) rfl)
set_option maxRecDepth 100000 in
theorem zm_692 : Jvm.Cond.code ({ cls := "ZipGuard$Unpacker", name := "leastTimes", desc := "(I)I" } : Jvm.MethodName) prog_8_method_12_code (2 : Nat) (Option.some Jvm.ClassFile.FieldType.int) ∈ zt := zt_m4 (List.mem_of_getElem? (i := 181) rfl)
theorem d_U_readRow_0 : decode prog_8_method_10_code 0 = .ok (.iconst 0, 1) := by decide +kernel
theorem d_U_readRow_1 : decode prog_8_method_10_code 1 = .ok (.istore_n 2, 1) := by decide +kernel
theorem d_U_readRow_2 : decode prog_8_method_10_code 2 = .ok (.iload_n 2, 1) := by decide +kernel
theorem d_U_readRow_3 : decode prog_8_method_10_code 3 = .ok (.iload_n 1, 1) := by decide +kernel
theorem d_U_readRow_4 : decode prog_8_method_10_code 4 = .ok (.if_icmp .ge 126, 3) := by decide +kernel
theorem d_U_readRow_7 : decode prog_8_method_10_code 7 = .ok (.aload_n 0, 1) := by decide +kernel
theorem d_U_readRow_8 : decode prog_8_method_10_code 8 = .ok (.getfield 38, 3) := by decide +kernel
theorem d_U_readRow_11 : decode prog_8_method_10_code 11 = .ok (.aload_n 0, 1) := by decide +kernel
theorem d_U_readRow_12 : decode prog_8_method_10_code 12 = .ok (.getfield 18, 3) := by decide +kernel
theorem d_U_readRow_15 : decode prog_8_method_10_code 15 = .ok (.invokevirtual 153, 3) := by decide +kernel
theorem d_U_readRow_18 : decode prog_8_method_10_code 18 = .ok (.istore_n 3, 1) := by decide +kernel
theorem d_U_readRow_19 : decode prog_8_method_10_code 19 = .ok (.iload_n 3, 1) := by decide +kernel
theorem d_U_readRow_20 : decode prog_8_method_10_code 20 = .ok (.ifCond .ge 5, 3) := by decide +kernel
theorem d_U_readRow_23 : decode prog_8_method_10_code 23 = .ok (.iload_n 3, 1) := by decide +kernel
theorem d_U_readRow_24 : decode prog_8_method_10_code 24 = .ok (.ireturn, 1) := by decide +kernel
theorem d_U_readRow_25 : decode prog_8_method_10_code 25 = .ok (.aload_n 0, 1) := by decide +kernel
theorem d_U_readRow_26 : decode prog_8_method_10_code 26 = .ok (.getfield 18, 3) := by decide +kernel
theorem d_U_readRow_29 : decode prog_8_method_10_code 29 = .ok (.aload_n 0, 1) := by decide +kernel
theorem d_U_readRow_30 : decode prog_8_method_10_code 30 = .ok (.iload_n 3, 1) := by decide +kernel
theorem d_U_readRow_31 : decode prog_8_method_10_code 31 = .ok (.invokevirtual 157, 3) := by decide +kernel
theorem d_U_readRow_34 : decode prog_8_method_10_code 34 = .ok (.invokevirtual 117, 3) := by decide +kernel
theorem d_U_readRow_37 : decode prog_8_method_10_code 37 = .ok (.istore 4, 2) := by decide +kernel
theorem d_U_readRow_39 : decode prog_8_method_10_code 39 = .ok (.iload 4, 2) := by decide +kernel
theorem d_U_readRow_41 : decode prog_8_method_10_code 41 = .ok (.ifCond .ge 6, 3) := by decide +kernel
theorem d_U_readRow_44 : decode prog_8_method_10_code 44 = .ok (.iload 4, 2) := by decide +kernel
theorem d_U_readRow_46 : decode prog_8_method_10_code 46 = .ok (.ireturn, 1) := by decide +kernel
theorem d_U_readRow_47 : decode prog_8_method_10_code 47 = .ok (.aload_n 0, 1) := by decide +kernel
theorem d_U_readRow_48 : decode prog_8_method_10_code 48 = .ok (.iload_n 3, 1) := by decide +kernel
theorem d_U_readRow_49 : decode prog_8_method_10_code 49 = .ok (.invokevirtual 160, 3) := by decide +kernel
theorem d_U_readRow_52 : decode prog_8_method_10_code 52 = .ok (.iload 4, 2) := by decide +kernel
theorem d_U_readRow_54 : decode prog_8_method_10_code 54 = .ok (.iadd, 1) := by decide +kernel
theorem d_U_readRow_55 : decode prog_8_method_10_code 55 = .ok (.istore 5, 2) := by decide +kernel
theorem d_U_readRow_57 : decode prog_8_method_10_code 57 = .ok (.iload_n 3, 1) := by decide +kernel
theorem d_U_readRow_58 : decode prog_8_method_10_code 58 = .ok (.bipush 16, 2) := by decide +kernel
theorem d_U_readRow_60 : decode prog_8_method_10_code 60 = .ok (.if_icmp .ne 7, 3) := by decide +kernel
theorem d_U_readRow_63 : decode prog_8_method_10_code 63 = .ok (.iload_n 2, 1) := by decide +kernel
theorem d_U_readRow_64 : decode prog_8_method_10_code 64 = .ok (.ifCond .eq 11, 3) := by decide +kernel
theorem d_U_readRow_67 : decode prog_8_method_10_code 67 = .ok (.iload_n 2, 1) := by decide +kernel
theorem d_U_readRow_68 : decode prog_8_method_10_code 68 = .ok (.iload 5, 2) := by decide +kernel
theorem d_U_readRow_70 : decode prog_8_method_10_code 70 = .ok (.iadd, 1) := by decide +kernel
theorem d_U_readRow_71 : decode prog_8_method_10_code 71 = .ok (.iload_n 1, 1) := by decide +kernel
theorem d_U_readRow_72 : decode prog_8_method_10_code 72 = .ok (.if_icmp .le 6, 3) := by decide +kernel
theorem d_U_readRow_75 : decode prog_8_method_10_code 75 = .ok (.bipush (-33), 2) := by decide +kernel
theorem d_U_readRow_77 : decode prog_8_method_10_code 77 = .ok (.ireturn, 1) := by decide +kernel
theorem d_U_readRow_78 : decode prog_8_method_10_code 78 = .ok (.iload_n 3, 1) := by decide +kernel
theorem d_U_readRow_79 : decode prog_8_method_10_code 79 = .ok (.bipush 16, 2) := by decide +kernel
theorem d_U_readRow_81 : decode prog_8_method_10_code 81 = .ok (.if_icmp .ge 7, 3) := by decide +kernel
theorem d_U_readRow_84 : decode prog_8_method_10_code 84 = .ok (.iload_n 3, 1) := by decide +kernel
theorem d_U_readRow_85 : decode prog_8_method_10_code 85 = .ok (.goto 21, 3) := by decide +kernel
theorem d_U_readRow_88 : decode prog_8_method_10_code 88 = .ok (.iload_n 3, 1) := by decide +kernel
theorem d_U_readRow_89 : decode prog_8_method_10_code 89 = .ok (.bipush 16, 2) := by decide +kernel
theorem d_U_readRow_91 : decode prog_8_method_10_code 91 = .ok (.if_icmp .ne 14, 3) := by decide +kernel
theorem d_U_readRow_94 : decode prog_8_method_10_code 94 = .ok (.aload_n 0, 1) := by decide +kernel
theorem d_U_readRow_95 : decode prog_8_method_10_code 95 = .ok (.getfield 22, 3) := by decide +kernel
theorem d_U_readRow_98 : decode prog_8_method_10_code 98 = .ok (.iload_n 2, 1) := by decide +kernel
theorem d_U_readRow_99 : decode prog_8_method_10_code 99 = .ok (.iconst 1, 1) := by decide +kernel
theorem d_U_readRow_100 : decode prog_8_method_10_code 100 = .ok (.isub, 1) := by decide +kernel
theorem d_U_readRow_101 : decode prog_8_method_10_code 101 = .ok (.iaload, 1) := by decide +kernel
theorem d_U_readRow_102 : decode prog_8_method_10_code 102 = .ok (.goto 4, 3) := by decide +kernel
theorem d_U_readRow_105 : decode prog_8_method_10_code 105 = .ok (.iconst 0, 1) := by decide +kernel
theorem d_U_readRow_106 : decode prog_8_method_10_code 106 = .ok (.istore 6, 2) := by decide +kernel
theorem d_U_readRow_108 : decode prog_8_method_10_code 108 = .ok (.aload_n 0, 1) := by decide +kernel
theorem d_U_readRow_109 : decode prog_8_method_10_code 109 = .ok (.getfield 22, 3) := by decide +kernel
theorem d_U_readRow_112 : decode prog_8_method_10_code 112 = .ok (.iload_n 2, 1) := by decide +kernel
theorem d_U_readRow_113 : decode prog_8_method_10_code 113 = .ok (.iload_n 2, 1) := by decide +kernel
theorem d_U_readRow_114 : decode prog_8_method_10_code 114 = .ok (.iload 5, 2) := by decide +kernel
theorem d_U_readRow_116 : decode prog_8_method_10_code 116 = .ok (.iadd, 1) := by decide +kernel
theorem d_U_readRow_117 : decode prog_8_method_10_code 117 = .ok (.iload 6, 2) := by decide +kernel
theorem d_U_readRow_119 : decode prog_8_method_10_code 119 = .ok (.invokestatic 50, 3) := by decide +kernel
theorem d_U_readRow_122 : decode prog_8_method_10_code 122 = .ok (.iload_n 2, 1) := by decide +kernel
theorem d_U_readRow_123 : decode prog_8_method_10_code 123 = .ok (.iload 5, 2) := by decide +kernel
theorem d_U_readRow_125 : decode prog_8_method_10_code 125 = .ok (.iadd, 1) := by decide +kernel
theorem d_U_readRow_126 : decode prog_8_method_10_code 126 = .ok (.istore_n 2, 1) := by decide +kernel
theorem d_U_readRow_127 : decode prog_8_method_10_code 127 = .ok (.goto (-125), 3) := by decide +kernel
theorem d_U_readRow_130 : decode prog_8_method_10_code 130 = .ok (.iconst 0, 1) := by decide +kernel
theorem d_U_readRow_131 : decode prog_8_method_10_code 131 = .ok (.ireturn, 1) := by decide +kernel
set_option maxHeartbeats 4000000 in
set_option maxRecDepth 100000 in
theorem lp_U_row {p : Program} {l : Launch} {e : Env} {R : Room} {s : State} {m : MethodId} {args : Array Value} {below : List Frame} {meth : Method} {c : Code} {cells slots : Nat} {Q : State → Prop} {A : Nat → Prop} {D : va_G} (hx : p.tables.exec = Jvm.exec) (hb : c.code = prog_8_method_10_code) (hml : c.maxLocals = 7) (hown : s.vm.findClass "ZipGuard$Unpacker" = some m.cls) (ht : ∀ w ∈ zt, w.before args s = true) (hA : ∀ q, s.heap.size ≤ q → A q) (qu : Nat) (qw : Nat) (s1 : Nat) (s2 : Nat) (s3 : Nat) (s4 : Nat) (s5 : Nat) (qa : Nat) (qr : Nat) (qb : Nat) (l1 : Nat) (l2 : Nat) (l3 : Nat) (cB : ClassId) (cW : ClassId) (cL1 : ClassId) (cL3 : ClassId) (f : Nat → Int32) (g1 : Nat → Int32) (g3 : Nat → Int32) (bh : Nat) (d : Nat → Nat) (n : Nat) (RES : Int32 × Nat × (Nat → Nat)) (hbh : bh ≤ 20000) (hG : ∀ l, l ≤ 15 → g1 l = nI (zcn d 19 l)) (hg3 : ∀ i, i < 19 → 1 ≤ d i → g3 (zst d 19 (d i) + zcn d i (d i)) = nI i) (hn : n ≤ 320) (hF0 : 1 + 1 ≤ R.frames) (hL0 : 8 + (8 + 11) + 25 ≤ R.locals) (hF1 : 0 + 1 ≤ R.frames) (hL1 : 8 + (2 + 11) + 0 ≤ R.locals) (hF2 : 0 + 1 ≤ R.frames) (hL2 : 8 + (6 + 11) + 0 ≤ R.locals) (hF3 : 0 + 1 ≤ R.frames) (hL3 : 8 + (2 + 11) + 0 ≤ R.locals) (hF4 : 1 + 1 ≤ R.frames) (hL4 : 8 + (5 + 11) + 22 ≤ R.locals) (hcc : cells + 0 ≤ R.cells) (hss : slots + 0 ≤ R.slots) (hK : va_K D zcl [(cB, .byte), (cW, .int), (cL1, .int), (cL3, .int)] s) (k24 : ∀ (a1 u1 : Nat) (rw1 : Nat → Int32) (H : Heap) (locs : List Loc) (ls : Array Slot) (v : Int32), (v = (RES).1 ∧ u1 ≤ 7 ∧ a1 ≤ 20000 ∧ (v ≠ -30 → 8 * a1 + u1 = (RES).2.1 ∧ 8 * a1 + u1 ≤ 8 * bh) ∧ (v = 0 → ∀ k, k < n → rw1 k = nI ((RES).2.2 k) ∧ (RES).2.2 k ≤ 15)) → va_P D zcl [(qu, .inr (4, [.ref qa, .ref qr, .ref qw, .ref s1, .ref s2, .ref s3, .ref s4, .ref s5])), (qr, .inr (5, [.ref qb, .int (nI a1), .int (nI bh), .int (nI u1)])), (qb, .inl (cB, 20000, .inl f)), (qw, .inl (cW, 320, .inl rw1)), (s3, .inr (6, [.ref l1, .ref l2, .ref l3, .int (nI (zst d 19 16))])), (l1, .inl (cL1, 16, .inl g1)), (l3, .inl (cL3, 19, .inl g3))] H → va_D A [(qu, .inr (4, [.ref qa, .ref qr, .ref qw, .ref s1, .ref s2, .ref s3, .ref s4, .ref s5])), (qr, .inr (5, [.ref qb, .int (nI a1), .int (nI bh), .int (nI u1)])), (qb, .inl (cB, 20000, .inl f)), (qw, .inl (cW, 320, .inl rw1)), (s3, .inr (6, [.ref l1, .ref l2, .ref l3, .int (nI (zst d 19 16))])), (l1, .inl (cL1, 16, .inl g1)), (l3, .inl (cL3, 19, .inl g3))] → va_S A s.heap H locs → lv_has ls 7 [] → W p l e R s m args below meth c H locs cells slots Q (F0 m 24 ls [.int v])) (k46 : ∀ (a1 u1 : Nat) (rw1 : Nat → Int32) (H : Heap) (locs : List Loc) (ls : Array Slot) (v : Int32), (v = (RES).1 ∧ u1 ≤ 7 ∧ a1 ≤ 20000 ∧ (v ≠ -30 → 8 * a1 + u1 = (RES).2.1 ∧ 8 * a1 + u1 ≤ 8 * bh) ∧ (v = 0 → ∀ k, k < n → rw1 k = nI ((RES).2.2 k) ∧ (RES).2.2 k ≤ 15)) → va_P D zcl [(qu, .inr (4, [.ref qa, .ref qr, .ref qw, .ref s1, .ref s2, .ref s3, .ref s4, .ref s5])), (qr, .inr (5, [.ref qb, .int (nI a1), .int (nI bh), .int (nI u1)])), (qb, .inl (cB, 20000, .inl f)), (qw, .inl (cW, 320, .inl rw1)), (s3, .inr (6, [.ref l1, .ref l2, .ref l3, .int (nI (zst d 19 16))])), (l1, .inl (cL1, 16, .inl g1)), (l3, .inl (cL3, 19, .inl g3))] H → va_D A [(qu, .inr (4, [.ref qa, .ref qr, .ref qw, .ref s1, .ref s2, .ref s3, .ref s4, .ref s5])), (qr, .inr (5, [.ref qb, .int (nI a1), .int (nI bh), .int (nI u1)])), (qb, .inl (cB, 20000, .inl f)), (qw, .inl (cW, 320, .inl rw1)), (s3, .inr (6, [.ref l1, .ref l2, .ref l3, .int (nI (zst d 19 16))])), (l1, .inl (cL1, 16, .inl g1)), (l3, .inl (cL3, 19, .inl g3))] → va_S A s.heap H locs → lv_has ls 7 [] → W p l e R s m args below meth c H locs cells slots Q (F0 m 46 ls [.int v])) (k77 : ∀ (a1 u1 : Nat) (rw1 : Nat → Int32) (H : Heap) (locs : List Loc) (ls : Array Slot) (v : Int32), (v = (RES).1 ∧ u1 ≤ 7 ∧ a1 ≤ 20000 ∧ (v ≠ -30 → 8 * a1 + u1 = (RES).2.1 ∧ 8 * a1 + u1 ≤ 8 * bh) ∧ (v = 0 → ∀ k, k < n → rw1 k = nI ((RES).2.2 k) ∧ (RES).2.2 k ≤ 15)) → va_P D zcl [(qu, .inr (4, [.ref qa, .ref qr, .ref qw, .ref s1, .ref s2, .ref s3, .ref s4, .ref s5])), (qr, .inr (5, [.ref qb, .int (nI a1), .int (nI bh), .int (nI u1)])), (qb, .inl (cB, 20000, .inl f)), (qw, .inl (cW, 320, .inl rw1)), (s3, .inr (6, [.ref l1, .ref l2, .ref l3, .int (nI (zst d 19 16))])), (l1, .inl (cL1, 16, .inl g1)), (l3, .inl (cL3, 19, .inl g3))] H → va_D A [(qu, .inr (4, [.ref qa, .ref qr, .ref qw, .ref s1, .ref s2, .ref s3, .ref s4, .ref s5])), (qr, .inr (5, [.ref qb, .int (nI a1), .int (nI bh), .int (nI u1)])), (qb, .inl (cB, 20000, .inl f)), (qw, .inl (cW, 320, .inl rw1)), (s3, .inr (6, [.ref l1, .ref l2, .ref l3, .int (nI (zst d 19 16))])), (l1, .inl (cL1, 16, .inl g1)), (l3, .inl (cL3, 19, .inl g3))] → va_S A s.heap H locs → lv_has ls 7 [] → W p l e R s m args below meth c H locs cells slots Q (F0 m 77 ls [.int v]))
    (kk : ∀ (a1 : Nat) (u1 : Nat) (rw1 : Nat → Int32) (v : Int32) (H : Heap) (locs : List Loc) (ls : Array Slot), (v = (RES).1 ∧ u1 ≤ 7 ∧ a1 ≤ 20000 ∧ (v ≠ -30 → 8 * a1 + u1 = (RES).2.1 ∧ 8 * a1 + u1 ≤ 8 * bh) ∧ (v = 0 → ∀ k, k < n → rw1 k = nI ((RES).2.2 k) ∧ (RES).2.2 k ≤ 15)) → va_P D zcl [(qu, .inr (4, [.ref qa, .ref qr, .ref qw, .ref s1, .ref s2, .ref s3, .ref s4, .ref s5])), (qr, .inr (5, [.ref qb, .int (nI a1), .int (nI bh), .int (nI u1)])), (qb, .inl (cB, 20000, .inl f)), (qw, .inl (cW, 320, .inl rw1)), (s3, .inr (6, [.ref l1, .ref l2, .ref l3, .int (nI (zst d 19 16))])), (l1, .inl (cL1, 16, .inl g1)), (l3, .inl (cL3, 19, .inl g3))] H → va_D A [(qu, .inr (4, [.ref qa, .ref qr, .ref qw, .ref s1, .ref s2, .ref s3, .ref s4, .ref s5])), (qr, .inr (5, [.ref qb, .int (nI a1), .int (nI bh), .int (nI u1)])), (qb, .inl (cB, 20000, .inl f)), (qw, .inl (cW, 320, .inl rw1)), (s3, .inr (6, [.ref l1, .ref l2, .ref l3, .int (nI (zst d 19 16))])), (l1, .inl (cL1, 16, .inl g1)), (l3, .inl (cL3, 19, .inl g3))] → va_S A s.heap H locs → lv_has ls 7 [] → W p l e R s m args below meth c H locs cells slots Q (F0 m 131 ls [.int v])) :
    ∀ (j : Nat) (i : Nat) (a : Nat) (u : Nat) (rw : Nat → Int32) (mm : Nat → Nat) (H : Heap) (locs : List Loc) (ls : Array Slot), n ≤ i + j → i ≤ n → u ≤ 7 → 8 * a + u ≤ 8 * bh → (∀ k, k < i → rw k = nI (mm k)) → (∀ k, k < i → mm k ≤ 15) → zrow f bh d g3 n j i (8 * a + u) mm = RES → va_P D zcl [(qu, .inr (4, [.ref qa, .ref qr, .ref qw, .ref s1, .ref s2, .ref s3, .ref s4, .ref s5])), (qr, .inr (5, [.ref qb, .int (nI a), .int (nI bh), .int (nI u)])), (qb, .inl (cB, 20000, .inl f)), (qw, .inl (cW, 320, .inl rw)), (s3, .inr (6, [.ref l1, .ref l2, .ref l3, .int (nI (zst d 19 16))])), (l1, .inl (cL1, 16, .inl g1)), (l3, .inl (cL3, 19, .inl g3))] H → va_D A [(qu, .inr (4, [.ref qa, .ref qr, .ref qw, .ref s1, .ref s2, .ref s3, .ref s4, .ref s5])), (qr, .inr (5, [.ref qb, .int (nI a), .int (nI bh), .int (nI u)])), (qb, .inl (cB, 20000, .inl f)), (qw, .inl (cW, 320, .inl rw)), (s3, .inr (6, [.ref l1, .ref l2, .ref l3, .int (nI (zst d 19 16))])), (l1, .inl (cL1, 16, .inl g1)), (l3, .inl (cL3, 19, .inl g3))] → va_S A s.heap H locs → lv_has ls 7 [(2, .int (nI i)), (0, .ref qu), (1, .int (nI n))] → W p l e R s m args below meth c H locs cells slots Q (F0 m 2 ls []) := by
  intro j
  induction j with
  | zero =>
    intro i a u rw mm H locs ls hk hi hu hau hrw hmm hR hP hD hS hl
    unfold zrow at hR
    have hin : i = n := by omega
    subst hin
    refine lv_iload_n hx hb d_U_readRow_2 rfl (lv_at hl 0 rfl) ?_
    refine lv_iload_n hx hb d_U_readRow_3 rfl (lv_at hl 2 rfl) ?_
    refine lv_icmp_ge (tgt := 130) hx hb d_U_readRow_4 (by decide) (fun _ => ?_) (fun h => absurd (nI_le (by omega) (by omega)) h)
    refine lv_iconst (v := 0) hx hb d_U_readRow_130 (by decide) ?_
    exact kk a u rw 0 H locs ls ⟨by rw [← hR], hu, by omega, fun _ => ⟨by rw [← hR], hau⟩, fun _ k hk => by rw [← hR]; exact ⟨hrw k hk, hmm k hk⟩⟩ hP hD hS (lv_sub hl [] rfl)
  | succ j ih =>
    intro i a u rw mm H locs ls hk hi hu hau hrw hmm hR hP hD hS hl
    unfold zrow at hR
    by_cases hni : n ≤ i
    · skip
      rw [if_pos hni] at hR
      have hin : i = n := by omega
      subst hin
      refine lv_iload_n hx hb d_U_readRow_2 rfl (lv_at hl 0 rfl) ?_
      refine lv_iload_n hx hb d_U_readRow_3 rfl (lv_at hl 2 rfl) ?_
      refine lv_icmp_ge (tgt := 130) hx hb d_U_readRow_4 (by decide) (fun _ => ?_) (fun h => absurd (nI_le (by omega) (by omega)) h)
      refine lv_iconst (v := 0) hx hb d_U_readRow_130 (by decide) ?_
      exact kk a u rw 0 H locs ls ⟨by rw [← hR], hu, by omega, fun _ => ⟨by rw [← hR], hau⟩, fun _ k hk => by rw [← hR]; exact ⟨hrw k hk, hmm k hk⟩⟩ hP hD hS (lv_sub hl [] rfl)
    · skip
      rw [if_neg hni] at hR
      refine lv_iload_n hx hb d_U_readRow_2 rfl (lv_at hl 0 rfl) ?_
      refine lv_iload_n hx hb d_U_readRow_3 rfl (lv_at hl 2 rfl) ?_
      refine lv_icmp_ge (tgt := 130) hx hb d_U_readRow_4 (by decide) (fun h => absurd h (nI_ge (by omega) (by omega))) (fun _ => ?_)
      refine lv_aload_n hx hb d_U_readRow_7 rfl (lv_at hl 1 rfl) ?_
      refine va_get (ci := 4) (C := "ZipGuard$Unpacker") (T := F_U) (N := 8) hx hb ht zi_U hown hK hP 0 rfl rfl 5 (by decide) (ht _ zm_375) (fun _ h9 => h9) rfl d_U_readRow_8 ?_
      refine lv_aload_n hx hb d_U_readRow_11 rfl (lv_at hl 1 rfl) ?_
      refine va_get (ci := 4) (C := "ZipGuard$Unpacker") (T := F_U) (N := 8) hx hb ht zi_U hown hK hP 0 rfl rfl 1 (by decide) (ht _ zm_371) (fun _ h9 => h9) rfl d_U_readRow_12 ?_
      refine zji (wr := [(qu, .inr (4, [.ref qa, .ref qr, .ref qw, .ref s1, .ref s2, .ref s3, .ref s4, .ref s5])), (qw, .inl (cW, 320, .inl rw))]) (va_runV (As := [.ref qr]) (rest := []) ⟨hx, hb, hml, hown, ht⟩ (c_C_next l D _ s3 l1 l2 l3 qr qb cL1 cL3 cB g1 g3 f 19 bh d 19 a u hG (by decide) (by decide) (by decide) hbh hu (by omega)) (cwV 1 ht (zt_goodV zm_653 zm_654 zm_655 zm_72 zm_656) rfl rfl rfl (by decide +kernel) ⟨hF0, hL0⟩) (zpreV zBlind_t hK hP hD [4, 5, 6, 1, 2] [2, 3, 0] rfl (by decide) rfl (fun _ _ _ => trivial) (va_recv (q := ("ZipGuard$CodeSet", F_C, 4)) hK hP rfl (q0 := 4) (ci := 6) rfl)) rfl rfl hl.1 rfl (lv_room (Nat.le_of_ble_eq_true rfl)) d_U_readRow_15 ⟨hcc, hss⟩) hK hP hD hS hA [4, 5, 6, 1, 2] [0, 3] rfl rfl (by decide) (by decide) (fun r4 u9 H locs hp5 hP hD hK hS => ?_)
      obtain ⟨a3, u3⟩ := u9
      dsimp only at hp5 hP hD hK
      have hP : va_P D zcl [(qu, .inr (4, [.ref qa, .ref qr, .ref qw, .ref s1, .ref s2, .ref s3, .ref s4, .ref s5])), (qw, .inl (cW, 320, .inl rw)), (s3, .inr (6, [.ref l1, .ref l2, .ref l3, .int (nI (zst d 19 16))])), (l1, .inl (cL1, 16, .inl g1)), (l3, .inl (cL3, 19, .inl g3)), (qr, .inr (5, [.ref qb, .int (nI a3), .int (nI bh), .int (nI u3)])), (qb, .inl (cB, 20000, .inl f))] H := hP
      have hD : va_D A [(qu, .inr (4, [.ref qa, .ref qr, .ref qw, .ref s1, .ref s2, .ref s3, .ref s4, .ref s5])), (qw, .inl (cW, 320, .inl rw)), (s3, .inr (6, [.ref l1, .ref l2, .ref l3, .int (nI (zst d 19 16))])), (l1, .inl (cL1, 16, .inl g1)), (l3, .inl (cL3, 19, .inl g3)), (qr, .inr (5, [.ref qb, .int (nI a3), .int (nI bh), .int (nI u3)])), (qb, .inl (cB, 20000, .inl f))] := hD
      have hK : va_K D zcl [(cB, .byte), (cW, .int), (cL1, .int), (cL3, .int), (cL1, .int), (cL3, .int), (cB, .byte)] s := hK
      have hP := hP.sub (ws' := [(qu, .inr (4, [.ref qa, .ref qr, .ref qw, .ref s1, .ref s2, .ref s3, .ref s4, .ref s5])), (qr, .inr (5, [.ref qb, .int (nI a3), .int (nI bh), .int (nI u3)])), (qb, .inl (cB, 20000, .inl f)), (qw, .inl (cW, 320, .inl rw)), (s3, .inr (6, [.ref l1, .ref l2, .ref l3, .int (nI (zst d 19 16))])), (l1, .inl (cL1, 16, .inl g1)), (l3, .inl (cL3, 19, .inl g3))]) [0, 5, 6, 1, 2, 3, 4] rfl
      have hD := hD.sub (ws' := [(qu, .inr (4, [.ref qa, .ref qr, .ref qw, .ref s1, .ref s2, .ref s3, .ref s4, .ref s5])), (qr, .inr (5, [.ref qb, .int (nI a3), .int (nI bh), .int (nI u3)])), (qb, .inl (cB, 20000, .inl f)), (qw, .inl (cW, 320, .inl rw)), (s3, .inr (6, [.ref l1, .ref l2, .ref l3, .int (nI (zst d 19 16))])), (l1, .inl (cL1, 16, .inl g1)), (l3, .inl (cL3, 19, .inl g3))]) [0, 5, 6, 1, 2, 3, 4] (by decide) rfl
      have hK := hK.sub (tys' := [(cB, .byte), (cW, .int), (cL1, .int), (cL3, .int)]) [0, 1, 2, 3] rfl
      obtain ⟨hp5, hu3, ha3, hpos3⟩ := hp5
      have hxv := znx_val (f := f) (bh := bh) hg3 15 1 (8 * a + u) 0 0 0 (by decide) (by simp [zst])
      generalize znx f d 19 g3 bh 15 1 (8 * a + u) 0 0 0 = x at hp5 hpos3 hxv hR
      obtain ⟨x1, x2⟩ := x
      dsimp only at hp5 hpos3 hxv hR
      subst hp5
      have hx2 := hxv.2 (by omega)
      refine lv_istore_n (lv' := [(3, .int r4), (2, .int (nI i)), (0, .ref qu), (1, .int (nI n))]) hx hb d_U_readRow_18 rfl hl (by decide) rfl (fun ls hl => ?_)
      refine lv_iload_n hx hb d_U_readRow_19 rfl (lv_at hl 0 rfl) ?_
      by_cases hy9 : ∃ y, y < 19 ∧ r4 = nI y
      · skip
        obtain ⟨y, hyn, hie⟩ := hy9
        subst hie
        have hp3 := (hpos3 (fun h => absurd h (fun h => by have h9 := congrArg Int32.toInt h; rw [nI_toInt (by omega), show (-30 : Int32).toInt = -30 by decide] at h9; omega)))
        rw [if_neg (nI_pos (by omega)), nI_clamp (n := y) (by omega)] at hR
        refine lv_if_ge (tgt := 25) hx hb d_U_readRow_20 (by decide) (fun _ => ?_) (fun h => absurd (nI_pos' (by omega)) h)
        refine lv_aload_n hx hb d_U_readRow_25 rfl (lv_at hl 2 rfl) ?_
        refine va_get (ci := 4) (C := "ZipGuard$Unpacker") (T := F_U) (N := 8) hx hb ht zi_U hown hK hP 0 rfl rfl 1 (by decide) (ht _ zm_371) (fun _ h9 => h9) rfl d_U_readRow_26 ?_
        refine lv_aload_n hx hb d_U_readRow_29 rfl (lv_at hl 2 rfl) ?_
        refine lv_iload_n hx hb d_U_readRow_30 rfl (lv_at hl 0 rfl) ?_
        refine zjR (va_runV (As := [.int (nI y)]) (rest := [.ref qr]) ⟨hx, hb, hml, hown, ht⟩ (r_U_rep l D qu qw s1 s2 s3 s4 s5 qr qa y (by omega)) (cwV 1 ht (zt_goodV zm_687 zm_688 zm_27 zm_70 zm_689) rfl rfl rfl (by decide +kernel) ⟨hF1, hL1⟩) (zpreRV zBlind_t hK hP [0] [] rfl rfl (fun _ _ _ => trivial) (va_recv (q := ("ZipGuard$Unpacker", F_U, 8)) hK hP rfl (q0 := 0) (ci := 4) rfl)) rfl rfl hl.1 rfl (lv_room (Nat.le_of_ble_eq_true rfl)) d_U_readRow_31 ⟨hcc, hss⟩) (fun r7 hp8 => ?_)
        have hp8 := hp8.symm
        subst hp8
        have hrp := zrep_le y
        have hls := zlst_le y
        have hzb := zbits_lt f x2 (zrep y)
        have hpw := zpow_le hrp
        refine zji (wr := [(qu, .inr (4, [.ref qa, .ref qr, .ref qw, .ref s1, .ref s2, .ref s3, .ref s4, .ref s5])), (qw, .inl (cW, 320, .inl rw)), (s3, .inr (6, [.ref l1, .ref l2, .ref l3, .int (nI (zst d 19 16))])), (l1, .inl (cL1, 16, .inl g1)), (l3, .inl (cL3, 19, .inl g3))]) (va_runV (As := [.int (nI (zrep y))]) (rest := []) ⟨hx, hb, hml, hown, ht⟩ (c_B_read l D _ qr qb cB f bh (zrep y) a3 u3 hbh (by omega) hu3 ha3) (cwV 1 ht (zt_goodV zm_629 zm_630 zm_631 zm_71 zm_632) rfl rfl rfl (by decide +kernel) ⟨hF2, hL2⟩) (zpreV zBlind_t hK hP hD [1, 2] [0] rfl (by decide) rfl (fun _ _ _ => trivial) (va_recv (q := ("ZipGuard$BitReader", F_B, 4)) hK hP rfl (q0 := 1) (ci := 5) rfl)) rfl rfl hl.1 rfl (lv_room (Nat.le_of_ble_eq_true rfl)) d_U_readRow_34 ⟨hcc, hss⟩) hK hP hD hS hA [1, 2] [0, 3, 4, 5, 6] rfl rfl (by decide) (by decide) (fun r9 u9 H locs hp10 hP hD hK hS => ?_)
        obtain ⟨a1, u1⟩ := u9
        dsimp only at hp10 hP hD hK
        have hP : va_P D zcl [(qu, .inr (4, [.ref qa, .ref qr, .ref qw, .ref s1, .ref s2, .ref s3, .ref s4, .ref s5])), (qw, .inl (cW, 320, .inl rw)), (s3, .inr (6, [.ref l1, .ref l2, .ref l3, .int (nI (zst d 19 16))])), (l1, .inl (cL1, 16, .inl g1)), (l3, .inl (cL3, 19, .inl g3)), (qr, .inr (5, [.ref qb, .int (nI a1), .int (nI bh), .int (nI u1)])), (qb, .inl (cB, 20000, .inl f))] H := hP
        have hD : va_D A [(qu, .inr (4, [.ref qa, .ref qr, .ref qw, .ref s1, .ref s2, .ref s3, .ref s4, .ref s5])), (qw, .inl (cW, 320, .inl rw)), (s3, .inr (6, [.ref l1, .ref l2, .ref l3, .int (nI (zst d 19 16))])), (l1, .inl (cL1, 16, .inl g1)), (l3, .inl (cL3, 19, .inl g3)), (qr, .inr (5, [.ref qb, .int (nI a1), .int (nI bh), .int (nI u1)])), (qb, .inl (cB, 20000, .inl f))] := hD
        have hK : va_K D zcl [(cB, .byte), (cW, .int), (cL1, .int), (cL3, .int), (cB, .byte)] s := hK
        have hP := hP.sub (ws' := [(qu, .inr (4, [.ref qa, .ref qr, .ref qw, .ref s1, .ref s2, .ref s3, .ref s4, .ref s5])), (qr, .inr (5, [.ref qb, .int (nI a1), .int (nI bh), .int (nI u1)])), (qb, .inl (cB, 20000, .inl f)), (qw, .inl (cW, 320, .inl rw)), (s3, .inr (6, [.ref l1, .ref l2, .ref l3, .int (nI (zst d 19 16))])), (l1, .inl (cL1, 16, .inl g1)), (l3, .inl (cL3, 19, .inl g3))]) [0, 5, 6, 1, 2, 3, 4] rfl
        have hD := hD.sub (ws' := [(qu, .inr (4, [.ref qa, .ref qr, .ref qw, .ref s1, .ref s2, .ref s3, .ref s4, .ref s5])), (qr, .inr (5, [.ref qb, .int (nI a1), .int (nI bh), .int (nI u1)])), (qb, .inl (cB, 20000, .inl f)), (qw, .inl (cW, 320, .inl rw)), (s3, .inr (6, [.ref l1, .ref l2, .ref l3, .int (nI (zst d 19 16))])), (l1, .inl (cL1, 16, .inl g1)), (l3, .inl (cL3, 19, .inl g3))]) [0, 5, 6, 1, 2, 3, 4] (by decide) rfl
        have hK := hK.sub (tys' := [(cB, .byte), (cW, .int), (cL1, .int), (cL3, .int)]) [0, 1, 2, 3] rfl
        obtain ⟨hu1, ha1, hp10⟩ := hp10
        rw [hp3] at hp10
        refine lv_istore (lv' := [(4, .int r9), (3, .int (nI y)), (2, .int (nI i)), (0, .ref qu), (1, .int (nI n))]) hx hb d_U_readRow_37 hl (by decide) rfl (fun ls hl => ?_)
        refine lv_iload hx hb d_U_readRow_39 (lv_at hl 0 rfl) ?_
        rcases hp10 with ⟨hp10, hpos4, hle4⟩ | ⟨hp10, hend4⟩
        · skip
          have hp10 := hp10.symm
          subst hp10
          rw [if_neg (show ¬ 8 * bh < x2 + zrep y by omega)] at hR
          refine lv_if_ge (tgt := 47) hx hb d_U_readRow_41 (by decide) (fun _ => ?_) (fun h => absurd (nI_pos' (by omega)) h)
          refine lv_aload_n hx hb d_U_readRow_47 rfl (lv_at hl 3 rfl) ?_
          refine lv_iload_n hx hb d_U_readRow_48 rfl (lv_at hl 1 rfl) ?_
          refine zjR (va_runV (As := [.int (nI y)]) (rest := []) ⟨hx, hb, hml, hown, ht⟩ (r_U_lst l D qu qw s1 s2 s3 s4 s5 qr qa y (by omega)) (cwV 1 ht (zt_goodV zm_690 zm_691 zm_28 zm_70 zm_692) rfl rfl rfl (by decide +kernel) ⟨hF3, hL3⟩) (zpreRV zBlind_t hK hP [0] [] rfl rfl (fun _ _ _ => trivial) (va_recv (q := ("ZipGuard$Unpacker", F_U, 8)) hK hP rfl (q0 := 0) (ci := 4) rfl)) rfl rfl hl.1 rfl (lv_room (Nat.le_of_ble_eq_true rfl)) d_U_readRow_49 ⟨hcc, hss⟩) (fun r12 hp13 => ?_)
          have hp13 := hp13.symm
          subst hp13
          refine lv_iload hx hb d_U_readRow_52 (lv_at hl 0 rfl) ?_
          refine lv_iadd hx hb d_U_readRow_54 ?_
          refine lv_topi (fun x14 e_x14 => ?_)
          have e_x14 : x14 = nI (zlst y + zbits f x2 (zrep y)) := by rw [e_x14]; exact nI_add _ _
          subst e_x14
          obtain ⟨t, hte⟩ : ∃ t, t = zlst y + zbits f x2 (zrep y) := ⟨_, rfl⟩
          rw [← hte] at hR ⊢
          have ht1 : 1 ≤ t ∧ t ≤ 139 := by omega
          refine lv_istore (lv' := [(5, .int (nI t)), (4, .int (nI (zbits f x2 (zrep y)))), (3, .int (nI y)), (2, .int (nI i)), (0, .ref qu), (1, .int (nI n))]) hx hb d_U_readRow_55 hl (by decide) rfl (fun ls hl => ?_)
          refine lv_iload_n hx hb d_U_readRow_57 rfl (lv_at hl 2 rfl) ?_
          refine lv_bipush (v := 16) hx hb d_U_readRow_58 (by decide) ?_
          by_cases h16 : y = 16
          · skip
            refine lv_icmp_ne (tgt := 67) hx hb d_U_readRow_60 (by decide) (fun h => absurd (by rw [h16]; rfl) h) (fun _ => ?_)
            refine lv_iload_n hx hb d_U_readRow_63 rfl (lv_at hl 3 rfl) ?_
            by_cases hi0 : i = 0
            · skip
              rw [if_pos (Or.inl ⟨h16, hi0⟩)] at hR
              refine lv_if_eq (tgt := 75) hx hb d_U_readRow_64 (by decide) (fun _ => ?_) (fun h => absurd (by rw [hi0]; rfl) h)
              refine lv_bipush (v := (-33)) hx hb d_U_readRow_75 (by decide) ?_
              exact k77 a1 u1 rw H locs ls (-33) ⟨by rw [← hR], hu1, ha1, fun _ => ⟨by rw [← hR]; exact hpos4, by omega⟩, fun h => absurd h (by decide)⟩ hP hD hS (lv_sub hl [] rfl)
            · skip
              refine lv_if_eq (tgt := 75) hx hb d_U_readRow_64 (by decide) (fun h => absurd h (nI_ne0 (by omega) (by omega))) (fun _ => ?_)
              refine lv_iload_n hx hb d_U_readRow_67 rfl (lv_at hl 3 rfl) ?_
              refine lv_iload hx hb d_U_readRow_68 (lv_at hl 0 rfl) ?_
              refine lv_iadd hx hb d_U_readRow_70 ?_
              refine lv_topi (fun x18 e_x18 => ?_)
              have e_x18 : x18 = nI (i + t) := by rw [e_x18]; exact nI_add _ _
              subst e_x18
              refine lv_iload_n hx hb d_U_readRow_71 rfl (lv_at hl 5 rfl) ?_
              by_cases hnt : n < i + t
              · skip
                rw [if_pos (Or.inr hnt)] at hR
                refine lv_icmp_le (tgt := 78) hx hb d_U_readRow_72 (by decide) (fun h => absurd h (nI_ge hnt (by omega))) (fun _ => ?_)
                refine lv_bipush (v := (-33)) hx hb d_U_readRow_75 (by decide) ?_
                exact k77 a1 u1 rw H locs ls (-33) ⟨by rw [← hR], hu1, ha1, fun _ => ⟨by rw [← hR]; exact hpos4, by omega⟩, fun h => absurd h (by decide)⟩ hP hD hS (lv_sub hl [] rfl)
              · skip
                rw [if_neg (by omega)] at hR
                refine lv_icmp_le (tgt := 78) hx hb d_U_readRow_72 (by decide) (fun _ => ?_) (fun h => absurd (nI_le (by omega) (by omega)) h)
                refine lv_iload_n hx hb d_U_readRow_78 rfl (lv_at hl 2 rfl) ?_
                refine lv_bipush (v := 16) hx hb d_U_readRow_79 (by decide) ?_
                refine lv_icmp_ge (tgt := 88) hx hb d_U_readRow_81 (by decide) (fun _ => ?_) (fun h => absurd (by rw [h16]; decide) h)
                refine lv_iload_n hx hb d_U_readRow_88 rfl (lv_at hl 2 rfl) ?_
                refine lv_bipush (v := 16) hx hb d_U_readRow_89 (by decide) ?_
                refine lv_icmp_ne (tgt := 105) hx hb d_U_readRow_91 (by decide) (fun h => absurd (by rw [h16]; rfl) h) (fun _ => ?_)
                refine lv_aload_n hx hb d_U_readRow_94 rfl (lv_at hl 4 rfl) ?_
                refine va_get (ci := 4) (C := "ZipGuard$Unpacker") (T := F_U) (N := 8) hx hb ht zi_U hown hK hP 0 rfl rfl 2 (by decide) (ht _ zm_372) (fun _ h9 => h9) rfl d_U_readRow_95 ?_
                refine lv_iload_n hx hb d_U_readRow_98 rfl (lv_at hl 3 rfl) ?_
                refine lv_iconst (v := 1) hx hb d_U_readRow_99 (by decide) ?_
                refine lv_isub hx hb d_U_readRow_100 ?_
                refine lv_topi (fun x23 e_x23 => ?_)
                have e_x23 : x23 = nI (i - 1) := by rw [e_x23]; exact (show nI i - nI 1 = nI (i - 1) from pk_sub (by omega))
                subst e_x23
                refine va_iald hx hb hK hP 3 1 rfl rfl (vp_in_nI (by omega) (by decide)) d_U_readRow_101 ?_
                refine lv_topi (fun x24 e_x24 => ?_)
                have e_x24 : x24 = nI (mm (i - 1)) := by rw [e_x24, nI_clamp (by omega)]; exact hrw _ (by omega)
                subst e_x24
                have hv9 : mm (i - 1) = zrl y i mm := by unfold zrl; rw [if_neg (by omega), if_pos h16]
                refine lv_goto (tgt := 106) hx hb d_U_readRow_102 (by decide) ?_
                refine lv_istore (lv' := [(6, .int (nI (mm (i - 1)))), (5, .int (nI t)), (4, .int (nI (zbits f x2 (zrep y)))), (3, .int (nI y)), (2, .int (nI i)), (0, .ref qu), (1, .int (nI n))]) hx hb d_U_readRow_106 hl (by decide) rfl (fun ls hl => ?_)
                refine lv_aload_n hx hb d_U_readRow_108 rfl (lv_at hl 5 rfl) ?_
                refine va_get (ci := 4) (C := "ZipGuard$Unpacker") (T := F_U) (N := 8) hx hb ht zi_U hown hK hP 0 rfl rfl 2 (by decide) (ht _ zm_372) (fun _ h9 => h9) rfl d_U_readRow_109 ?_
                refine lv_iload_n hx hb d_U_readRow_112 rfl (lv_at hl 4 rfl) ?_
                refine lv_iload_n hx hb d_U_readRow_113 rfl (lv_at hl 4 rfl) ?_
                refine lv_iload hx hb d_U_readRow_114 (lv_at hl 1 rfl) ?_
                refine lv_iadd hx hb d_U_readRow_116 ?_
                refine lv_topi (fun x25 e_x25 => ?_)
                have e_x25 : x25 = nI (i + t) := by rw [e_x25]; exact nI_add _ _
                subst e_x25
                refine lv_iload hx hb d_U_readRow_117 (lv_at hl 0 rfl) ?_
                refine zjv (wr := [(qu, .inr (4, [.ref qa, .ref qr, .ref qw, .ref s1, .ref s2, .ref s3, .ref s4, .ref s5])), (qr, .inr (5, [.ref qb, .int (nI a1), .int (nI bh), .int (nI u1)])), (qb, .inl (cB, 20000, .inl f)), (s3, .inr (6, [.ref l1, .ref l2, .ref l3, .int (nI (zst d 19 16))])), (l1, .inl (cL1, 16, .inl g1)), (l3, .inl (cL3, 19, .inl g3))]) (va_runS (As := [.ref qw, .int (nI i), .int (nI (i + t)), .int (nI (mm (i - 1)))]) (rest := []) ⟨hx, hb, hml, hown, ht⟩ (c_J_fillr l D _ qw cW 320 rw i (i + t) (nI (mm (i - 1))) (by omega) (by omega) (by decide)) (zcwS 4 ht zm_273 zm_274 zm_73 zm_275 rfl rfl (by decide +kernel) ⟨hF4, hL4⟩) (zpre zBlind_t hK hP hD [3] [1] rfl (by decide) rfl (fun _ _ _ => trivial)) rfl rfl hl.1 rfl (lv_room (Nat.le_of_ble_eq_true rfl)) d_U_readRow_119 ⟨hcc, hss⟩) hK hP hD hS hA [3] [0, 1, 2, 4, 5, 6] rfl rfl (by decide) (by decide) (fun u9 H locs hp27 hP hD hK hS => ?_)
                have hP : va_P D zcl [(qu, .inr (4, [.ref qa, .ref qr, .ref qw, .ref s1, .ref s2, .ref s3, .ref s4, .ref s5])), (qr, .inr (5, [.ref qb, .int (nI a1), .int (nI bh), .int (nI u1)])), (qb, .inl (cB, 20000, .inl f)), (s3, .inr (6, [.ref l1, .ref l2, .ref l3, .int (nI (zst d 19 16))])), (l1, .inl (cL1, 16, .inl g1)), (l3, .inl (cL3, 19, .inl g3)), (qw, .inl (cW, 320, .inl (zfill rw (nI (mm (i - 1))) i (i + t))))] H := hP
                have hD : va_D A [(qu, .inr (4, [.ref qa, .ref qr, .ref qw, .ref s1, .ref s2, .ref s3, .ref s4, .ref s5])), (qr, .inr (5, [.ref qb, .int (nI a1), .int (nI bh), .int (nI u1)])), (qb, .inl (cB, 20000, .inl f)), (s3, .inr (6, [.ref l1, .ref l2, .ref l3, .int (nI (zst d 19 16))])), (l1, .inl (cL1, 16, .inl g1)), (l3, .inl (cL3, 19, .inl g3)), (qw, .inl (cW, 320, .inl (zfill rw (nI (mm (i - 1))) i (i + t))))] := hD
                have hK : va_K D zcl [(cB, .byte), (cW, .int), (cL1, .int), (cL3, .int), (cW, .int)] s := hK
                have hP := hP.sub (ws' := [(qu, .inr (4, [.ref qa, .ref qr, .ref qw, .ref s1, .ref s2, .ref s3, .ref s4, .ref s5])), (qr, .inr (5, [.ref qb, .int (nI a1), .int (nI bh), .int (nI u1)])), (qb, .inl (cB, 20000, .inl f)), (qw, .inl (cW, 320, .inl (zfill rw (nI (mm (i - 1))) i (i + t)))), (s3, .inr (6, [.ref l1, .ref l2, .ref l3, .int (nI (zst d 19 16))])), (l1, .inl (cL1, 16, .inl g1)), (l3, .inl (cL3, 19, .inl g3))]) [0, 1, 2, 6, 3, 4, 5] rfl
                have hD := hD.sub (ws' := [(qu, .inr (4, [.ref qa, .ref qr, .ref qw, .ref s1, .ref s2, .ref s3, .ref s4, .ref s5])), (qr, .inr (5, [.ref qb, .int (nI a1), .int (nI bh), .int (nI u1)])), (qb, .inl (cB, 20000, .inl f)), (qw, .inl (cW, 320, .inl (zfill rw (nI (mm (i - 1))) i (i + t)))), (s3, .inr (6, [.ref l1, .ref l2, .ref l3, .int (nI (zst d 19 16))])), (l1, .inl (cL1, 16, .inl g1)), (l3, .inl (cL3, 19, .inl g3))]) [0, 1, 2, 6, 3, 4, 5] (by decide) rfl
                have hK := hK.sub (tys' := [(cB, .byte), (cW, .int), (cL1, .int), (cL3, .int)]) [0, 1, 2, 3] rfl
                refine lv_iload_n hx hb d_U_readRow_122 rfl (lv_at hl 4 rfl) ?_
                refine lv_iload hx hb d_U_readRow_123 (lv_at hl 1 rfl) ?_
                refine lv_iadd hx hb d_U_readRow_125 ?_
                refine lv_topi (fun x28 e_x28 => ?_)
                have e_x28 : x28 = nI (i + t) := by rw [e_x28]; exact nI_add _ _
                subst e_x28
                refine lv_istore_n (lv' := [(2, .int (nI (i + t))), (6, .int (nI (mm (i - 1)))), (5, .int (nI t)), (4, .int (nI (zbits f x2 (zrep y)))), (3, .int (nI y)), (0, .ref qu), (1, .int (nI n))]) hx hb d_U_readRow_126 rfl hl (by decide) rfl (fun ls hl => ?_)
                refine lv_goto (tgt := 2) hx hb d_U_readRow_127 (by decide) ?_
                exact ih (i + t) a1 u1 (zfill rw (nI (mm (i - 1))) i (i + t)) (zrf mm (mm (i - 1)) i t) H locs ls (by omega) (by omega) hu1 (by omega) (zrf_n hrw) (zrf_le (by rw [hv9]; exact zrl_le hmm (by omega)) hmm) (by rw [hpos4]; rw [← hv9] at hR; exact hR) hP hD hS (lv_sub hl [0, 5, 6] rfl)
          · skip
            refine lv_icmp_ne (tgt := 67) hx hb d_U_readRow_60 (by decide) (fun _ => ?_) (fun h => absurd h (show ¬ nI y = nI 16 from fun h => h16 ((nI_eq (by omega) (by decide)).mp h)))
            refine lv_iload_n hx hb d_U_readRow_67 rfl (lv_at hl 3 rfl) ?_
            refine lv_iload hx hb d_U_readRow_68 (lv_at hl 0 rfl) ?_
            refine lv_iadd hx hb d_U_readRow_70 ?_
            refine lv_topi (fun x30 e_x30 => ?_)
            have e_x30 : x30 = nI (i + t) := by rw [e_x30]; exact nI_add _ _
            subst e_x30
            refine lv_iload_n hx hb d_U_readRow_71 rfl (lv_at hl 5 rfl) ?_
            by_cases hnt : n < i + t
            · skip
              rw [if_pos (Or.inr hnt)] at hR
              refine lv_icmp_le (tgt := 78) hx hb d_U_readRow_72 (by decide) (fun h => absurd h (nI_ge hnt (by omega))) (fun _ => ?_)
              refine lv_bipush (v := (-33)) hx hb d_U_readRow_75 (by decide) ?_
              exact k77 a1 u1 rw H locs ls (-33) ⟨by rw [← hR], hu1, ha1, fun _ => ⟨by rw [← hR]; exact hpos4, by omega⟩, fun h => absurd h (by decide)⟩ hP hD hS (lv_sub hl [] rfl)
            · skip
              rw [if_neg (by omega)] at hR
              refine lv_icmp_le (tgt := 78) hx hb d_U_readRow_72 (by decide) (fun _ => ?_) (fun h => absurd (nI_le (by omega) (by omega)) h)
              refine lv_iload_n hx hb d_U_readRow_78 rfl (lv_at hl 2 rfl) ?_
              refine lv_bipush (v := 16) hx hb d_U_readRow_79 (by decide) ?_
              by_cases hy6 : y < 16
              · skip
                refine lv_icmp_ge (tgt := 88) hx hb d_U_readRow_81 (by decide) (fun h => absurd h (show ¬ nI 16 ≤ nI y from nI_ge hy6 (by decide))) (fun _ => ?_)
                have hv9 : y = zrl y i mm := by unfold zrl; rw [if_pos hy6]
                refine lv_iload_n hx hb d_U_readRow_84 rfl (lv_at hl 2 rfl) ?_
                refine lv_goto (tgt := 106) hx hb d_U_readRow_85 (by decide) ?_
                refine lv_istore (lv' := [(6, .int (nI y)), (5, .int (nI t)), (4, .int (nI (zbits f x2 (zrep y)))), (3, .int (nI y)), (2, .int (nI i)), (0, .ref qu), (1, .int (nI n))]) hx hb d_U_readRow_106 hl (by decide) rfl (fun ls hl => ?_)
                refine lv_aload_n hx hb d_U_readRow_108 rfl (lv_at hl 5 rfl) ?_
                refine va_get (ci := 4) (C := "ZipGuard$Unpacker") (T := F_U) (N := 8) hx hb ht zi_U hown hK hP 0 rfl rfl 2 (by decide) (ht _ zm_372) (fun _ h9 => h9) rfl d_U_readRow_109 ?_
                refine lv_iload_n hx hb d_U_readRow_112 rfl (lv_at hl 4 rfl) ?_
                refine lv_iload_n hx hb d_U_readRow_113 rfl (lv_at hl 4 rfl) ?_
                refine lv_iload hx hb d_U_readRow_114 (lv_at hl 1 rfl) ?_
                refine lv_iadd hx hb d_U_readRow_116 ?_
                refine lv_topi (fun x34 e_x34 => ?_)
                have e_x34 : x34 = nI (i + t) := by rw [e_x34]; exact nI_add _ _
                subst e_x34
                refine lv_iload hx hb d_U_readRow_117 (lv_at hl 0 rfl) ?_
                refine zjv (wr := [(qu, .inr (4, [.ref qa, .ref qr, .ref qw, .ref s1, .ref s2, .ref s3, .ref s4, .ref s5])), (qr, .inr (5, [.ref qb, .int (nI a1), .int (nI bh), .int (nI u1)])), (qb, .inl (cB, 20000, .inl f)), (s3, .inr (6, [.ref l1, .ref l2, .ref l3, .int (nI (zst d 19 16))])), (l1, .inl (cL1, 16, .inl g1)), (l3, .inl (cL3, 19, .inl g3))]) (va_runS (As := [.ref qw, .int (nI i), .int (nI (i + t)), .int (nI y)]) (rest := []) ⟨hx, hb, hml, hown, ht⟩ (c_J_fillr l D _ qw cW 320 rw i (i + t) (nI (y)) (by omega) (by omega) (by decide)) (zcwS 4 ht zm_273 zm_274 zm_73 zm_275 rfl rfl (by decide +kernel) ⟨hF4, hL4⟩) (zpre zBlind_t hK hP hD [3] [1] rfl (by decide) rfl (fun _ _ _ => trivial)) rfl rfl hl.1 rfl (lv_room (Nat.le_of_ble_eq_true rfl)) d_U_readRow_119 ⟨hcc, hss⟩) hK hP hD hS hA [3] [0, 1, 2, 4, 5, 6] rfl rfl (by decide) (by decide) (fun u9 H locs hp36 hP hD hK hS => ?_)
                have hP : va_P D zcl [(qu, .inr (4, [.ref qa, .ref qr, .ref qw, .ref s1, .ref s2, .ref s3, .ref s4, .ref s5])), (qr, .inr (5, [.ref qb, .int (nI a1), .int (nI bh), .int (nI u1)])), (qb, .inl (cB, 20000, .inl f)), (s3, .inr (6, [.ref l1, .ref l2, .ref l3, .int (nI (zst d 19 16))])), (l1, .inl (cL1, 16, .inl g1)), (l3, .inl (cL3, 19, .inl g3)), (qw, .inl (cW, 320, .inl (zfill rw (nI (y)) i (i + t))))] H := hP
                have hD : va_D A [(qu, .inr (4, [.ref qa, .ref qr, .ref qw, .ref s1, .ref s2, .ref s3, .ref s4, .ref s5])), (qr, .inr (5, [.ref qb, .int (nI a1), .int (nI bh), .int (nI u1)])), (qb, .inl (cB, 20000, .inl f)), (s3, .inr (6, [.ref l1, .ref l2, .ref l3, .int (nI (zst d 19 16))])), (l1, .inl (cL1, 16, .inl g1)), (l3, .inl (cL3, 19, .inl g3)), (qw, .inl (cW, 320, .inl (zfill rw (nI (y)) i (i + t))))] := hD
                have hK : va_K D zcl [(cB, .byte), (cW, .int), (cL1, .int), (cL3, .int), (cW, .int)] s := hK
                have hP := hP.sub (ws' := [(qu, .inr (4, [.ref qa, .ref qr, .ref qw, .ref s1, .ref s2, .ref s3, .ref s4, .ref s5])), (qr, .inr (5, [.ref qb, .int (nI a1), .int (nI bh), .int (nI u1)])), (qb, .inl (cB, 20000, .inl f)), (qw, .inl (cW, 320, .inl (zfill rw (nI (y)) i (i + t)))), (s3, .inr (6, [.ref l1, .ref l2, .ref l3, .int (nI (zst d 19 16))])), (l1, .inl (cL1, 16, .inl g1)), (l3, .inl (cL3, 19, .inl g3))]) [0, 1, 2, 6, 3, 4, 5] rfl
                have hD := hD.sub (ws' := [(qu, .inr (4, [.ref qa, .ref qr, .ref qw, .ref s1, .ref s2, .ref s3, .ref s4, .ref s5])), (qr, .inr (5, [.ref qb, .int (nI a1), .int (nI bh), .int (nI u1)])), (qb, .inl (cB, 20000, .inl f)), (qw, .inl (cW, 320, .inl (zfill rw (nI (y)) i (i + t)))), (s3, .inr (6, [.ref l1, .ref l2, .ref l3, .int (nI (zst d 19 16))])), (l1, .inl (cL1, 16, .inl g1)), (l3, .inl (cL3, 19, .inl g3))]) [0, 1, 2, 6, 3, 4, 5] (by decide) rfl
                have hK := hK.sub (tys' := [(cB, .byte), (cW, .int), (cL1, .int), (cL3, .int)]) [0, 1, 2, 3] rfl
                refine lv_iload_n hx hb d_U_readRow_122 rfl (lv_at hl 4 rfl) ?_
                refine lv_iload hx hb d_U_readRow_123 (lv_at hl 1 rfl) ?_
                refine lv_iadd hx hb d_U_readRow_125 ?_
                refine lv_topi (fun x37 e_x37 => ?_)
                have e_x37 : x37 = nI (i + t) := by rw [e_x37]; exact nI_add _ _
                subst e_x37
                refine lv_istore_n (lv' := [(2, .int (nI (i + t))), (6, .int (nI y)), (5, .int (nI t)), (4, .int (nI (zbits f x2 (zrep y)))), (3, .int (nI y)), (0, .ref qu), (1, .int (nI n))]) hx hb d_U_readRow_126 rfl hl (by decide) rfl (fun ls hl => ?_)
                refine lv_goto (tgt := 2) hx hb d_U_readRow_127 (by decide) ?_
                exact ih (i + t) a1 u1 (zfill rw (nI (y)) i (i + t)) (zrf mm (y) i t) H locs ls (by omega) (by omega) hu1 (by omega) (zrf_n hrw) (zrf_le (by rw [hv9]; exact zrl_le hmm (by omega)) hmm) (by rw [hpos4]; rw [← hv9] at hR; exact hR) hP hD hS (lv_sub hl [0, 5, 6] rfl)
              · skip
                refine lv_icmp_ge (tgt := 88) hx hb d_U_readRow_81 (by decide) (fun _ => ?_) (fun h => absurd (show nI 16 ≤ nI y from nI_le (by omega) (by omega)) h)
                refine lv_iload_n hx hb d_U_readRow_88 rfl (lv_at hl 2 rfl) ?_
                refine lv_bipush (v := 16) hx hb d_U_readRow_89 (by decide) ?_
                refine lv_icmp_ne (tgt := 105) hx hb d_U_readRow_91 (by decide) (fun _ => ?_) (fun h => absurd h (show ¬ nI y = nI 16 from fun h => h16 ((nI_eq (by omega) (by decide)).mp h)))
                have hv9 : 0 = zrl y i mm := by unfold zrl; rw [if_neg hy6, if_neg h16]
                refine lv_iconst (v := 0) hx hb d_U_readRow_105 (by decide) ?_
                refine lv_istore (lv' := [(6, .int 0), (5, .int (nI t)), (4, .int (nI (zbits f x2 (zrep y)))), (3, .int (nI y)), (2, .int (nI i)), (0, .ref qu), (1, .int (nI n))]) hx hb d_U_readRow_106 hl (by decide) rfl (fun ls hl => ?_)
                refine lv_aload_n hx hb d_U_readRow_108 rfl (lv_at hl 5 rfl) ?_
                refine va_get (ci := 4) (C := "ZipGuard$Unpacker") (T := F_U) (N := 8) hx hb ht zi_U hown hK hP 0 rfl rfl 2 (by decide) (ht _ zm_372) (fun _ h9 => h9) rfl d_U_readRow_109 ?_
                refine lv_iload_n hx hb d_U_readRow_112 rfl (lv_at hl 4 rfl) ?_
                refine lv_iload_n hx hb d_U_readRow_113 rfl (lv_at hl 4 rfl) ?_
                refine lv_iload hx hb d_U_readRow_114 (lv_at hl 1 rfl) ?_
                refine lv_iadd hx hb d_U_readRow_116 ?_
                refine lv_topi (fun x40 e_x40 => ?_)
                have e_x40 : x40 = nI (i + t) := by rw [e_x40]; exact nI_add _ _
                subst e_x40
                refine lv_iload hx hb d_U_readRow_117 (lv_at hl 0 rfl) ?_
                refine zjv (wr := [(qu, .inr (4, [.ref qa, .ref qr, .ref qw, .ref s1, .ref s2, .ref s3, .ref s4, .ref s5])), (qr, .inr (5, [.ref qb, .int (nI a1), .int (nI bh), .int (nI u1)])), (qb, .inl (cB, 20000, .inl f)), (s3, .inr (6, [.ref l1, .ref l2, .ref l3, .int (nI (zst d 19 16))])), (l1, .inl (cL1, 16, .inl g1)), (l3, .inl (cL3, 19, .inl g3))]) (va_runS (As := [.ref qw, .int (nI i), .int (nI (i + t)), .int 0]) (rest := []) ⟨hx, hb, hml, hown, ht⟩ (c_J_fillr l D _ qw cW 320 rw i (i + t) (nI (0)) (by omega) (by omega) (by decide)) (zcwS 4 ht zm_273 zm_274 zm_73 zm_275 rfl rfl (by decide +kernel) ⟨hF4, hL4⟩) (zpre zBlind_t hK hP hD [3] [1] rfl (by decide) rfl (fun _ _ _ => trivial)) rfl rfl hl.1 rfl (lv_room (Nat.le_of_ble_eq_true rfl)) d_U_readRow_119 ⟨hcc, hss⟩) hK hP hD hS hA [3] [0, 1, 2, 4, 5, 6] rfl rfl (by decide) (by decide) (fun u9 H locs hp42 hP hD hK hS => ?_)
                have hP : va_P D zcl [(qu, .inr (4, [.ref qa, .ref qr, .ref qw, .ref s1, .ref s2, .ref s3, .ref s4, .ref s5])), (qr, .inr (5, [.ref qb, .int (nI a1), .int (nI bh), .int (nI u1)])), (qb, .inl (cB, 20000, .inl f)), (s3, .inr (6, [.ref l1, .ref l2, .ref l3, .int (nI (zst d 19 16))])), (l1, .inl (cL1, 16, .inl g1)), (l3, .inl (cL3, 19, .inl g3)), (qw, .inl (cW, 320, .inl (zfill rw (nI (0)) i (i + t))))] H := hP
                have hD : va_D A [(qu, .inr (4, [.ref qa, .ref qr, .ref qw, .ref s1, .ref s2, .ref s3, .ref s4, .ref s5])), (qr, .inr (5, [.ref qb, .int (nI a1), .int (nI bh), .int (nI u1)])), (qb, .inl (cB, 20000, .inl f)), (s3, .inr (6, [.ref l1, .ref l2, .ref l3, .int (nI (zst d 19 16))])), (l1, .inl (cL1, 16, .inl g1)), (l3, .inl (cL3, 19, .inl g3)), (qw, .inl (cW, 320, .inl (zfill rw (nI (0)) i (i + t))))] := hD
                have hK : va_K D zcl [(cB, .byte), (cW, .int), (cL1, .int), (cL3, .int), (cW, .int)] s := hK
                have hP := hP.sub (ws' := [(qu, .inr (4, [.ref qa, .ref qr, .ref qw, .ref s1, .ref s2, .ref s3, .ref s4, .ref s5])), (qr, .inr (5, [.ref qb, .int (nI a1), .int (nI bh), .int (nI u1)])), (qb, .inl (cB, 20000, .inl f)), (qw, .inl (cW, 320, .inl (zfill rw (nI (0)) i (i + t)))), (s3, .inr (6, [.ref l1, .ref l2, .ref l3, .int (nI (zst d 19 16))])), (l1, .inl (cL1, 16, .inl g1)), (l3, .inl (cL3, 19, .inl g3))]) [0, 1, 2, 6, 3, 4, 5] rfl
                have hD := hD.sub (ws' := [(qu, .inr (4, [.ref qa, .ref qr, .ref qw, .ref s1, .ref s2, .ref s3, .ref s4, .ref s5])), (qr, .inr (5, [.ref qb, .int (nI a1), .int (nI bh), .int (nI u1)])), (qb, .inl (cB, 20000, .inl f)), (qw, .inl (cW, 320, .inl (zfill rw (nI (0)) i (i + t)))), (s3, .inr (6, [.ref l1, .ref l2, .ref l3, .int (nI (zst d 19 16))])), (l1, .inl (cL1, 16, .inl g1)), (l3, .inl (cL3, 19, .inl g3))]) [0, 1, 2, 6, 3, 4, 5] (by decide) rfl
                have hK := hK.sub (tys' := [(cB, .byte), (cW, .int), (cL1, .int), (cL3, .int)]) [0, 1, 2, 3] rfl
                refine lv_iload_n hx hb d_U_readRow_122 rfl (lv_at hl 4 rfl) ?_
                refine lv_iload hx hb d_U_readRow_123 (lv_at hl 1 rfl) ?_
                refine lv_iadd hx hb d_U_readRow_125 ?_
                refine lv_topi (fun x43 e_x43 => ?_)
                have e_x43 : x43 = nI (i + t) := by rw [e_x43]; exact nI_add _ _
                subst e_x43
                refine lv_istore_n (lv' := [(2, .int (nI (i + t))), (6, .int 0), (5, .int (nI t)), (4, .int (nI (zbits f x2 (zrep y)))), (3, .int (nI y)), (0, .ref qu), (1, .int (nI n))]) hx hb d_U_readRow_126 rfl hl (by decide) rfl (fun ls hl => ?_)
                refine lv_goto (tgt := 2) hx hb d_U_readRow_127 (by decide) ?_
                exact ih (i + t) a1 u1 (zfill rw (nI (0)) i (i + t)) (zrf mm (0) i t) H locs ls (by omega) (by omega) hu1 (by omega) (zrf_n hrw) (zrf_le (by rw [hv9]; exact zrl_le hmm (by omega)) hmm) (by rw [hpos4]; rw [← hv9] at hR; exact hR) hP hD hS (lv_sub hl [0, 5, 6] rfl)
        · skip
          rw [if_pos hend4] at hR
          have hp10 := hp10.symm
          subst hp10
          refine lv_if_ge (tgt := 47) hx hb d_U_readRow_41 (by decide) (fun h => absurd h (by decide)) (fun _ => ?_)
          refine lv_iload hx hb d_U_readRow_44 (lv_at hl 0 rfl) ?_
          exact k46 a1 u1 rw H locs ls (-30) ⟨by rw [← hR], hu1, ha1, fun h => absurd rfl h, fun h => absurd h (by decide)⟩ hP hD hS (lv_sub hl [] rfl)
      · skip
        have hlt : r4 < 0 := hxv.1.elim (fun h => by rw [h]; decide) (fun h => h.elim (fun h => by rw [h]; decide) (fun h => absurd h hy9))
        rw [if_pos hlt] at hR
        refine lv_if_ge (tgt := 25) hx hb d_U_readRow_20 (by decide) (fun h => absurd h (fun h => absurd hlt (by rw [Int32.lt_iff_toInt_lt]; have h9 := Int32.le_iff_toInt_le.mp h; omega))) (fun _ => ?_)
        refine lv_iload_n hx hb d_U_readRow_23 rfl (lv_at hl 0 rfl) ?_
        exact k24 a3 u3 rw H locs ls r4 ⟨by rw [← hR], hu3, ha3, fun h => ⟨by rw [← hR]; exact hpos3 h, by have h9 := hpos3 h; omega⟩, fun h => absurd hlt (by rw [h]; decide)⟩ hP hD hS (lv_sub hl [] rfl)
set_option maxHeartbeats 4000000 in
set_option maxRecDepth 100000 in
theorem c_U_row (l : Launch) (D : va_G) (sz : Nat) (qu : Nat) (qw : Nat) (s1 : Nat) (s2 : Nat) (s3 : Nat) (s4 : Nat) (s5 : Nat) (qa : Nat) (qr : Nat) (qb : Nat) (l1 : Nat) (l2 : Nat) (l3 : Nat) (cB : ClassId) (cW : ClassId) (cL1 : ClassId) (cL3 : ClassId) (f : Nat → Int32) (g1 : Nat → Int32) (g3 : Nat → Int32) (bh : Nat) (d : Nat → Nat) (n : Nat) (rw : Nat → Int32) (mm : Nat → Nat) (a : Nat) (u : Nat) (hbh : bh ≤ 20000) (hG : ∀ l, l ≤ 15 → g1 l = nI (zcn d 19 l)) (hg3 : ∀ i, i < 19 → 1 ≤ d i → g3 (zst d 19 (d i) + zcn d i (d i)) = nI i) (hn : n ≤ 320) (hu : u ≤ 7) (hau : 8 * a + u ≤ 8 * bh) : Met l y_U_readRow (Cond.code y_U_readRow prog_8_method_10_code 7 (Option.some Jvm.ClassFile.FieldType.int) :: zt) { frames := 2, cells := 0, slots := 0, locals := 52 } (zPc [.ref qu, .int (nI n)] D [(qu, .inr (4, [.ref qa, .ref qr, .ref qw, .ref s1, .ref s2, .ref s3, .ref s4, .ref s5])), (qr, .inr (5, [.ref qb, .int (nI a), .int (nI bh), .int (nI u)])), (qb, .inl (cB, 20000, .inl f)), (qw, .inl (cW, 320, .inl rw)), (s3, .inr (6, [.ref l1, .ref l2, .ref l3, .int (nI (zst d 19 16))])), (l1, .inl (cL1, 16, .inl g1)), (l3, .inl (cL3, 19, .inl g3))] [(cB, .byte), (cW, .int), (cL1, .int), (cL3, .int)] sz (fun _ => True)) (va_Qi (fun (r : Int32) => fun (u9 : Nat × Nat × (Nat → Int32)) => match u9 with | (a1, u1, rw1) => r = (zrow f bh d g3 n n 0 (8 * a + u) mm).1 ∧ u1 ≤ 7 ∧ a1 ≤ 20000 ∧ (r ≠ -30 → 8 * a1 + u1 = (zrow f bh d g3 n n 0 (8 * a + u) mm).2.1 ∧ 8 * a1 + u1 ≤ 8 * bh) ∧ (r = 0 → ∀ k, k < n → rw1 k = nI ((zrow f bh d g3 n n 0 (8 * a + u) mm).2.2 k) ∧ (zrow f bh d g3 n n 0 (8 * a + u) mm).2.2 k ≤ 15)) (fun u9 t => zB D ((fun (u9 : Nat × Nat × (Nat → Int32)) => match u9 with | (a1, u1, rw1) => [(qu, .inr (4, [.ref qa, .ref qr, .ref qw, .ref s1, .ref s2, .ref s3, .ref s4, .ref s5])), (qr, .inr (5, [.ref qb, .int (nI a1), .int (nI bh), .int (nI u1)])), (qb, .inl (cB, 20000, .inl f)), (qw, .inl (cW, 320, .inl rw1)), (s3, .inr (6, [.ref l1, .ref l2, .ref l3, .int (nI (zst d 19 16))])), (l1, .inl (cL1, 16, .inl g1)), (l3, .inl (cL3, 19, .inl g3))]) u9) ((fun (u9 : Nat × Nat × (Nat → Int32)) => match u9 with | (a1, u1, rw1) => [(cB, .byte), (cW, .int), (cL1, .int), (cL3, .int)]) u9) (va_A [(qu, .inr (4, [.ref qa, .ref qr, .ref qw, .ref s1, .ref s2, .ref s3, .ref s4, .ref s5])), (qr, .inr (5, [.ref qb, .int (nI a), .int (nI bh), .int (nI u)])), (qb, .inl (cB, 20000, .inl f)), (qw, .inl (cW, 320, .inl rw)), (s3, .inr (6, [.ref l1, .ref l2, .ref l3, .int (nI (zst d 19 16))])), (l1, .inl (cL1, 16, .inl g1)), (l3, .inl (cL3, 19, .inl g3))] sz) t) (va_A [(qu, .inr (4, [.ref qa, .ref qr, .ref qw, .ref s1, .ref s2, .ref s3, .ref s4, .ref s5])), (qr, .inr (5, [.ref qb, .int (nI a), .int (nI bh), .int (nI u)])), (qb, .inl (cB, 20000, .inl f)), (qw, .inl (cW, 320, .inl rw)), (s3, .inr (6, [.ref l1, .ref l2, .ref l3, .int (nI (zst d 19 16))])), (l1, .inl (cL1, 16, .inl g1)), (l3, .inl (cL3, 19, .inl g3))] sz)) 0 0 (va_A [(qu, .inr (4, [.ref qa, .ref qr, .ref qw, .ref s1, .ref s2, .ref s3, .ref s4, .ref s5])), (qr, .inr (5, [.ref qb, .int (nI a), .int (nI bh), .int (nI u)])), (qb, .inl (cB, 20000, .inl f)), (qw, .inl (cW, 320, .inl rw)), (s3, .inr (6, [.ref l1, .ref l2, .ref l3, .int (nI (zst d 19 16))])), (l1, .inl (cL1, 16, .inl g1)), (l3, .inl (cL3, 19, .inl g3))] sz) :=
  zMet (Qf := fun A => va_Qi (fun (r : Int32) => fun (u9 : Nat × Nat × (Nat → Int32)) => match u9 with | (a1, u1, rw1) => r = (zrow f bh d g3 n n 0 (8 * a + u) mm).1 ∧ u1 ≤ 7 ∧ a1 ≤ 20000 ∧ (r ≠ -30 → 8 * a1 + u1 = (zrow f bh d g3 n n 0 (8 * a + u) mm).2.1 ∧ 8 * a1 + u1 ≤ 8 * bh) ∧ (r = 0 → ∀ k, k < n → rw1 k = nI ((zrow f bh d g3 n n 0 (8 * a + u) mm).2.2 k) ∧ (zrow f bh d g3 n n 0 (8 * a + u) mm).2.2 k ≤ 15)) (fun u9 t => zB D ((fun (u9 : Nat × Nat × (Nat → Int32)) => match u9 with | (a1, u1, rw1) => [(qu, .inr (4, [.ref qa, .ref qr, .ref qw, .ref s1, .ref s2, .ref s3, .ref s4, .ref s5])), (qr, .inr (5, [.ref qb, .int (nI a1), .int (nI bh), .int (nI u1)])), (qb, .inl (cB, 20000, .inl f)), (qw, .inl (cW, 320, .inl rw1)), (s3, .inr (6, [.ref l1, .ref l2, .ref l3, .int (nI (zst d 19 16))])), (l1, .inl (cL1, 16, .inl g1)), (l3, .inl (cL3, 19, .inl g3))]) u9) ((fun (u9 : Nat × Nat × (Nat → Int32)) => match u9 with | (a1, u1, rw1) => [(cB, .byte), (cW, .int), (cL1, .int), (cL3, .int)]) u9) A t) A) (by decide) (Nat.le_of_ble_eq_true rfl) (fun p e s m below meth c A ls hx hb hr hml hown ht hlk hnm hA hK hP hD hX hl => by
    have hS : va_S A s.heap s.heap [] := va_S.rf
    have hl : lv_has ls 7 [(0, .ref qu), (1, .int (nI n))] := hl
    refine lv_iconst (v := 0) hx hb d_U_readRow_0 (by decide) ?_
    refine lv_istore_n (lv' := [(2, .int 0), (0, .ref qu), (1, .int (nI n))]) hx hb d_U_readRow_1 rfl hl (by decide) rfl (fun ls hl => ?_)
    have hl : lv_has ls 7 [(2, .int (nI 0)), (0, .ref qu), (1, .int (nI n))] := hl
    refine lp_U_row hx hb hml hown ht hA qu qw s1 s2 s3 s4 s5 qa qr qb l1 l2 l3 cB cW cL1 cL3 f g1 g3 bh d n (zrow f bh d g3 n n 0 (8 * a + u) mm) hbh hG hg3 hn (Nat.le_of_ble_eq_true rfl) (Nat.le_of_ble_eq_true rfl) (Nat.le_of_ble_eq_true rfl) (Nat.le_of_ble_eq_true rfl) (Nat.le_of_ble_eq_true rfl) (Nat.le_of_ble_eq_true rfl) (Nat.le_of_ble_eq_true rfl) (Nat.le_of_ble_eq_true rfl) (Nat.le_of_ble_eq_true rfl) (Nat.le_of_ble_eq_true rfl) (Nat.le_of_ble_eq_true rfl) (Nat.le_of_ble_eq_true rfl) hK (fun a1 u1 rw1 H locs ls v hout hP hD hS hl => ?_) (fun a1 u1 rw1 H locs ls v hout hP hD hS hl => ?_) (fun a1 u1 rw1 H locs ls v hout hP hD hS hl => ?_) (fun a1 u1 rw1 v H locs ls hout hP hD hS hl => ?_) n 0 a u rw mm s.heap [] ls (by omega) (by omega) hu hau (fun k hk => absurd hk (by omega)) (fun k hk => absurd hk (by omega)) rfl hP hD hS hl
    · skip
      exact zreti hx hb hr hlk hK hP hD hS (a1, u1, rw1) [0, 1, 2, 3, 4, 5, 6] [0, 1, 2, 3] rfl (by decide) rfl (hout) (Nat.le_of_ble_eq_true rfl) (Nat.le_of_ble_eq_true rfl) d_U_readRow_24
    · skip
      exact zreti hx hb hr hlk hK hP hD hS (a1, u1, rw1) [0, 1, 2, 3, 4, 5, 6] [0, 1, 2, 3] rfl (by decide) rfl (hout) (Nat.le_of_ble_eq_true rfl) (Nat.le_of_ble_eq_true rfl) d_U_readRow_46
    · skip
      exact zreti hx hb hr hlk hK hP hD hS (a1, u1, rw1) [0, 1, 2, 3, 4, 5, 6] [0, 1, 2, 3] rfl (by decide) rfl (hout) (Nat.le_of_ble_eq_true rfl) (Nat.le_of_ble_eq_true rfl) d_U_readRow_77
    · skip
      exact zreti hx hb hr hlk hK hP hD hS (a1, u1, rw1) [0, 1, 2, 3, 4, 5, 6] [0, 1, 2, 3] rfl (by decide) rfl (hout) (Nat.le_of_ble_eq_true rfl) (Nat.le_of_ble_eq_true rfl) d_U_readRow_131)
