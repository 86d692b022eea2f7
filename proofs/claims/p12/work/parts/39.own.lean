theorem zlc_neg {f : Nat → Int32} {bh n q : Nat} (h : ¬ (zlc f bh n q).1 = 0) : (zlc f bh n q).1 < 0 := by
  unfold zlc at h ⊢
  split
  · show (-30 : Int32) < 0; decide
  · rename_i h1
    rw [if_neg h1] at h
    split
    · rename_i h2
      rw [if_pos h2] at h
      exact absurd rfl h
    · show (-33 : Int32) < 0; decide
theorem zrow_neg {f : Nat → Int32} {bh : Nat} {d : Nat → Nat} {g3 : Nat → Int32} {n : Nat} : ∀ (j i q : Nat) (m : Nat → Nat), ¬ (zrow f bh d g3 n j i q m).1 < 0 → (zrow f bh d g3 n j i q m).1 = 0
  | 0, _, _, _, _ => rfl
  | j + 1, i, q, m, h => by
    unfold zrow at h ⊢
    split
    · rfl
    · rename_i h1
      rw [if_neg h1] at h
      split
      · rename_i h2
        rw [if_pos h2] at h
        exact absurd h2 h
      · rename_i h2
        rw [if_neg h2] at h
        split
        · rename_i h3
          rw [if_pos h3] at h
          exact absurd (show (-30 : Int32) < 0 by decide) h
        · rename_i h3
          rw [if_neg h3] at h
          split
          · rename_i h4
            rw [if_pos h4] at h
            exact absurd (show (-33 : Int32) < 0 by decide) h
          · rename_i h4
            rw [if_neg h4] at h
            exact zrow_neg j _ _ _ h
def zns (f : Nat → Int32) (q : Nat) : Nat := 257 + zbits f q 14 % 32
def znd (f : Nat → Int32) (q : Nat) : Nat := 1 + zbits f q 14 / 32 % 32
def znc (f : Nat → Int32) (q : Nat) : Nat := 4 + zbits f q 14 / 1024
/-- the row that the lengths' codes give -/
def zowR (f : Nat → Int32) (bh q : Nat) : Int32 × Nat × (Nat → Nat) := zrow f bh (zlr f (q + 14) (znc f q)) (zGs (zlr f (q + 14) (znc f q)) 19) (zns f q + znd f q) (zns f q + znd f q) 0 (zlc f bh (znc f q) (q + 14)).2 (fun _ => 0)
def zown2 (ns nd : Nat) (x : Int32 × Nat) (y : Int32 × Nat × (Nat → Nat)) : Int32 × Nat := if ¬ x.1 = 0 then x else if y.1 < 0 then (y.1, y.2.1) else if 0 < y.2.2 256 ∧ zkf y.2.2 ns 16 = 32768 ∧ (zkf (fun k => y.2.2 (ns + k)) nd 16 = 32768 ∨ zst (fun k => y.2.2 (ns + k)) nd 16 = 0 ∨ (zst (fun k => y.2.2 (ns + k)) nd 16 = 1 ∧ zcn (fun k => y.2.2 (ns + k)) nd 1 = 1)) then (0, y.2.1) else (-33, y.2.1)
/-- the head of a block with codes of its own -/
def zown (f : Nat → Int32) (bh q : Nat) : Int32 × Nat := if 8 * bh < q + 14 then (-30, q) else if 286 < zns f q ∨ 30 < znd f q then (-32, q + 14) else zown2 (zns f q) (znd f q) (zlc f bh (znc f q) (q + 14)) (zowR f bh q)
set_option maxRecDepth 100000 in
theorem zm_25 : Jvm.Cond.selects "ZipGuard$Unpacker" ({ cls := "ZipGuard$Unpacker", name := "readLengthCodes", desc := "(I)I" } : Jvm.MethodName) ({ cls := "ZipGuard$Unpacker", name := "readLengthCodes", desc := "(I)I" } : Jvm.MethodName) ∈ zt := zt_mp (List.mem_of_getElem? (i := 25) rfl)
set_option maxRecDepth 100000 in
theorem zm_26 : Jvm.Cond.selects "ZipGuard$Unpacker" ({ cls := "ZipGuard$Unpacker", name := "readRow", desc := "(I)I" } : Jvm.MethodName) ({ cls := "ZipGuard$Unpacker", name := "readRow", desc := "(I)I" } : Jvm.MethodName) ∈ zt := zt_mp (List.mem_of_getElem? (i := 26) rfl)
set_option maxRecDepth 100000 in
theorem zm_376 : Jvm.Cond.fieldLink "ZipGuard$Unpacker" (41 : Nat) "ZipGuard$Unpacker" "ownSymbols" "LZipGuard$CodeSet;" ∈ zt := zt_m3 (List.mem_of_getElem? (i := 48) rfl)
set_option maxRecDepth 100000 in
theorem zm_377 : Jvm.Cond.fieldLink "ZipGuard$Unpacker" (44 : Nat) "ZipGuard$Unpacker" "ownDistances" "LZipGuard$CodeSet;" ∈ zt := zt_m3 (List.mem_of_getElem? (i := 49) rfl)
set_option maxRecDepth 100000 in
theorem zm_675 : Jvm.Cond.methodLink "ZipGuard$Unpacker" (138 : Nat) ({ cls := "ZipGuard$Unpacker", name := "readLengthCodes", desc := "(I)I" } : Jvm.MethodName) ∈ zt := zt_m4 (List.mem_of_getElem? (i := 164) rfl)
set_option maxRecDepth 100000 in
theorem zm_676 : Jvm.Cond.instanceMethod ({ cls := "ZipGuard$Unpacker", name := "readLengthCodes", desc := "(I)I" } : Jvm.MethodName) ∈ zt := zt_m4 (List.mem_of_getElem? (i := 165) rfl)
set_option maxRecDepth 100000 in
theorem zm_677 : Jvm.Cond.code ({ cls := "ZipGuard$Unpacker", name := "readLengthCodes", desc := "(I)I" } : Jvm.MethodName) prog_8_method_9_code (4 : Nat) (Option.some Jvm.ClassFile.FieldType.int) ∈ zt := zt_m4 (List.mem_of_getElem? (i := 166) rfl)
set_option maxRecDepth 100000 in
theorem zm_684 : Jvm.Cond.methodLink "ZipGuard$Unpacker" (141 : Nat) ({ cls := "ZipGuard$Unpacker", name := "readRow", desc := "(I)I" } : Jvm.MethodName) ∈ zt := zt_m4 (List.mem_of_getElem? (i := 173) rfl)
set_option maxRecDepth 100000 in
theorem zm_685 : Jvm.Cond.instanceMethod ({ cls := "ZipGuard$Unpacker", name := "readRow", desc := "(I)I" } : Jvm.MethodName) ∈ zt := zt_m4 (List.mem_of_getElem? (i := 174) rfl)
set_option maxRecDepth 100000 in
theorem zm_686 : Jvm.Cond.code ({ cls := "ZipGuard$Unpacker", name := "readRow", desc := "(I)I" } : Jvm.MethodName) prog_8_method_10_code (7 : Nat) (Option.some Jvm.ClassFile.FieldType.int) ∈ zt := zt_m4 (List.mem_of_getElem? (i := 175) rfl)
set_option maxRecDepth 100000 in
theorem zm_693 : Jvm.Cond.methodLink "ZipGuard$Unpacker" (147 : Nat) ({ cls := "ZipGuard$CodeSet", name := "isRightForDistances", desc := "()Z" } : Jvm.MethodName) ∈ zt := zt_m4 (List.mem_of_getElem? (i := 182) rfl)
set_option maxRecDepth 100000 in
theorem zm_694 : Jvm.Cond.instanceMethod ({ cls := "ZipGuard$CodeSet", name := "isRightForDistances", desc := "()Z" } : Jvm.MethodName) ∈ zt := zt_m4 (List.mem_of_getElem? (i := 183) rfl)
set_option maxRecDepth 100000 in
theorem zm_695 : Jvm.Cond.selects "ZipGuard$CodeSet" ({ cls := "ZipGuard$CodeSet", name := "isRightForDistances", desc := "()Z" } : Jvm.MethodName) ({ cls := "ZipGuard$CodeSet", name := "isRightForDistances", desc := "()Z" } : Jvm.MethodName) ∈ zt := zt_m4 (List.mem_of_getElem? (i := 184) rfl)
set_option maxRecDepth 100000 in
theorem zm_696 : Jvm.Cond.code ({ cls := "ZipGuard$CodeSet", name := "isRightForDistances", desc := "()Z" } : Jvm.MethodName) prog_3_method_4_code (1 : Nat) (Option.some Jvm.ClassFile.FieldType.boolean) ∈ zt := zt_m4 (List.mem_of_getElem? (i := 185) rfl)
theorem d_U_readOwnCodes_0 : decode prog_8_method_8_code 0 = .ok (.aload_n 0, 1) := by decide +kernel
theorem d_U_readOwnCodes_1 : decode prog_8_method_8_code 1 = .ok (.getfield 18, 3) := by decide +kernel
theorem d_U_readOwnCodes_4 : decode prog_8_method_8_code 4 = .ok (.bipush 14, 2) := by decide +kernel
theorem d_U_readOwnCodes_6 : decode prog_8_method_8_code 6 = .ok (.invokevirtual 117, 3) := by decide +kernel
theorem d_U_readOwnCodes_9 : decode prog_8_method_8_code 9 = .ok (.istore_n 1, 1) := by decide +kernel
theorem d_U_readOwnCodes_10 : decode prog_8_method_8_code 10 = .ok (.iload_n 1, 1) := by decide +kernel
theorem d_U_readOwnCodes_11 : decode prog_8_method_8_code 11 = .ok (.ifCond .ge 5, 3) := by decide +kernel
theorem d_U_readOwnCodes_14 : decode prog_8_method_8_code 14 = .ok (.iload_n 1, 1) := by decide +kernel
theorem d_U_readOwnCodes_15 : decode prog_8_method_8_code 15 = .ok (.ireturn, 1) := by decide +kernel
theorem d_U_readOwnCodes_16 : decode prog_8_method_8_code 16 = .ok (.sipush 257, 3) := by decide +kernel
theorem d_U_readOwnCodes_19 : decode prog_8_method_8_code 19 = .ok (.iload_n 1, 1) := by decide +kernel
theorem d_U_readOwnCodes_20 : decode prog_8_method_8_code 20 = .ok (.bipush 31, 2) := by decide +kernel
theorem d_U_readOwnCodes_22 : decode prog_8_method_8_code 22 = .ok (.iand, 1) := by decide +kernel
theorem d_U_readOwnCodes_23 : decode prog_8_method_8_code 23 = .ok (.iadd, 1) := by decide +kernel
theorem d_U_readOwnCodes_24 : decode prog_8_method_8_code 24 = .ok (.istore_n 2, 1) := by decide +kernel
theorem d_U_readOwnCodes_25 : decode prog_8_method_8_code 25 = .ok (.iconst 1, 1) := by decide +kernel
theorem d_U_readOwnCodes_26 : decode prog_8_method_8_code 26 = .ok (.iload_n 1, 1) := by decide +kernel
theorem d_U_readOwnCodes_27 : decode prog_8_method_8_code 27 = .ok (.iconst 5, 1) := by decide +kernel
theorem d_U_readOwnCodes_28 : decode prog_8_method_8_code 28 = .ok (.ishr, 1) := by decide +kernel
theorem d_U_readOwnCodes_29 : decode prog_8_method_8_code 29 = .ok (.bipush 31, 2) := by decide +kernel
theorem d_U_readOwnCodes_31 : decode prog_8_method_8_code 31 = .ok (.iand, 1) := by decide +kernel
theorem d_U_readOwnCodes_32 : decode prog_8_method_8_code 32 = .ok (.iadd, 1) := by decide +kernel
theorem d_U_readOwnCodes_33 : decode prog_8_method_8_code 33 = .ok (.istore_n 3, 1) := by decide +kernel
theorem d_U_readOwnCodes_34 : decode prog_8_method_8_code 34 = .ok (.iload_n 2, 1) := by decide +kernel
theorem d_U_readOwnCodes_35 : decode prog_8_method_8_code 35 = .ok (.sipush 286, 3) := by decide +kernel
theorem d_U_readOwnCodes_38 : decode prog_8_method_8_code 38 = .ok (.if_icmp .gt 9, 3) := by decide +kernel
theorem d_U_readOwnCodes_41 : decode prog_8_method_8_code 41 = .ok (.iload_n 3, 1) := by decide +kernel
theorem d_U_readOwnCodes_42 : decode prog_8_method_8_code 42 = .ok (.bipush 30, 2) := by decide +kernel
theorem d_U_readOwnCodes_44 : decode prog_8_method_8_code 44 = .ok (.if_icmp .le 6, 3) := by decide +kernel
theorem d_U_readOwnCodes_47 : decode prog_8_method_8_code 47 = .ok (.bipush (-32), 2) := by decide +kernel
theorem d_U_readOwnCodes_49 : decode prog_8_method_8_code 49 = .ok (.ireturn, 1) := by decide +kernel
theorem d_U_readOwnCodes_50 : decode prog_8_method_8_code 50 = .ok (.aload_n 0, 1) := by decide +kernel
theorem d_U_readOwnCodes_51 : decode prog_8_method_8_code 51 = .ok (.iconst 4, 1) := by decide +kernel
theorem d_U_readOwnCodes_52 : decode prog_8_method_8_code 52 = .ok (.iload_n 1, 1) := by decide +kernel
theorem d_U_readOwnCodes_53 : decode prog_8_method_8_code 53 = .ok (.bipush 10, 2) := by decide +kernel
theorem d_U_readOwnCodes_55 : decode prog_8_method_8_code 55 = .ok (.ishr, 1) := by decide +kernel
theorem d_U_readOwnCodes_56 : decode prog_8_method_8_code 56 = .ok (.iadd, 1) := by decide +kernel
theorem d_U_readOwnCodes_57 : decode prog_8_method_8_code 57 = .ok (.invokevirtual 138, 3) := by decide +kernel
theorem d_U_readOwnCodes_60 : decode prog_8_method_8_code 60 = .ok (.istore 4, 2) := by decide +kernel
theorem d_U_readOwnCodes_62 : decode prog_8_method_8_code 62 = .ok (.iload 4, 2) := by decide +kernel
theorem d_U_readOwnCodes_64 : decode prog_8_method_8_code 64 = .ok (.ifCond .ne 12, 3) := by decide +kernel
theorem d_U_readOwnCodes_67 : decode prog_8_method_8_code 67 = .ok (.aload_n 0, 1) := by decide +kernel
theorem d_U_readOwnCodes_68 : decode prog_8_method_8_code 68 = .ok (.iload_n 2, 1) := by decide +kernel
theorem d_U_readOwnCodes_69 : decode prog_8_method_8_code 69 = .ok (.iload_n 3, 1) := by decide +kernel
theorem d_U_readOwnCodes_70 : decode prog_8_method_8_code 70 = .ok (.iadd, 1) := by decide +kernel
theorem d_U_readOwnCodes_71 : decode prog_8_method_8_code 71 = .ok (.invokevirtual 141, 3) := by decide +kernel
theorem d_U_readOwnCodes_74 : decode prog_8_method_8_code 74 = .ok (.istore 4, 2) := by decide +kernel
theorem d_U_readOwnCodes_76 : decode prog_8_method_8_code 76 = .ok (.iload 4, 2) := by decide +kernel
theorem d_U_readOwnCodes_78 : decode prog_8_method_8_code 78 = .ok (.ifCond .ge 6, 3) := by decide +kernel
theorem d_U_readOwnCodes_81 : decode prog_8_method_8_code 81 = .ok (.iload 4, 2) := by decide +kernel
theorem d_U_readOwnCodes_83 : decode prog_8_method_8_code 83 = .ok (.ireturn, 1) := by decide +kernel
theorem d_U_readOwnCodes_84 : decode prog_8_method_8_code 84 = .ok (.aload_n 0, 1) := by decide +kernel
theorem d_U_readOwnCodes_85 : decode prog_8_method_8_code 85 = .ok (.getfield 41, 3) := by decide +kernel
theorem d_U_readOwnCodes_88 : decode prog_8_method_8_code 88 = .ok (.aload_n 0, 1) := by decide +kernel
theorem d_U_readOwnCodes_89 : decode prog_8_method_8_code 89 = .ok (.getfield 22, 3) := by decide +kernel
theorem d_U_readOwnCodes_92 : decode prog_8_method_8_code 92 = .ok (.iconst 0, 1) := by decide +kernel
theorem d_U_readOwnCodes_93 : decode prog_8_method_8_code 93 = .ok (.iload_n 2, 1) := by decide +kernel
theorem d_U_readOwnCodes_94 : decode prog_8_method_8_code 94 = .ok (.invokevirtual 56, 3) := by decide +kernel
theorem d_U_readOwnCodes_97 : decode prog_8_method_8_code 97 = .ok (.aload_n 0, 1) := by decide +kernel
theorem d_U_readOwnCodes_98 : decode prog_8_method_8_code 98 = .ok (.getfield 44, 3) := by decide +kernel
theorem d_U_readOwnCodes_101 : decode prog_8_method_8_code 101 = .ok (.aload_n 0, 1) := by decide +kernel
theorem d_U_readOwnCodes_102 : decode prog_8_method_8_code 102 = .ok (.getfield 22, 3) := by decide +kernel
theorem d_U_readOwnCodes_105 : decode prog_8_method_8_code 105 = .ok (.iload_n 2, 1) := by decide +kernel
theorem d_U_readOwnCodes_106 : decode prog_8_method_8_code 106 = .ok (.iload_n 3, 1) := by decide +kernel
theorem d_U_readOwnCodes_107 : decode prog_8_method_8_code 107 = .ok (.invokevirtual 56, 3) := by decide +kernel
theorem d_U_readOwnCodes_110 : decode prog_8_method_8_code 110 = .ok (.aload_n 0, 1) := by decide +kernel
theorem d_U_readOwnCodes_111 : decode prog_8_method_8_code 111 = .ok (.getfield 22, 3) := by decide +kernel
theorem d_U_readOwnCodes_114 : decode prog_8_method_8_code 114 = .ok (.sipush 256, 3) := by decide +kernel
theorem d_U_readOwnCodes_117 : decode prog_8_method_8_code 117 = .ok (.iaload, 1) := by decide +kernel
theorem d_U_readOwnCodes_118 : decode prog_8_method_8_code 118 = .ok (.ifCond .le 27, 3) := by decide +kernel
theorem d_U_readOwnCodes_121 : decode prog_8_method_8_code 121 = .ok (.aload_n 0, 1) := by decide +kernel
theorem d_U_readOwnCodes_122 : decode prog_8_method_8_code 122 = .ok (.getfield 41, 3) := by decide +kernel
theorem d_U_readOwnCodes_125 : decode prog_8_method_8_code 125 = .ok (.invokevirtual 144, 3) := by decide +kernel
theorem d_U_readOwnCodes_128 : decode prog_8_method_8_code 128 = .ok (.ifCond .eq 17, 3) := by decide +kernel
theorem d_U_readOwnCodes_131 : decode prog_8_method_8_code 131 = .ok (.aload_n 0, 1) := by decide +kernel
theorem d_U_readOwnCodes_132 : decode prog_8_method_8_code 132 = .ok (.getfield 44, 3) := by decide +kernel
theorem d_U_readOwnCodes_135 : decode prog_8_method_8_code 135 = .ok (.invokevirtual 147, 3) := by decide +kernel
theorem d_U_readOwnCodes_138 : decode prog_8_method_8_code 138 = .ok (.ifCond .eq 7, 3) := by decide +kernel
theorem d_U_readOwnCodes_141 : decode prog_8_method_8_code 141 = .ok (.iconst 1, 1) := by decide +kernel
theorem d_U_readOwnCodes_142 : decode prog_8_method_8_code 142 = .ok (.goto 4, 3) := by decide +kernel
theorem d_U_readOwnCodes_145 : decode prog_8_method_8_code 145 = .ok (.iconst 0, 1) := by decide +kernel
theorem d_U_readOwnCodes_146 : decode prog_8_method_8_code 146 = .ok (.istore 5, 2) := by decide +kernel
theorem d_U_readOwnCodes_148 : decode prog_8_method_8_code 148 = .ok (.iload 5, 2) := by decide +kernel
theorem d_U_readOwnCodes_150 : decode prog_8_method_8_code 150 = .ok (.ifCond .eq 7, 3) := by decide +kernel
theorem d_U_readOwnCodes_153 : decode prog_8_method_8_code 153 = .ok (.iconst 0, 1) := by decide +kernel
theorem d_U_readOwnCodes_154 : decode prog_8_method_8_code 154 = .ok (.goto 5, 3) := by decide +kernel
theorem d_U_readOwnCodes_157 : decode prog_8_method_8_code 157 = .ok (.bipush (-33), 2) := by decide +kernel
theorem d_U_readOwnCodes_159 : decode prog_8_method_8_code 159 = .ok (.ireturn, 1) := by decide +kernel
set_option maxHeartbeats 4000000 in
set_option maxRecDepth 100000 in
theorem c_U_own (l : Launch) (D : va_G) (sz : Nat) (qu : Nat) (qw : Nat) (s1 : Nat) (s2 : Nat) (s3 : Nat) (s4 : Nat) (s5 : Nat) (qa : Nat) (qr : Nat) (qb : Nat) (l1 : Nat) (l2 : Nat) (l3 : Nat) (cB : ClassId) (cW : ClassId) (cL1 : ClassId) (cL2 : ClassId) (cL3 : ClassId) (f : Nat → Int32) (bh : Nat) (o1 : Nat) (o2 : Nat) (o3 : Nat) (p1 : Nat) (p2 : Nat) (p3 : Nat) (cU1 : ClassId) (cU2 : ClassId) (cU3 : ClassId) (cV1 : ClassId) (cV2 : ClassId) (cV3 : ClassId) (k0 : Int32) (k4 : Int32) (k5 : Int32) (g1 : Nat → Int32) (g2 : Nat → Int32) (g3 : Nat → Int32) (rw : Nat → Int32) (m1 : Nat → Int32) (m2 : Nat → Int32) (m3 : Nat → Int32) (e1 : Nat → Int32) (e2 : Nat → Int32) (e3 : Nat → Int32) (a : Nat) (u : Nat) (hbh : bh ≤ 20000) (hu : u ≤ 7) (hau : 8 * a + u ≤ 8 * bh) : Met l y_U_readOwnCodes (Cond.code y_U_readOwnCodes prog_8_method_8_code 6 (Option.some Jvm.ClassFile.FieldType.int) :: zt) { frames := 3, cells := 0, slots := 0, locals := 78 } (zPc [.ref qu] D [(qu, .inr (4, [.ref qa, .ref qr, .ref qw, .ref s1, .ref s2, .ref s3, .ref s4, .ref s5])), (qr, .inr (5, [.ref qb, .int (nI a), .int (nI bh), .int (nI u)])), (qb, .inl (cB, 20000, .inl f)), (qw, .inl (cW, 320, .inl rw)), (s3, .inr (6, [.ref l1, .ref l2, .ref l3, .int k0])), (l1, .inl (cL1, 16, .inl g1)), (l2, .inl (cL2, 16, .inl g2)), (l3, .inl (cL3, 19, .inl g3)), (s4, .inr (6, [.ref o1, .ref o2, .ref o3, .int k4])), (o1, .inl (cU1, 16, .inl m1)), (o2, .inl (cU2, 16, .inl m2)), (o3, .inl (cU3, 286, .inl m3)), (s5, .inr (6, [.ref p1, .ref p2, .ref p3, .int k5])), (p1, .inl (cV1, 16, .inl e1)), (p2, .inl (cV2, 16, .inl e2)), (p3, .inl (cV3, 30, .inl e3))] [(cB, .byte), (cW, .int), (cL1, .int), (cL2, .int), (cL3, .int), (cU1, .int), (cU2, .int), (cU3, .int), (cV1, .int), (cV2, .int), (cV3, .int)] sz (zXT [(qu, .inr (4, [.ref qa, .ref qr, .ref qw, .ref s1, .ref s2, .ref s3, .ref s4, .ref s5])), (qr, .inr (5, [.ref qb, .int (nI a), .int (nI bh), .int (nI u)])), (qb, .inl (cB, 20000, .inl f)), (qw, .inl (cW, 320, .inl rw)), (s3, .inr (6, [.ref l1, .ref l2, .ref l3, .int k0])), (l1, .inl (cL1, 16, .inl g1)), (l2, .inl (cL2, 16, .inl g2)), (l3, .inl (cL3, 19, .inl g3)), (s4, .inr (6, [.ref o1, .ref o2, .ref o3, .int k4])), (o1, .inl (cU1, 16, .inl m1)), (o2, .inl (cU2, 16, .inl m2)), (o3, .inl (cU3, 286, .inl m3)), (s5, .inr (6, [.ref p1, .ref p2, .ref p3, .int k5])), (p1, .inl (cV1, 16, .inl e1)), (p2, .inl (cV2, 16, .inl e2)), (p3, .inl (cV3, 30, .inl e3))])) (va_Qi (fun (r : Int32) => fun (u9 : Nat × Nat × (Nat → Int32) × Int32 × (Nat → Int32) × (Nat → Int32) × (Nat → Int32) × Int32 × (Nat → Int32) × (Nat → Int32) × (Nat → Int32) × Int32 × (Nat → Int32) × (Nat → Int32) × (Nat → Int32)) => match u9 with | (a1, u1, rw1, k1, G1, G2, G3, k41, M1, M2, M3, k51, E1, E2, E3) => r = (zown f bh (8 * a + u)).1 ∧ u1 ≤ 7 ∧ a1 ≤ 20000 ∧ (r ≠ -30 → 8 * a1 + u1 = (zown f bh (8 * a + u)).2 ∧ 8 * a1 + u1 ≤ 8 * bh) ∧ (r = 0 → zns f (8 * a + u) ≤ 286 ∧ znd f (8 * a + u) ≤ 30 ∧ ((∀ l, l ≤ 15 → M1 l = nI (zcn ((zowR f bh (8 * a + u)).2.2) (zns f (8 * a + u)) l)) ∧ (∀ i, i < zns f (8 * a + u) → 1 ≤ ((zowR f bh (8 * a + u)).2.2) i → M3 (zst ((zowR f bh (8 * a + u)).2.2) (zns f (8 * a + u)) (((zowR f bh (8 * a + u)).2.2) i) + zcn ((zowR f bh (8 * a + u)).2.2) i (((zowR f bh (8 * a + u)).2.2) i)) = nI i) ∧ k41 = nI (zst ((zowR f bh (8 * a + u)).2.2) (zns f (8 * a + u)) 16)) ∧ ((∀ l, l ≤ 15 → E1 l = nI (zcn (fun k => (zowR f bh (8 * a + u)).2.2 (zns f (8 * a + u) + k)) (znd f (8 * a + u)) l)) ∧ (∀ i, i < znd f (8 * a + u) → 1 ≤ (fun k => (zowR f bh (8 * a + u)).2.2 (zns f (8 * a + u) + k)) i → E3 (zst (fun k => (zowR f bh (8 * a + u)).2.2 (zns f (8 * a + u) + k)) (znd f (8 * a + u)) ((fun k => (zowR f bh (8 * a + u)).2.2 (zns f (8 * a + u) + k)) i) + zcn (fun k => (zowR f bh (8 * a + u)).2.2 (zns f (8 * a + u) + k)) i ((fun k => (zowR f bh (8 * a + u)).2.2 (zns f (8 * a + u) + k)) i)) = nI i) ∧ k51 = nI (zst (fun k => (zowR f bh (8 * a + u)).2.2 (zns f (8 * a + u) + k)) (znd f (8 * a + u)) 16)))) (fun u9 t => zB D ((fun (u9 : Nat × Nat × (Nat → Int32) × Int32 × (Nat → Int32) × (Nat → Int32) × (Nat → Int32) × Int32 × (Nat → Int32) × (Nat → Int32) × (Nat → Int32) × Int32 × (Nat → Int32) × (Nat → Int32) × (Nat → Int32)) => match u9 with | (a1, u1, rw1, k1, G1, G2, G3, k41, M1, M2, M3, k51, E1, E2, E3) => [(qu, .inr (4, [.ref qa, .ref qr, .ref qw, .ref s1, .ref s2, .ref s3, .ref s4, .ref s5])), (qr, .inr (5, [.ref qb, .int (nI a1), .int (nI bh), .int (nI u1)])), (qb, .inl (cB, 20000, .inl f)), (qw, .inl (cW, 320, .inl rw1)), (s3, .inr (6, [.ref l1, .ref l2, .ref l3, .int k1])), (l1, .inl (cL1, 16, .inl G1)), (l2, .inl (cL2, 16, .inl G2)), (l3, .inl (cL3, 19, .inl G3)), (s4, .inr (6, [.ref o1, .ref o2, .ref o3, .int k41])), (o1, .inl (cU1, 16, .inl M1)), (o2, .inl (cU2, 16, .inl M2)), (o3, .inl (cU3, 286, .inl M3)), (s5, .inr (6, [.ref p1, .ref p2, .ref p3, .int k51])), (p1, .inl (cV1, 16, .inl E1)), (p2, .inl (cV2, 16, .inl E2)), (p3, .inl (cV3, 30, .inl E3))]) u9) ((fun (u9 : Nat × Nat × (Nat → Int32) × Int32 × (Nat → Int32) × (Nat → Int32) × (Nat → Int32) × Int32 × (Nat → Int32) × (Nat → Int32) × (Nat → Int32) × Int32 × (Nat → Int32) × (Nat → Int32) × (Nat → Int32)) => match u9 with | (a1, u1, rw1, k1, G1, G2, G3, k41, M1, M2, M3, k51, E1, E2, E3) => [(cB, .byte), (cW, .int), (cL1, .int), (cL2, .int), (cL3, .int), (cU1, .int), (cU2, .int), (cU3, .int), (cV1, .int), (cV2, .int), (cV3, .int)]) u9) (va_A [(qu, .inr (4, [.ref qa, .ref qr, .ref qw, .ref s1, .ref s2, .ref s3, .ref s4, .ref s5])), (qr, .inr (5, [.ref qb, .int (nI a), .int (nI bh), .int (nI u)])), (qb, .inl (cB, 20000, .inl f)), (qw, .inl (cW, 320, .inl rw)), (s3, .inr (6, [.ref l1, .ref l2, .ref l3, .int k0])), (l1, .inl (cL1, 16, .inl g1)), (l2, .inl (cL2, 16, .inl g2)), (l3, .inl (cL3, 19, .inl g3)), (s4, .inr (6, [.ref o1, .ref o2, .ref o3, .int k4])), (o1, .inl (cU1, 16, .inl m1)), (o2, .inl (cU2, 16, .inl m2)), (o3, .inl (cU3, 286, .inl m3)), (s5, .inr (6, [.ref p1, .ref p2, .ref p3, .int k5])), (p1, .inl (cV1, 16, .inl e1)), (p2, .inl (cV2, 16, .inl e2)), (p3, .inl (cV3, 30, .inl e3))] sz) t) (va_A [(qu, .inr (4, [.ref qa, .ref qr, .ref qw, .ref s1, .ref s2, .ref s3, .ref s4, .ref s5])), (qr, .inr (5, [.ref qb, .int (nI a), .int (nI bh), .int (nI u)])), (qb, .inl (cB, 20000, .inl f)), (qw, .inl (cW, 320, .inl rw)), (s3, .inr (6, [.ref l1, .ref l2, .ref l3, .int k0])), (l1, .inl (cL1, 16, .inl g1)), (l2, .inl (cL2, 16, .inl g2)), (l3, .inl (cL3, 19, .inl g3)), (s4, .inr (6, [.ref o1, .ref o2, .ref o3, .int k4])), (o1, .inl (cU1, 16, .inl m1)), (o2, .inl (cU2, 16, .inl m2)), (o3, .inl (cU3, 286, .inl m3)), (s5, .inr (6, [.ref p1, .ref p2, .ref p3, .int k5])), (p1, .inl (cV1, 16, .inl e1)), (p2, .inl (cV2, 16, .inl e2)), (p3, .inl (cV3, 30, .inl e3))] sz)) 0 0 (va_A [(qu, .inr (4, [.ref qa, .ref qr, .ref qw, .ref s1, .ref s2, .ref s3, .ref s4, .ref s5])), (qr, .inr (5, [.ref qb, .int (nI a), .int (nI bh), .int (nI u)])), (qb, .inl (cB, 20000, .inl f)), (qw, .inl (cW, 320, .inl rw)), (s3, .inr (6, [.ref l1, .ref l2, .ref l3, .int k0])), (l1, .inl (cL1, 16, .inl g1)), (l2, .inl (cL2, 16, .inl g2)), (l3, .inl (cL3, 19, .inl g3)), (s4, .inr (6, [.ref o1, .ref o2, .ref o3, .int k4])), (o1, .inl (cU1, 16, .inl m1)), (o2, .inl (cU2, 16, .inl m2)), (o3, .inl (cU3, 286, .inl m3)), (s5, .inr (6, [.ref p1, .ref p2, .ref p3, .int k5])), (p1, .inl (cV1, 16, .inl e1)), (p2, .inl (cV2, 16, .inl e2)), (p3, .inl (cV3, 30, .inl e3))] sz) :=
  zMetA (Qf := fun A => va_Qi (fun (r : Int32) => fun (u9 : Nat × Nat × (Nat → Int32) × Int32 × (Nat → Int32) × (Nat → Int32) × (Nat → Int32) × Int32 × (Nat → Int32) × (Nat → Int32) × (Nat → Int32) × Int32 × (Nat → Int32) × (Nat → Int32) × (Nat → Int32)) => match u9 with | (a1, u1, rw1, k1, G1, G2, G3, k41, M1, M2, M3, k51, E1, E2, E3) => r = (zown f bh (8 * a + u)).1 ∧ u1 ≤ 7 ∧ a1 ≤ 20000 ∧ (r ≠ -30 → 8 * a1 + u1 = (zown f bh (8 * a + u)).2 ∧ 8 * a1 + u1 ≤ 8 * bh) ∧ (r = 0 → zns f (8 * a + u) ≤ 286 ∧ znd f (8 * a + u) ≤ 30 ∧ ((∀ l, l ≤ 15 → M1 l = nI (zcn ((zowR f bh (8 * a + u)).2.2) (zns f (8 * a + u)) l)) ∧ (∀ i, i < zns f (8 * a + u) → 1 ≤ ((zowR f bh (8 * a + u)).2.2) i → M3 (zst ((zowR f bh (8 * a + u)).2.2) (zns f (8 * a + u)) (((zowR f bh (8 * a + u)).2.2) i) + zcn ((zowR f bh (8 * a + u)).2.2) i (((zowR f bh (8 * a + u)).2.2) i)) = nI i) ∧ k41 = nI (zst ((zowR f bh (8 * a + u)).2.2) (zns f (8 * a + u)) 16)) ∧ ((∀ l, l ≤ 15 → E1 l = nI (zcn (fun k => (zowR f bh (8 * a + u)).2.2 (zns f (8 * a + u) + k)) (znd f (8 * a + u)) l)) ∧ (∀ i, i < znd f (8 * a + u) → 1 ≤ (fun k => (zowR f bh (8 * a + u)).2.2 (zns f (8 * a + u) + k)) i → E3 (zst (fun k => (zowR f bh (8 * a + u)).2.2 (zns f (8 * a + u) + k)) (znd f (8 * a + u)) ((fun k => (zowR f bh (8 * a + u)).2.2 (zns f (8 * a + u) + k)) i) + zcn (fun k => (zowR f bh (8 * a + u)).2.2 (zns f (8 * a + u) + k)) i ((fun k => (zowR f bh (8 * a + u)).2.2 (zns f (8 * a + u) + k)) i)) = nI i) ∧ k51 = nI (zst (fun k => (zowR f bh (8 * a + u)).2.2 (zns f (8 * a + u) + k)) (znd f (8 * a + u)) 16)))) (fun u9 t => zB D ((fun (u9 : Nat × Nat × (Nat → Int32) × Int32 × (Nat → Int32) × (Nat → Int32) × (Nat → Int32) × Int32 × (Nat → Int32) × (Nat → Int32) × (Nat → Int32) × Int32 × (Nat → Int32) × (Nat → Int32) × (Nat → Int32)) => match u9 with | (a1, u1, rw1, k1, G1, G2, G3, k41, M1, M2, M3, k51, E1, E2, E3) => [(qu, .inr (4, [.ref qa, .ref qr, .ref qw, .ref s1, .ref s2, .ref s3, .ref s4, .ref s5])), (qr, .inr (5, [.ref qb, .int (nI a1), .int (nI bh), .int (nI u1)])), (qb, .inl (cB, 20000, .inl f)), (qw, .inl (cW, 320, .inl rw1)), (s3, .inr (6, [.ref l1, .ref l2, .ref l3, .int k1])), (l1, .inl (cL1, 16, .inl G1)), (l2, .inl (cL2, 16, .inl G2)), (l3, .inl (cL3, 19, .inl G3)), (s4, .inr (6, [.ref o1, .ref o2, .ref o3, .int k41])), (o1, .inl (cU1, 16, .inl M1)), (o2, .inl (cU2, 16, .inl M2)), (o3, .inl (cU3, 286, .inl M3)), (s5, .inr (6, [.ref p1, .ref p2, .ref p3, .int k51])), (p1, .inl (cV1, 16, .inl E1)), (p2, .inl (cV2, 16, .inl E2)), (p3, .inl (cV3, 30, .inl E3))]) u9) ((fun (u9 : Nat × Nat × (Nat → Int32) × Int32 × (Nat → Int32) × (Nat → Int32) × (Nat → Int32) × Int32 × (Nat → Int32) × (Nat → Int32) × (Nat → Int32) × Int32 × (Nat → Int32) × (Nat → Int32) × (Nat → Int32)) => match u9 with | (a1, u1, rw1, k1, G1, G2, G3, k41, M1, M2, M3, k51, E1, E2, E3) => [(cB, .byte), (cW, .int), (cL1, .int), (cL2, .int), (cL3, .int), (cU1, .int), (cU2, .int), (cU3, .int), (cV1, .int), (cV2, .int), (cV3, .int)]) u9) A t) A) (by decide) (Nat.le_of_ble_eq_true rfl) (fun p e s m below meth c A ls hx hb hr hml hown ht hlk hnm hA hK hP hD hX hl => by
    have hS : va_S A s.heap s.heap [] := va_S.rf
    have hl : lv_has ls 6 [(0, .ref qu)] := hl
    refine lv_aload_n hx hb d_U_readOwnCodes_0 rfl (lv_at hl 0 rfl) ?_
    refine va_get (ci := 4) (C := "ZipGuard$Unpacker") (T := F_U) (N := 8) hx hb ht zi_U hown hK hP 0 rfl rfl 1 (by decide) (ht _ zm_371) (fun _ h9 => h9) rfl d_U_readOwnCodes_1 ?_
    refine lv_bipush (v := 14) hx hb d_U_readOwnCodes_4 (by decide) ?_
    refine zji (wr := [(qu, .inr (4, [.ref qa, .ref qr, .ref qw, .ref s1, .ref s2, .ref s3, .ref s4, .ref s5])), (qw, .inl (cW, 320, .inl rw)), (s3, .inr (6, [.ref l1, .ref l2, .ref l3, .int k0])), (l1, .inl (cL1, 16, .inl g1)), (l2, .inl (cL2, 16, .inl g2)), (l3, .inl (cL3, 19, .inl g3)), (s4, .inr (6, [.ref o1, .ref o2, .ref o3, .int k4])), (o1, .inl (cU1, 16, .inl m1)), (o2, .inl (cU2, 16, .inl m2)), (o3, .inl (cU3, 286, .inl m3)), (s5, .inr (6, [.ref p1, .ref p2, .ref p3, .int k5])), (p1, .inl (cV1, 16, .inl e1)), (p2, .inl (cV2, 16, .inl e2)), (p3, .inl (cV3, 30, .inl e3))]) (va_runV (As := [.int 14]) (rest := []) ⟨hx, hb, hml, hown, ht⟩ (c_B_read l D _ qr qb cB f bh 14 a u hbh (by decide) hu (by omega)) (cwV 1 ht (zt_goodV zm_629 zm_630 zm_631 zm_71 zm_632) rfl rfl rfl (by decide +kernel) ⟨Nat.le_of_ble_eq_true rfl, Nat.le_of_ble_eq_true rfl⟩) (zpreV zBlind_t hK hP hD [1, 2] [0] rfl (by decide) rfl (fun _ _ _ => trivial) (va_recv (q := ("ZipGuard$BitReader", F_B, 4)) hK hP rfl (q0 := 1) (ci := 5) rfl)) rfl rfl hl.1 rfl (lv_room (Nat.le_of_ble_eq_true rfl)) d_U_readOwnCodes_6 ⟨Nat.le_of_ble_eq_true rfl, Nat.le_of_ble_eq_true rfl⟩) hK hP hD hS hA [1, 2] [0, 3, 4, 5, 6, 7, 8, 9, 10, 11, 12, 13, 14, 15] rfl rfl (by decide) (by decide) (fun r1 u9 H locs hp2 hP hD hK hS => ?_)
    obtain ⟨a2, u2⟩ := u9
    dsimp only at hp2 hP hD hK
    have hP : va_P D zcl [(qu, .inr (4, [.ref qa, .ref qr, .ref qw, .ref s1, .ref s2, .ref s3, .ref s4, .ref s5])), (qw, .inl (cW, 320, .inl rw)), (s3, .inr (6, [.ref l1, .ref l2, .ref l3, .int k0])), (l1, .inl (cL1, 16, .inl g1)), (l2, .inl (cL2, 16, .inl g2)), (l3, .inl (cL3, 19, .inl g3)), (s4, .inr (6, [.ref o1, .ref o2, .ref o3, .int k4])), (o1, .inl (cU1, 16, .inl m1)), (o2, .inl (cU2, 16, .inl m2)), (o3, .inl (cU3, 286, .inl m3)), (s5, .inr (6, [.ref p1, .ref p2, .ref p3, .int k5])), (p1, .inl (cV1, 16, .inl e1)), (p2, .inl (cV2, 16, .inl e2)), (p3, .inl (cV3, 30, .inl e3)), (qr, .inr (5, [.ref qb, .int (nI a2), .int (nI bh), .int (nI u2)])), (qb, .inl (cB, 20000, .inl f))] H := hP
    have hD : va_D A [(qu, .inr (4, [.ref qa, .ref qr, .ref qw, .ref s1, .ref s2, .ref s3, .ref s4, .ref s5])), (qw, .inl (cW, 320, .inl rw)), (s3, .inr (6, [.ref l1, .ref l2, .ref l3, .int k0])), (l1, .inl (cL1, 16, .inl g1)), (l2, .inl (cL2, 16, .inl g2)), (l3, .inl (cL3, 19, .inl g3)), (s4, .inr (6, [.ref o1, .ref o2, .ref o3, .int k4])), (o1, .inl (cU1, 16, .inl m1)), (o2, .inl (cU2, 16, .inl m2)), (o3, .inl (cU3, 286, .inl m3)), (s5, .inr (6, [.ref p1, .ref p2, .ref p3, .int k5])), (p1, .inl (cV1, 16, .inl e1)), (p2, .inl (cV2, 16, .inl e2)), (p3, .inl (cV3, 30, .inl e3)), (qr, .inr (5, [.ref qb, .int (nI a2), .int (nI bh), .int (nI u2)])), (qb, .inl (cB, 20000, .inl f))] := hD
    have hK : va_K D zcl [(cB, .byte), (cW, .int), (cL1, .int), (cL2, .int), (cL3, .int), (cU1, .int), (cU2, .int), (cU3, .int), (cV1, .int), (cV2, .int), (cV3, .int), (cB, .byte)] s := hK
    have hP := hP.sub (ws' := [(qu, .inr (4, [.ref qa, .ref qr, .ref qw, .ref s1, .ref s2, .ref s3, .ref s4, .ref s5])), (qr, .inr (5, [.ref qb, .int (nI a2), .int (nI bh), .int (nI u2)])), (qb, .inl (cB, 20000, .inl f)), (qw, .inl (cW, 320, .inl rw)), (s3, .inr (6, [.ref l1, .ref l2, .ref l3, .int k0])), (l1, .inl (cL1, 16, .inl g1)), (l2, .inl (cL2, 16, .inl g2)), (l3, .inl (cL3, 19, .inl g3)), (s4, .inr (6, [.ref o1, .ref o2, .ref o3, .int k4])), (o1, .inl (cU1, 16, .inl m1)), (o2, .inl (cU2, 16, .inl m2)), (o3, .inl (cU3, 286, .inl m3)), (s5, .inr (6, [.ref p1, .ref p2, .ref p3, .int k5])), (p1, .inl (cV1, 16, .inl e1)), (p2, .inl (cV2, 16, .inl e2)), (p3, .inl (cV3, 30, .inl e3))]) [0, 14, 15, 1, 2, 3, 4, 5, 6, 7, 8, 9, 10, 11, 12, 13] rfl
    have hD := hD.sub (ws' := [(qu, .inr (4, [.ref qa, .ref qr, .ref qw, .ref s1, .ref s2, .ref s3, .ref s4, .ref s5])), (qr, .inr (5, [.ref qb, .int (nI a2), .int (nI bh), .int (nI u2)])), (qb, .inl (cB, 20000, .inl f)), (qw, .inl (cW, 320, .inl rw)), (s3, .inr (6, [.ref l1, .ref l2, .ref l3, .int k0])), (l1, .inl (cL1, 16, .inl g1)), (l2, .inl (cL2, 16, .inl g2)), (l3, .inl (cL3, 19, .inl g3)), (s4, .inr (6, [.ref o1, .ref o2, .ref o3, .int k4])), (o1, .inl (cU1, 16, .inl m1)), (o2, .inl (cU2, 16, .inl m2)), (o3, .inl (cU3, 286, .inl m3)), (s5, .inr (6, [.ref p1, .ref p2, .ref p3, .int k5])), (p1, .inl (cV1, 16, .inl e1)), (p2, .inl (cV2, 16, .inl e2)), (p3, .inl (cV3, 30, .inl e3))]) [0, 14, 15, 1, 2, 3, 4, 5, 6, 7, 8, 9, 10, 11, 12, 13] (by decide) rfl
    have hK := hK.sub (tys' := [(cB, .byte), (cW, .int), (cL1, .int), (cL2, .int), (cL3, .int), (cU1, .int), (cU2, .int), (cU3, .int), (cV1, .int), (cV2, .int), (cV3, .int)]) [0, 1, 2, 3, 4, 5, 6, 7, 8, 9, 10] rfl
    obtain ⟨hu2, ha2, hp2⟩ := hp2
    have hzb := zbits_lt f (8 * a + u) 14
    refine lv_istore_n (lv' := [(1, .int r1), (0, .ref qu)]) hx hb d_U_readOwnCodes_9 rfl hl (by decide) rfl (fun ls hl => ?_)
    refine lv_iload_n hx hb d_U_readOwnCodes_10 rfl (lv_at hl 0 rfl) ?_
    rcases hp2 with ⟨hp2, hpos1, hle1⟩ | ⟨hp2, hend1⟩
    · skip
      have hp2 := hp2.symm
      subst hp2
      have hNE : ¬ 8 * bh < (8 * a + u) + 14 := by omega
      refine lv_if_ge (tgt := 16) hx hb d_U_readOwnCodes_11 (by decide) (fun _ => ?_) (fun h => absurd (nI_pos' (by omega)) h)
      have hns : zns f (8 * a + u) = 257 + zbits f (8 * a + u) 14 % 32 := rfl
      have hnd : znd f (8 * a + u) = 1 + zbits f (8 * a + u) 14 / 32 % 32 := rfl
      have hnc : znc f (8 * a + u) = 4 + zbits f (8 * a + u) 14 / 1024 := rfl
      generalize hh : zbits f (8 * a + u) 14 = hd9 at *
      refine lv_sipush (v := 257) hx hb d_U_readOwnCodes_16 (by decide) ?_
      refine lv_iload_n hx hb d_U_readOwnCodes_19 rfl (lv_at hl 0 rfl) ?_
      refine lv_bipush (v := 31) hx hb d_U_readOwnCodes_20 (by decide) ?_
      refine lv_iand hx hb d_U_readOwnCodes_22 ?_
      refine lv_topi (fun x4 e_x4 => ?_)
      have e_x4 : x4 = nI (hd9 % 32) := by rw [e_x4]; exact (show nI hd9 &&& nI (2 ^ 5 - 1) = nI (hd9 % 2 ^ 5) from zand (by decide) (by omega))
      subst e_x4
      refine lv_iadd hx hb d_U_readOwnCodes_23 ?_
      refine lv_topi (fun x5 e_x5 => ?_)
      have e_x5 : x5 = nI (zns f (8 * a + u)) := by rw [e_x5, hns]; exact nI_add 257 _
      subst e_x5
      refine lv_istore_n (lv' := [(2, .int (nI (zns f (8 * a + u)))), (1, .int (nI hd9)), (0, .ref qu)]) hx hb d_U_readOwnCodes_24 rfl hl (by decide) rfl (fun ls hl => ?_)
      refine lv_iconst (v := 1) hx hb d_U_readOwnCodes_25 (by decide) ?_
      refine lv_iload_n hx hb d_U_readOwnCodes_26 rfl (lv_at hl 1 rfl) ?_
      refine lv_iconst (v := 5) hx hb d_U_readOwnCodes_27 (by decide) ?_
      refine lv_ishr hx hb d_U_readOwnCodes_28 ?_
      refine lv_topi (fun x6 e_x6 => ?_)
      have e_x6 : x6 = nI (hd9 / 32) := by rw [e_x6]; exact (show nI hd9 >>> (nI 5 &&& 31) = nI (hd9 / 2 ^ 5) from zshr (by decide) (by omega))
      subst e_x6
      refine lv_bipush (v := 31) hx hb d_U_readOwnCodes_29 (by decide) ?_
      refine lv_iand hx hb d_U_readOwnCodes_31 ?_
      refine lv_topi (fun x7 e_x7 => ?_)
      have e_x7 : x7 = nI (hd9 / 32 % 32) := by rw [e_x7]; exact (show nI (hd9 / 32) &&& nI (2 ^ 5 - 1) = nI (hd9 / 32 % 2 ^ 5) from zand (by decide) (by omega))
      subst e_x7
      refine lv_iadd hx hb d_U_readOwnCodes_32 ?_
      refine lv_topi (fun x8 e_x8 => ?_)
      have e_x8 : x8 = nI (znd f (8 * a + u)) := by rw [e_x8, hnd]; exact nI_add 1 _
      subst e_x8
      refine lv_istore_n (lv' := [(3, .int (nI (znd f (8 * a + u)))), (2, .int (nI (zns f (8 * a + u)))), (1, .int (nI hd9)), (0, .ref qu)]) hx hb d_U_readOwnCodes_33 rfl hl (by decide) rfl (fun ls hl => ?_)
      refine lv_iload_n hx hb d_U_readOwnCodes_34 rfl (lv_at hl 1 rfl) ?_
      refine lv_sipush (v := 286) hx hb d_U_readOwnCodes_35 (by decide) ?_
      by_cases h1 : 286 < zns f (8 * a + u)
      · skip
        refine lv_icmp_gt (tgt := 47) hx hb d_U_readOwnCodes_38 (by decide) (fun _ => ?_) (fun h => absurd (show nI 286 < nI (zns f (8 * a + u)) from nI_lt h1 (by omega)) h)
        refine lv_bipush (v := (-32)) hx hb d_U_readOwnCodes_47 (by decide) ?_
        exact zreti hx hb hr hlk hK hP hD hS (a2, u2, rw, k0, g1, g2, g3, k4, m1, m2, m3, k5, e1, e2, e3) [0, 1, 2, 3, 4, 5, 6, 7, 8, 9, 10, 11, 12, 13, 14, 15] [0, 1, 2, 3, 4, 5, 6, 7, 8, 9, 10] rfl (by decide) rfl (by unfold zown; rw [if_neg hNE, if_pos (Or.inl h1)]; exact ⟨rfl, hu2, ha2, fun _ => ⟨hpos1, by omega⟩, fun h => absurd h (by decide)⟩) (Nat.le_of_ble_eq_true rfl) (Nat.le_of_ble_eq_true rfl) d_U_readOwnCodes_49
      · skip
        refine lv_icmp_gt (tgt := 47) hx hb d_U_readOwnCodes_38 (by decide) (fun h => absurd h (show ¬ nI 286 < nI (zns f (8 * a + u)) from nI_nlt (by omega) (by decide))) (fun _ => ?_)
        refine lv_iload_n hx hb d_U_readOwnCodes_41 rfl (lv_at hl 0 rfl) ?_
        refine lv_bipush (v := 30) hx hb d_U_readOwnCodes_42 (by decide) ?_
        by_cases h2 : 30 < znd f (8 * a + u)
        · skip
          refine lv_icmp_le (tgt := 50) hx hb d_U_readOwnCodes_44 (by decide) (fun h => absurd h (show ¬ nI (znd f (8 * a + u)) ≤ nI 30 from nI_ge h2 (by omega))) (fun _ => ?_)
          refine lv_bipush (v := (-32)) hx hb d_U_readOwnCodes_47 (by decide) ?_
          exact zreti hx hb hr hlk hK hP hD hS (a2, u2, rw, k0, g1, g2, g3, k4, m1, m2, m3, k5, e1, e2, e3) [0, 1, 2, 3, 4, 5, 6, 7, 8, 9, 10, 11, 12, 13, 14, 15] [0, 1, 2, 3, 4, 5, 6, 7, 8, 9, 10] rfl (by decide) rfl (by unfold zown; rw [if_neg hNE, if_pos (Or.inr h2)]; exact ⟨rfl, hu2, ha2, fun _ => ⟨hpos1, by omega⟩, fun h => absurd h (by decide)⟩) (Nat.le_of_ble_eq_true rfl) (Nat.le_of_ble_eq_true rfl) d_U_readOwnCodes_49
        · skip
          refine lv_icmp_le (tgt := 50) hx hb d_U_readOwnCodes_44 (by decide) (fun _ => ?_) (fun h => absurd (show nI (znd f (8 * a + u)) ≤ nI 30 from nI_le (by omega) (by decide)) h)
          refine lv_aload_n hx hb d_U_readOwnCodes_50 rfl (lv_at hl 3 rfl) ?_
          refine lv_iconst (v := 4) hx hb d_U_readOwnCodes_51 (by decide) ?_
          refine lv_iload_n hx hb d_U_readOwnCodes_52 rfl (lv_at hl 2 rfl) ?_
          refine lv_bipush (v := 10) hx hb d_U_readOwnCodes_53 (by decide) ?_
          refine lv_ishr hx hb d_U_readOwnCodes_55 ?_
          refine lv_topi (fun x13 e_x13 => ?_)
          have e_x13 : x13 = nI (hd9 / 1024) := by rw [e_x13]; exact (show nI hd9 >>> (nI 10 &&& 31) = nI (hd9 / 2 ^ 10) from zshr (by decide) (by omega))
          subst e_x13
          refine lv_iadd hx hb d_U_readOwnCodes_56 ?_
          refine lv_topi (fun x14 e_x14 => ?_)
          have e_x14 : x14 = nI (znc f (8 * a + u)) := by rw [e_x14, hnc]; exact nI_add 4 _
          subst e_x14
          have hun : zown f bh (8 * a + u) = zown2 (zns f (8 * a + u)) (znd f (8 * a + u)) (zlc f bh (znc f (8 * a + u)) ((8 * a + u) + 14)) (zowR f bh (8 * a + u)) := by unfold zown; rw [if_neg hNE, if_neg (by omega)]
          refine zji (wr := [(s4, .inr (6, [.ref o1, .ref o2, .ref o3, .int k4])), (o1, .inl (cU1, 16, .inl m1)), (o2, .inl (cU2, 16, .inl m2)), (o3, .inl (cU3, 286, .inl m3)), (s5, .inr (6, [.ref p1, .ref p2, .ref p3, .int k5])), (p1, .inl (cV1, 16, .inl e1)), (p2, .inl (cV2, 16, .inl e2)), (p3, .inl (cV3, 30, .inl e3))]) (va_runV (As := [.int (nI (znc f (8 * a + u)))]) (rest := []) ⟨hx, hb, hml, hown, ht⟩ (c_U_len l D _ qu qw s1 s2 s3 s4 s5 qa qr qb l1 l2 l3 cB cW cL1 cL2 cL3 f bh (znc f (8 * a + u)) k0 g1 g2 g3 rw a2 u2 hbh (by omega) hu2 (by omega)) (cwV 1 ht (zt_goodV zm_675 zm_676 zm_25 zm_70 zm_677) rfl rfl rfl (by decide +kernel) ⟨Nat.le_of_ble_eq_true rfl, Nat.le_of_ble_eq_true rfl⟩) (zpreV (zBlind_XT _) hK hP hD [0, 1, 2, 3, 4, 5, 6, 7] [0, 1, 2, 3, 4] rfl (by decide) rfl (zXT_call hX hD hS hA [0, 1, 2, 3, 4, 5, 6, 7] rfl) (va_recv (q := ("ZipGuard$Unpacker", F_U, 8)) hK hP rfl (q0 := 0) (ci := 4) rfl)) rfl rfl hl.1 rfl (lv_room (Nat.le_of_ble_eq_true rfl)) d_U_readOwnCodes_57 ⟨Nat.le_of_ble_eq_true rfl, Nat.le_of_ble_eq_true rfl⟩) hK hP hD hS hA [0, 1, 2, 3, 4, 5, 6, 7] [8, 9, 10, 11, 12, 13, 14, 15] rfl rfl (by decide) (by decide) (fun r15 u9 H locs hp16 hP hD hK hS => ?_)
          obtain ⟨a3, u3, rw1, k1, G1, G2, G3⟩ := u9
          dsimp only at hp16 hP hD hK
          have hP : va_P D zcl [(s4, .inr (6, [.ref o1, .ref o2, .ref o3, .int k4])), (o1, .inl (cU1, 16, .inl m1)), (o2, .inl (cU2, 16, .inl m2)), (o3, .inl (cU3, 286, .inl m3)), (s5, .inr (6, [.ref p1, .ref p2, .ref p3, .int k5])), (p1, .inl (cV1, 16, .inl e1)), (p2, .inl (cV2, 16, .inl e2)), (p3, .inl (cV3, 30, .inl e3)), (qu, .inr (4, [.ref qa, .ref qr, .ref qw, .ref s1, .ref s2, .ref s3, .ref s4, .ref s5])), (qr, .inr (5, [.ref qb, .int (nI a3), .int (nI bh), .int (nI u3)])), (qb, .inl (cB, 20000, .inl f)), (qw, .inl (cW, 320, .inl rw1)), (s3, .inr (6, [.ref l1, .ref l2, .ref l3, .int k1])), (l1, .inl (cL1, 16, .inl G1)), (l2, .inl (cL2, 16, .inl G2)), (l3, .inl (cL3, 19, .inl G3))] H := hP
          have hD : va_D A [(s4, .inr (6, [.ref o1, .ref o2, .ref o3, .int k4])), (o1, .inl (cU1, 16, .inl m1)), (o2, .inl (cU2, 16, .inl m2)), (o3, .inl (cU3, 286, .inl m3)), (s5, .inr (6, [.ref p1, .ref p2, .ref p3, .int k5])), (p1, .inl (cV1, 16, .inl e1)), (p2, .inl (cV2, 16, .inl e2)), (p3, .inl (cV3, 30, .inl e3)), (qu, .inr (4, [.ref qa, .ref qr, .ref qw, .ref s1, .ref s2, .ref s3, .ref s4, .ref s5])), (qr, .inr (5, [.ref qb, .int (nI a3), .int (nI bh), .int (nI u3)])), (qb, .inl (cB, 20000, .inl f)), (qw, .inl (cW, 320, .inl rw1)), (s3, .inr (6, [.ref l1, .ref l2, .ref l3, .int k1])), (l1, .inl (cL1, 16, .inl G1)), (l2, .inl (cL2, 16, .inl G2)), (l3, .inl (cL3, 19, .inl G3))] := hD
          have hK : va_K D zcl [(cB, .byte), (cW, .int), (cL1, .int), (cL2, .int), (cL3, .int), (cU1, .int), (cU2, .int), (cU3, .int), (cV1, .int), (cV2, .int), (cV3, .int), (cB, .byte), (cW, .int), (cL1, .int), (cL2, .int), (cL3, .int)] s := hK
          have hP := hP.sub (ws' := [(qu, .inr (4, [.ref qa, .ref qr, .ref qw, .ref s1, .ref s2, .ref s3, .ref s4, .ref s5])), (qr, .inr (5, [.ref qb, .int (nI a3), .int (nI bh), .int (nI u3)])), (qb, .inl (cB, 20000, .inl f)), (qw, .inl (cW, 320, .inl rw1)), (s3, .inr (6, [.ref l1, .ref l2, .ref l3, .int k1])), (l1, .inl (cL1, 16, .inl G1)), (l2, .inl (cL2, 16, .inl G2)), (l3, .inl (cL3, 19, .inl G3)), (s4, .inr (6, [.ref o1, .ref o2, .ref o3, .int k4])), (o1, .inl (cU1, 16, .inl m1)), (o2, .inl (cU2, 16, .inl m2)), (o3, .inl (cU3, 286, .inl m3)), (s5, .inr (6, [.ref p1, .ref p2, .ref p3, .int k5])), (p1, .inl (cV1, 16, .inl e1)), (p2, .inl (cV2, 16, .inl e2)), (p3, .inl (cV3, 30, .inl e3))]) [8, 9, 10, 11, 12, 13, 14, 15, 0, 1, 2, 3, 4, 5, 6, 7] rfl
          have hD := hD.sub (ws' := [(qu, .inr (4, [.ref qa, .ref qr, .ref qw, .ref s1, .ref s2, .ref s3, .ref s4, .ref s5])), (qr, .inr (5, [.ref qb, .int (nI a3), .int (nI bh), .int (nI u3)])), (qb, .inl (cB, 20000, .inl f)), (qw, .inl (cW, 320, .inl rw1)), (s3, .inr (6, [.ref l1, .ref l2, .ref l3, .int k1])), (l1, .inl (cL1, 16, .inl G1)), (l2, .inl (cL2, 16, .inl G2)), (l3, .inl (cL3, 19, .inl G3)), (s4, .inr (6, [.ref o1, .ref o2, .ref o3, .int k4])), (o1, .inl (cU1, 16, .inl m1)), (o2, .inl (cU2, 16, .inl m2)), (o3, .inl (cU3, 286, .inl m3)), (s5, .inr (6, [.ref p1, .ref p2, .ref p3, .int k5])), (p1, .inl (cV1, 16, .inl e1)), (p2, .inl (cV2, 16, .inl e2)), (p3, .inl (cV3, 30, .inl e3))]) [8, 9, 10, 11, 12, 13, 14, 15, 0, 1, 2, 3, 4, 5, 6, 7] (by decide) rfl
          have hK := hK.sub (tys' := [(cB, .byte), (cW, .int), (cL1, .int), (cL2, .int), (cL3, .int), (cU1, .int), (cU2, .int), (cU3, .int), (cV1, .int), (cV2, .int), (cV3, .int)]) [0, 1, 2, 3, 4, 5, 6, 7, 8, 9, 10] rfl
          rw [hpos1] at hp16
          obtain ⟨hp16, hu3, ha3, hpos3, hset⟩ := hp16
          refine lv_istore (lv' := [(4, .int r15), (3, .int (nI (znd f (8 * a + u)))), (2, .int (nI (zns f (8 * a + u)))), (1, .int (nI hd9)), (0, .ref qu)]) hx hb d_U_readOwnCodes_60 hl (by decide) rfl (fun ls hl => ?_)
          refine lv_iload hx hb d_U_readOwnCodes_62 (lv_at hl 0 rfl) ?_
          by_cases hr2 : r15 = 0
          · skip
            obtain ⟨hs1, hs2, hs3⟩ := hset hr2
            subst hs3
            have hpo3 := hpos3 (by rw [hr2]; decide)
            refine lv_if_ne (tgt := 76) hx hb d_U_readOwnCodes_64 (by decide) (fun h => absurd (hr2) h) (fun _ => ?_)
            refine lv_aload_n hx hb d_U_readOwnCodes_67 rfl (lv_at hl 4 rfl) ?_
            refine lv_iload_n hx hb d_U_readOwnCodes_68 rfl (lv_at hl 2 rfl) ?_
            refine lv_iload_n hx hb d_U_readOwnCodes_69 rfl (lv_at hl 1 rfl) ?_
            refine lv_iadd hx hb d_U_readOwnCodes_70 ?_
            refine lv_topi (fun x18 e_x18 => ?_)
            have e_x18 : x18 = nI (zns f (8 * a + u) + znd f (8 * a + u)) := by rw [e_x18]; exact nI_add _ _
            subst e_x18
            refine zji (wr := [(l2, .inl (cL2, 16, .inl G2)), (s4, .inr (6, [.ref o1, .ref o2, .ref o3, .int k4])), (o1, .inl (cU1, 16, .inl m1)), (o2, .inl (cU2, 16, .inl m2)), (o3, .inl (cU3, 286, .inl m3)), (s5, .inr (6, [.ref p1, .ref p2, .ref p3, .int k5])), (p1, .inl (cV1, 16, .inl e1)), (p2, .inl (cV2, 16, .inl e2)), (p3, .inl (cV3, 30, .inl e3))]) (va_runV (As := [.int (nI (zns f (8 * a + u) + znd f (8 * a + u)))]) (rest := []) ⟨hx, hb, hml, hown, ht⟩ (c_U_row l D _ qu qw s1 s2 s3 s4 s5 qa qr qb l1 l2 l3 cB cW cL1 cL3 f G1 G3 bh (zlr f ((8 * a + u) + 14) (znc f (8 * a + u))) (zns f (8 * a + u) + znd f (8 * a + u)) rw1 (fun _ => 0) a3 u3 hbh hs1 hs2 (by omega) hu3 hpo3.2) (cwV 1 ht (zt_goodV zm_684 zm_685 zm_26 zm_70 zm_686) rfl rfl rfl (by decide +kernel) ⟨Nat.le_of_ble_eq_true rfl, Nat.le_of_ble_eq_true rfl⟩) (zpreV zBlind_t hK hP hD [0, 1, 2, 3, 4, 5, 7] [0, 1, 2, 4] rfl (by decide) rfl (fun _ _ _ => trivial) (va_recv (q := ("ZipGuard$Unpacker", F_U, 8)) hK hP rfl (q0 := 0) (ci := 4) rfl)) rfl rfl hl.1 rfl (lv_room (Nat.le_of_ble_eq_true rfl)) d_U_readOwnCodes_71 ⟨Nat.le_of_ble_eq_true rfl, Nat.le_of_ble_eq_true rfl⟩) hK hP hD hS hA [0, 1, 2, 3, 4, 5, 7] [6, 8, 9, 10, 11, 12, 13, 14, 15] rfl rfl (by decide) (by decide) (fun r19 u9 H locs hp20 hP hD hK hS => ?_)
            obtain ⟨a4, u4, rw2⟩ := u9
            dsimp only at hp20 hP hD hK
            have hP : va_P D zcl [(l2, .inl (cL2, 16, .inl G2)), (s4, .inr (6, [.ref o1, .ref o2, .ref o3, .int k4])), (o1, .inl (cU1, 16, .inl m1)), (o2, .inl (cU2, 16, .inl m2)), (o3, .inl (cU3, 286, .inl m3)), (s5, .inr (6, [.ref p1, .ref p2, .ref p3, .int k5])), (p1, .inl (cV1, 16, .inl e1)), (p2, .inl (cV2, 16, .inl e2)), (p3, .inl (cV3, 30, .inl e3)), (qu, .inr (4, [.ref qa, .ref qr, .ref qw, .ref s1, .ref s2, .ref s3, .ref s4, .ref s5])), (qr, .inr (5, [.ref qb, .int (nI a4), .int (nI bh), .int (nI u4)])), (qb, .inl (cB, 20000, .inl f)), (qw, .inl (cW, 320, .inl rw2)), (s3, .inr (6, [.ref l1, .ref l2, .ref l3, .int (nI (zst (zlr f ((8 * a + u) + 14) (znc f (8 * a + u))) 19 16))])), (l1, .inl (cL1, 16, .inl G1)), (l3, .inl (cL3, 19, .inl G3))] H := hP
            have hD : va_D A [(l2, .inl (cL2, 16, .inl G2)), (s4, .inr (6, [.ref o1, .ref o2, .ref o3, .int k4])), (o1, .inl (cU1, 16, .inl m1)), (o2, .inl (cU2, 16, .inl m2)), (o3, .inl (cU3, 286, .inl m3)), (s5, .inr (6, [.ref p1, .ref p2, .ref p3, .int k5])), (p1, .inl (cV1, 16, .inl e1)), (p2, .inl (cV2, 16, .inl e2)), (p3, .inl (cV3, 30, .inl e3)), (qu, .inr (4, [.ref qa, .ref qr, .ref qw, .ref s1, .ref s2, .ref s3, .ref s4, .ref s5])), (qr, .inr (5, [.ref qb, .int (nI a4), .int (nI bh), .int (nI u4)])), (qb, .inl (cB, 20000, .inl f)), (qw, .inl (cW, 320, .inl rw2)), (s3, .inr (6, [.ref l1, .ref l2, .ref l3, .int (nI (zst (zlr f ((8 * a + u) + 14) (znc f (8 * a + u))) 19 16))])), (l1, .inl (cL1, 16, .inl G1)), (l3, .inl (cL3, 19, .inl G3))] := hD
            have hK : va_K D zcl [(cB, .byte), (cW, .int), (cL1, .int), (cL2, .int), (cL3, .int), (cU1, .int), (cU2, .int), (cU3, .int), (cV1, .int), (cV2, .int), (cV3, .int), (cB, .byte), (cW, .int), (cL1, .int), (cL3, .int)] s := hK
            have hP := hP.sub (ws' := [(qu, .inr (4, [.ref qa, .ref qr, .ref qw, .ref s1, .ref s2, .ref s3, .ref s4, .ref s5])), (qr, .inr (5, [.ref qb, .int (nI a4), .int (nI bh), .int (nI u4)])), (qb, .inl (cB, 20000, .inl f)), (qw, .inl (cW, 320, .inl rw2)), (s3, .inr (6, [.ref l1, .ref l2, .ref l3, .int (nI (zst (zlr f ((8 * a + u) + 14) (znc f (8 * a + u))) 19 16))])), (l1, .inl (cL1, 16, .inl G1)), (l2, .inl (cL2, 16, .inl G2)), (l3, .inl (cL3, 19, .inl G3)), (s4, .inr (6, [.ref o1, .ref o2, .ref o3, .int k4])), (o1, .inl (cU1, 16, .inl m1)), (o2, .inl (cU2, 16, .inl m2)), (o3, .inl (cU3, 286, .inl m3)), (s5, .inr (6, [.ref p1, .ref p2, .ref p3, .int k5])), (p1, .inl (cV1, 16, .inl e1)), (p2, .inl (cV2, 16, .inl e2)), (p3, .inl (cV3, 30, .inl e3))]) [9, 10, 11, 12, 13, 14, 0, 15, 1, 2, 3, 4, 5, 6, 7, 8] rfl
            have hD := hD.sub (ws' := [(qu, .inr (4, [.ref qa, .ref qr, .ref qw, .ref s1, .ref s2, .ref s3, .ref s4, .ref s5])), (qr, .inr (5, [.ref qb, .int (nI a4), .int (nI bh), .int (nI u4)])), (qb, .inl (cB, 20000, .inl f)), (qw, .inl (cW, 320, .inl rw2)), (s3, .inr (6, [.ref l1, .ref l2, .ref l3, .int (nI (zst (zlr f ((8 * a + u) + 14) (znc f (8 * a + u))) 19 16))])), (l1, .inl (cL1, 16, .inl G1)), (l2, .inl (cL2, 16, .inl G2)), (l3, .inl (cL3, 19, .inl G3)), (s4, .inr (6, [.ref o1, .ref o2, .ref o3, .int k4])), (o1, .inl (cU1, 16, .inl m1)), (o2, .inl (cU2, 16, .inl m2)), (o3, .inl (cU3, 286, .inl m3)), (s5, .inr (6, [.ref p1, .ref p2, .ref p3, .int k5])), (p1, .inl (cV1, 16, .inl e1)), (p2, .inl (cV2, 16, .inl e2)), (p3, .inl (cV3, 30, .inl e3))]) [9, 10, 11, 12, 13, 14, 0, 15, 1, 2, 3, 4, 5, 6, 7, 8] (by decide) rfl
            have hK := hK.sub (tys' := [(cB, .byte), (cW, .int), (cL1, .int), (cL2, .int), (cL3, .int), (cU1, .int), (cU2, .int), (cU3, .int), (cV1, .int), (cV2, .int), (cV3, .int)]) [0, 1, 2, 3, 4, 5, 6, 7, 8, 9, 10] rfl
            rw [hpo3.1, zrow_g hs2] at hp20
            have hp20 : r19 = (zowR f bh (8 * a + u)).1 ∧ u4 ≤ 7 ∧ a4 ≤ 20000 ∧ (r19 ≠ -30 → 8 * a4 + u4 = (zowR f bh (8 * a + u)).2.1 ∧ 8 * a4 + u4 ≤ 8 * bh) ∧ (r19 = 0 → ∀ k, k < zns f (8 * a + u) + znd f (8 * a + u) → rw2 k = nI ((zowR f bh (8 * a + u)).2.2 k) ∧ (zowR f bh (8 * a + u)).2.2 k ≤ 15) := hp20
            obtain ⟨hp20, hu4, ha4, hpos4, hrow⟩ := hp20
            have hnr := zrow_neg (f := f) (bh := bh) (d := zlr f ((8 * a + u) + 14) (znc f (8 * a + u))) (g3 := zGs (zlr f ((8 * a + u) + 14) (znc f (8 * a + u))) 19) (n := zns f (8 * a + u) + znd f (8 * a + u)) (zns f (8 * a + u) + znd f (8 * a + u)) 0 (zlc f bh (znc f (8 * a + u)) ((8 * a + u) + 14)).2 (fun _ => 0)
            have hnr : ¬ (zowR f bh (8 * a + u)).1 < 0 → (zowR f bh (8 * a + u)).1 = 0 := hnr
            rw [← hp20] at hnr
            have hun2 : zown f bh (8 * a + u) = if r19 < 0 then (r19, (zowR f bh (8 * a + u)).2.1) else if 0 < (zowR f bh (8 * a + u)).2.2 256 ∧ zkf (zowR f bh (8 * a + u)).2.2 (zns f (8 * a + u)) 16 = 32768 ∧ (zkf (fun k => (zowR f bh (8 * a + u)).2.2 (zns f (8 * a + u) + k)) (znd f (8 * a + u)) 16 = 32768 ∨ zst (fun k => (zowR f bh (8 * a + u)).2.2 (zns f (8 * a + u) + k)) (znd f (8 * a + u)) 16 = 0 ∨ (zst (fun k => (zowR f bh (8 * a + u)).2.2 (zns f (8 * a + u) + k)) (znd f (8 * a + u)) 16 = 1 ∧ zcn (fun k => (zowR f bh (8 * a + u)).2.2 (zns f (8 * a + u) + k)) (znd f (8 * a + u)) 1 = 1)) then (0, (zowR f bh (8 * a + u)).2.1) else (-33, (zowR f bh (8 * a + u)).2.1) := by rw [hun]; unfold zown2; rw [if_neg (not_not_intro (by rw [← hp16]; exact hr2)), ← hp20]
            refine lv_istore (lv' := [(4, .int r19), (3, .int (nI (znd f (8 * a + u)))), (2, .int (nI (zns f (8 * a + u)))), (1, .int (nI hd9)), (0, .ref qu)]) hx hb d_U_readOwnCodes_74 hl (by decide) rfl (fun ls hl => ?_)
            refine lv_iload hx hb d_U_readOwnCodes_76 (lv_at hl 0 rfl) ?_
            by_cases hr4 : r19 < 0
            · skip
              refine lv_if_ge (tgt := 84) hx hb d_U_readOwnCodes_78 (by decide) (fun h => absurd h (fun h => absurd hr4 (by rw [Int32.lt_iff_toInt_lt]; have h9 := Int32.le_iff_toInt_le.mp h; omega))) (fun _ => ?_)
              refine lv_iload hx hb d_U_readOwnCodes_81 (lv_at hl 0 rfl) ?_
              exact zreti hx hb hr hlk hK hP hD hS (a4, u4, rw2, nI (zst (zlr f ((8 * a + u) + 14) (znc f (8 * a + u))) 19 16), G1, G2, G3, k4, m1, m2, m3, k5, e1, e2, e3) [0, 1, 2, 3, 4, 5, 6, 7, 8, 9, 10, 11, 12, 13, 14, 15] [0, 1, 2, 3, 4, 5, 6, 7, 8, 9, 10] rfl (by decide) rfl (by rw [hun2, if_pos hr4]; exact ⟨rfl, hu4, ha4, fun h => hpos4 h, fun h => absurd hr4 (by rw [h]; decide)⟩) (Nat.le_of_ble_eq_true rfl) (Nat.le_of_ble_eq_true rfl) d_U_readOwnCodes_83
            · skip
              have hr0 := hnr hr4
              rw [if_neg hr4] at hun2
              have hrw := hrow hr0
              have hpo4 := hpos4 (by rw [hr0]; decide)
              refine lv_if_ge (tgt := 84) hx hb d_U_readOwnCodes_78 (by decide) (fun _ => ?_) (fun h => absurd (by rw [hr0]; decide) h)
              refine lv_aload_n hx hb d_U_readOwnCodes_84 rfl (lv_at hl 4 rfl) ?_
              refine va_get (ci := 4) (C := "ZipGuard$Unpacker") (T := F_U) (N := 8) hx hb ht zi_U hown hK hP 0 rfl rfl 6 (by decide) (ht _ zm_376) (fun _ h9 => h9) rfl d_U_readOwnCodes_85 ?_
              refine lv_aload_n hx hb d_U_readOwnCodes_88 rfl (lv_at hl 4 rfl) ?_
              refine va_get (ci := 4) (C := "ZipGuard$Unpacker") (T := F_U) (N := 8) hx hb ht zi_U hown hK hP 0 rfl rfl 2 (by decide) (ht _ zm_372) (fun _ h9 => h9) rfl d_U_readOwnCodes_89 ?_
              refine lv_iconst (v := 0) hx hb d_U_readOwnCodes_92 (by decide) ?_
              refine lv_iload_n hx hb d_U_readOwnCodes_93 rfl (lv_at hl 2 rfl) ?_
              refine zjv (wr := [(qu, .inr (4, [.ref qa, .ref qr, .ref qw, .ref s1, .ref s2, .ref s3, .ref s4, .ref s5])), (qr, .inr (5, [.ref qb, .int (nI a4), .int (nI bh), .int (nI u4)])), (qb, .inl (cB, 20000, .inl f)), (s3, .inr (6, [.ref l1, .ref l2, .ref l3, .int (nI (zst (zlr f ((8 * a + u) + 14) (znc f (8 * a + u))) 19 16))])), (l1, .inl (cL1, 16, .inl G1)), (l2, .inl (cL2, 16, .inl G2)), (l3, .inl (cL3, 19, .inl G3)), (s5, .inr (6, [.ref p1, .ref p2, .ref p3, .int k5])), (p1, .inl (cV1, 16, .inl e1)), (p2, .inl (cV2, 16, .inl e2)), (p3, .inl (cV3, 30, .inl e3))]) (va_runV (As := [.ref qw, .int 0, .int (nI (zns f (8 * a + u)))]) (rest := []) ⟨hx, hb, hml, hown, ht⟩ (c_C_build l D _ s4 o1 o2 o3 qw cU1 cU2 cU3 cW 286 320 rw2 0 (zns f (8 * a + u)) ((zowR f bh (8 * a + u)).2.2) k4 m1 m2 m3 (fun k hk => by rw [Nat.zero_add]; exact (hrw k (by omega)).1) (fun k hk => (hrw k (by omega)).2) (by omega) (by omega) (by decide) (by decide)) (cwV 3 ht (zt_goodV zm_363 zm_364 zm_365 zm_72 zm_366) rfl rfl rfl (by decide +kernel) ⟨Nat.le_of_ble_eq_true rfl, Nat.le_of_ble_eq_true rfl⟩) (zpreV zBlind_t hK hP hD [8, 9, 10, 11, 3] [5, 6, 7, 1] rfl (by decide) rfl (fun _ _ _ => trivial) (va_recv (q := ("ZipGuard$CodeSet", F_C, 4)) hK hP rfl (q0 := 8) (ci := 6) rfl)) rfl rfl hl.1 rfl (lv_room (Nat.le_of_ble_eq_true rfl)) d_U_readOwnCodes_94 ⟨Nat.le_of_ble_eq_true rfl, Nat.le_of_ble_eq_true rfl⟩) hK hP hD hS hA [8, 9, 10, 11, 3] [0, 1, 2, 4, 5, 6, 7, 12, 13, 14, 15] rfl rfl (by decide) (by decide) (fun u9 H locs hp24 hP hD hK hS => ?_)
              obtain ⟨M1, M2, M3⟩ := u9
              dsimp only at hp24 hP hD hK
              have hP : va_P D zcl [(qu, .inr (4, [.ref qa, .ref qr, .ref qw, .ref s1, .ref s2, .ref s3, .ref s4, .ref s5])), (qr, .inr (5, [.ref qb, .int (nI a4), .int (nI bh), .int (nI u4)])), (qb, .inl (cB, 20000, .inl f)), (s3, .inr (6, [.ref l1, .ref l2, .ref l3, .int (nI (zst (zlr f ((8 * a + u) + 14) (znc f (8 * a + u))) 19 16))])), (l1, .inl (cL1, 16, .inl G1)), (l2, .inl (cL2, 16, .inl G2)), (l3, .inl (cL3, 19, .inl G3)), (s5, .inr (6, [.ref p1, .ref p2, .ref p3, .int k5])), (p1, .inl (cV1, 16, .inl e1)), (p2, .inl (cV2, 16, .inl e2)), (p3, .inl (cV3, 30, .inl e3)), (s4, .inr (6, [.ref o1, .ref o2, .ref o3, .int (nI (zst ((zowR f bh (8 * a + u)).2.2) (zns f (8 * a + u)) 16))])), (o1, .inl (cU1, 16, .inl M1)), (o2, .inl (cU2, 16, .inl M2)), (o3, .inl (cU3, 286, .inl M3)), (qw, .inl (cW, 320, .inl rw2))] H := hP
              have hD : va_D A [(qu, .inr (4, [.ref qa, .ref qr, .ref qw, .ref s1, .ref s2, .ref s3, .ref s4, .ref s5])), (qr, .inr (5, [.ref qb, .int (nI a4), .int (nI bh), .int (nI u4)])), (qb, .inl (cB, 20000, .inl f)), (s3, .inr (6, [.ref l1, .ref l2, .ref l3, .int (nI (zst (zlr f ((8 * a + u) + 14) (znc f (8 * a + u))) 19 16))])), (l1, .inl (cL1, 16, .inl G1)), (l2, .inl (cL2, 16, .inl G2)), (l3, .inl (cL3, 19, .inl G3)), (s5, .inr (6, [.ref p1, .ref p2, .ref p3, .int k5])), (p1, .inl (cV1, 16, .inl e1)), (p2, .inl (cV2, 16, .inl e2)), (p3, .inl (cV3, 30, .inl e3)), (s4, .inr (6, [.ref o1, .ref o2, .ref o3, .int (nI (zst ((zowR f bh (8 * a + u)).2.2) (zns f (8 * a + u)) 16))])), (o1, .inl (cU1, 16, .inl M1)), (o2, .inl (cU2, 16, .inl M2)), (o3, .inl (cU3, 286, .inl M3)), (qw, .inl (cW, 320, .inl rw2))] := hD
              have hK : va_K D zcl [(cB, .byte), (cW, .int), (cL1, .int), (cL2, .int), (cL3, .int), (cU1, .int), (cU2, .int), (cU3, .int), (cV1, .int), (cV2, .int), (cV3, .int), (cU1, .int), (cU2, .int), (cU3, .int), (cW, .int)] s := hK
              have hP := hP.sub (ws' := [(qu, .inr (4, [.ref qa, .ref qr, .ref qw, .ref s1, .ref s2, .ref s3, .ref s4, .ref s5])), (qr, .inr (5, [.ref qb, .int (nI a4), .int (nI bh), .int (nI u4)])), (qb, .inl (cB, 20000, .inl f)), (qw, .inl (cW, 320, .inl rw2)), (s3, .inr (6, [.ref l1, .ref l2, .ref l3, .int (nI (zst (zlr f ((8 * a + u) + 14) (znc f (8 * a + u))) 19 16))])), (l1, .inl (cL1, 16, .inl G1)), (l2, .inl (cL2, 16, .inl G2)), (l3, .inl (cL3, 19, .inl G3)), (s4, .inr (6, [.ref o1, .ref o2, .ref o3, .int (nI (zst ((zowR f bh (8 * a + u)).2.2) (zns f (8 * a + u)) 16))])), (o1, .inl (cU1, 16, .inl M1)), (o2, .inl (cU2, 16, .inl M2)), (o3, .inl (cU3, 286, .inl M3)), (s5, .inr (6, [.ref p1, .ref p2, .ref p3, .int k5])), (p1, .inl (cV1, 16, .inl e1)), (p2, .inl (cV2, 16, .inl e2)), (p3, .inl (cV3, 30, .inl e3))]) [0, 1, 2, 15, 3, 4, 5, 6, 11, 12, 13, 14, 7, 8, 9, 10] rfl
              have hD := hD.sub (ws' := [(qu, .inr (4, [.ref qa, .ref qr, .ref qw, .ref s1, .ref s2, .ref s3, .ref s4, .ref s5])), (qr, .inr (5, [.ref qb, .int (nI a4), .int (nI bh), .int (nI u4)])), (qb, .inl (cB, 20000, .inl f)), (qw, .inl (cW, 320, .inl rw2)), (s3, .inr (6, [.ref l1, .ref l2, .ref l3, .int (nI (zst (zlr f ((8 * a + u) + 14) (znc f (8 * a + u))) 19 16))])), (l1, .inl (cL1, 16, .inl G1)), (l2, .inl (cL2, 16, .inl G2)), (l3, .inl (cL3, 19, .inl G3)), (s4, .inr (6, [.ref o1, .ref o2, .ref o3, .int (nI (zst ((zowR f bh (8 * a + u)).2.2) (zns f (8 * a + u)) 16))])), (o1, .inl (cU1, 16, .inl M1)), (o2, .inl (cU2, 16, .inl M2)), (o3, .inl (cU3, 286, .inl M3)), (s5, .inr (6, [.ref p1, .ref p2, .ref p3, .int k5])), (p1, .inl (cV1, 16, .inl e1)), (p2, .inl (cV2, 16, .inl e2)), (p3, .inl (cV3, 30, .inl e3))]) [0, 1, 2, 15, 3, 4, 5, 6, 11, 12, 13, 14, 7, 8, 9, 10] (by decide) rfl
              have hK := hK.sub (tys' := [(cB, .byte), (cW, .int), (cL1, .int), (cL2, .int), (cL3, .int), (cU1, .int), (cU2, .int), (cU3, .int), (cV1, .int), (cV2, .int), (cV3, .int)]) [0, 1, 2, 3, 4, 5, 6, 7, 8, 9, 10] rfl
              refine lv_aload_n hx hb d_U_readOwnCodes_97 rfl (lv_at hl 4 rfl) ?_
              refine va_get (ci := 4) (C := "ZipGuard$Unpacker") (T := F_U) (N := 8) hx hb ht zi_U hown hK hP 0 rfl rfl 7 (by decide) (ht _ zm_377) (fun _ h9 => h9) rfl d_U_readOwnCodes_98 ?_
              refine lv_aload_n hx hb d_U_readOwnCodes_101 rfl (lv_at hl 4 rfl) ?_
              refine va_get (ci := 4) (C := "ZipGuard$Unpacker") (T := F_U) (N := 8) hx hb ht zi_U hown hK hP 0 rfl rfl 2 (by decide) (ht _ zm_372) (fun _ h9 => h9) rfl d_U_readOwnCodes_102 ?_
              refine lv_iload_n hx hb d_U_readOwnCodes_105 rfl (lv_at hl 2 rfl) ?_
              refine lv_iload_n hx hb d_U_readOwnCodes_106 rfl (lv_at hl 1 rfl) ?_
              refine zjv (wr := [(qu, .inr (4, [.ref qa, .ref qr, .ref qw, .ref s1, .ref s2, .ref s3, .ref s4, .ref s5])), (qr, .inr (5, [.ref qb, .int (nI a4), .int (nI bh), .int (nI u4)])), (qb, .inl (cB, 20000, .inl f)), (s3, .inr (6, [.ref l1, .ref l2, .ref l3, .int (nI (zst (zlr f ((8 * a + u) + 14) (znc f (8 * a + u))) 19 16))])), (l1, .inl (cL1, 16, .inl G1)), (l2, .inl (cL2, 16, .inl G2)), (l3, .inl (cL3, 19, .inl G3)), (s4, .inr (6, [.ref o1, .ref o2, .ref o3, .int (nI (zst ((zowR f bh (8 * a + u)).2.2) (zns f (8 * a + u)) 16))])), (o1, .inl (cU1, 16, .inl M1)), (o2, .inl (cU2, 16, .inl M2)), (o3, .inl (cU3, 286, .inl M3))]) (va_runV (As := [.ref qw, .int (nI (zns f (8 * a + u))), .int (nI (znd f (8 * a + u)))]) (rest := []) ⟨hx, hb, hml, hown, ht⟩ (c_C_build l D _ s5 p1 p2 p3 qw cV1 cV2 cV3 cW 30 320 rw2 (zns f (8 * a + u)) (znd f (8 * a + u)) (fun k => (zowR f bh (8 * a + u)).2.2 (zns f (8 * a + u) + k)) k5 e1 e2 e3 (fun k hk => (hrw _ (by omega)).1) (fun k hk => (hrw _ (by omega)).2) (by omega) (by omega) (by decide) (by decide)) (cwV 3 ht (zt_goodV zm_363 zm_364 zm_365 zm_72 zm_366) rfl rfl rfl (by decide +kernel) ⟨Nat.le_of_ble_eq_true rfl, Nat.le_of_ble_eq_true rfl⟩) (zpreV zBlind_t hK hP hD [12, 13, 14, 15, 3] [8, 9, 10, 1] rfl (by decide) rfl (fun _ _ _ => trivial) (va_recv (q := ("ZipGuard$CodeSet", F_C, 4)) hK hP rfl (q0 := 12) (ci := 6) rfl)) rfl rfl hl.1 rfl (lv_room (Nat.le_of_ble_eq_true rfl)) d_U_readOwnCodes_107 ⟨Nat.le_of_ble_eq_true rfl, Nat.le_of_ble_eq_true rfl⟩) hK hP hD hS hA [12, 13, 14, 15, 3] [0, 1, 2, 4, 5, 6, 7, 8, 9, 10, 11] rfl rfl (by decide) (by decide) (fun u9 H locs hp26 hP hD hK hS => ?_)
              obtain ⟨E1, E2, E3⟩ := u9
              dsimp only at hp26 hP hD hK
              have hP : va_P D zcl [(qu, .inr (4, [.ref qa, .ref qr, .ref qw, .ref s1, .ref s2, .ref s3, .ref s4, .ref s5])), (qr, .inr (5, [.ref qb, .int (nI a4), .int (nI bh), .int (nI u4)])), (qb, .inl (cB, 20000, .inl f)), (s3, .inr (6, [.ref l1, .ref l2, .ref l3, .int (nI (zst (zlr f ((8 * a + u) + 14) (znc f (8 * a + u))) 19 16))])), (l1, .inl (cL1, 16, .inl G1)), (l2, .inl (cL2, 16, .inl G2)), (l3, .inl (cL3, 19, .inl G3)), (s4, .inr (6, [.ref o1, .ref o2, .ref o3, .int (nI (zst ((zowR f bh (8 * a + u)).2.2) (zns f (8 * a + u)) 16))])), (o1, .inl (cU1, 16, .inl M1)), (o2, .inl (cU2, 16, .inl M2)), (o3, .inl (cU3, 286, .inl M3)), (s5, .inr (6, [.ref p1, .ref p2, .ref p3, .int (nI (zst (fun k => (zowR f bh (8 * a + u)).2.2 (zns f (8 * a + u) + k)) (znd f (8 * a + u)) 16))])), (p1, .inl (cV1, 16, .inl E1)), (p2, .inl (cV2, 16, .inl E2)), (p3, .inl (cV3, 30, .inl E3)), (qw, .inl (cW, 320, .inl rw2))] H := hP
              have hD : va_D A [(qu, .inr (4, [.ref qa, .ref qr, .ref qw, .ref s1, .ref s2, .ref s3, .ref s4, .ref s5])), (qr, .inr (5, [.ref qb, .int (nI a4), .int (nI bh), .int (nI u4)])), (qb, .inl (cB, 20000, .inl f)), (s3, .inr (6, [.ref l1, .ref l2, .ref l3, .int (nI (zst (zlr f ((8 * a + u) + 14) (znc f (8 * a + u))) 19 16))])), (l1, .inl (cL1, 16, .inl G1)), (l2, .inl (cL2, 16, .inl G2)), (l3, .inl (cL3, 19, .inl G3)), (s4, .inr (6, [.ref o1, .ref o2, .ref o3, .int (nI (zst ((zowR f bh (8 * a + u)).2.2) (zns f (8 * a + u)) 16))])), (o1, .inl (cU1, 16, .inl M1)), (o2, .inl (cU2, 16, .inl M2)), (o3, .inl (cU3, 286, .inl M3)), (s5, .inr (6, [.ref p1, .ref p2, .ref p3, .int (nI (zst (fun k => (zowR f bh (8 * a + u)).2.2 (zns f (8 * a + u) + k)) (znd f (8 * a + u)) 16))])), (p1, .inl (cV1, 16, .inl E1)), (p2, .inl (cV2, 16, .inl E2)), (p3, .inl (cV3, 30, .inl E3)), (qw, .inl (cW, 320, .inl rw2))] := hD
              have hK : va_K D zcl [(cB, .byte), (cW, .int), (cL1, .int), (cL2, .int), (cL3, .int), (cU1, .int), (cU2, .int), (cU3, .int), (cV1, .int), (cV2, .int), (cV3, .int), (cV1, .int), (cV2, .int), (cV3, .int), (cW, .int)] s := hK
              have hP := hP.sub (ws' := [(qu, .inr (4, [.ref qa, .ref qr, .ref qw, .ref s1, .ref s2, .ref s3, .ref s4, .ref s5])), (qr, .inr (5, [.ref qb, .int (nI a4), .int (nI bh), .int (nI u4)])), (qb, .inl (cB, 20000, .inl f)), (qw, .inl (cW, 320, .inl rw2)), (s3, .inr (6, [.ref l1, .ref l2, .ref l3, .int (nI (zst (zlr f ((8 * a + u) + 14) (znc f (8 * a + u))) 19 16))])), (l1, .inl (cL1, 16, .inl G1)), (l2, .inl (cL2, 16, .inl G2)), (l3, .inl (cL3, 19, .inl G3)), (s4, .inr (6, [.ref o1, .ref o2, .ref o3, .int (nI (zst ((zowR f bh (8 * a + u)).2.2) (zns f (8 * a + u)) 16))])), (o1, .inl (cU1, 16, .inl M1)), (o2, .inl (cU2, 16, .inl M2)), (o3, .inl (cU3, 286, .inl M3)), (s5, .inr (6, [.ref p1, .ref p2, .ref p3, .int (nI (zst (fun k => (zowR f bh (8 * a + u)).2.2 (zns f (8 * a + u) + k)) (znd f (8 * a + u)) 16))])), (p1, .inl (cV1, 16, .inl E1)), (p2, .inl (cV2, 16, .inl E2)), (p3, .inl (cV3, 30, .inl E3))]) [0, 1, 2, 15, 3, 4, 5, 6, 7, 8, 9, 10, 11, 12, 13, 14] rfl
              have hD := hD.sub (ws' := [(qu, .inr (4, [.ref qa, .ref qr, .ref qw, .ref s1, .ref s2, .ref s3, .ref s4, .ref s5])), (qr, .inr (5, [.ref qb, .int (nI a4), .int (nI bh), .int (nI u4)])), (qb, .inl (cB, 20000, .inl f)), (qw, .inl (cW, 320, .inl rw2)), (s3, .inr (6, [.ref l1, .ref l2, .ref l3, .int (nI (zst (zlr f ((8 * a + u) + 14) (znc f (8 * a + u))) 19 16))])), (l1, .inl (cL1, 16, .inl G1)), (l2, .inl (cL2, 16, .inl G2)), (l3, .inl (cL3, 19, .inl G3)), (s4, .inr (6, [.ref o1, .ref o2, .ref o3, .int (nI (zst ((zowR f bh (8 * a + u)).2.2) (zns f (8 * a + u)) 16))])), (o1, .inl (cU1, 16, .inl M1)), (o2, .inl (cU2, 16, .inl M2)), (o3, .inl (cU3, 286, .inl M3)), (s5, .inr (6, [.ref p1, .ref p2, .ref p3, .int (nI (zst (fun k => (zowR f bh (8 * a + u)).2.2 (zns f (8 * a + u) + k)) (znd f (8 * a + u)) 16))])), (p1, .inl (cV1, 16, .inl E1)), (p2, .inl (cV2, 16, .inl E2)), (p3, .inl (cV3, 30, .inl E3))]) [0, 1, 2, 15, 3, 4, 5, 6, 7, 8, 9, 10, 11, 12, 13, 14] (by decide) rfl
              have hK := hK.sub (tys' := [(cB, .byte), (cW, .int), (cL1, .int), (cL2, .int), (cL3, .int), (cU1, .int), (cU2, .int), (cU3, .int), (cV1, .int), (cV2, .int), (cV3, .int)]) [0, 1, 2, 3, 4, 5, 6, 7, 8, 9, 10] rfl
              refine lv_aload_n hx hb d_U_readOwnCodes_110 rfl (lv_at hl 4 rfl) ?_
              refine va_get (ci := 4) (C := "ZipGuard$Unpacker") (T := F_U) (N := 8) hx hb ht zi_U hown hK hP 0 rfl rfl 2 (by decide) (ht _ zm_372) (fun _ h9 => h9) rfl d_U_readOwnCodes_111 ?_
              refine lv_sipush (v := 256) hx hb d_U_readOwnCodes_114 (by decide) ?_
              refine va_iald hx hb hK hP 3 1 rfl rfl (by unfold vp_in; decide) d_U_readOwnCodes_117 ?_
              refine lv_topi (fun x27 e_x27 => ?_)
              have e_x27 : x27 = nI ((zowR f bh (8 * a + u)).2.2 256) := by rw [e_x27]; exact (hrw 256 (by omega)).1
              subst e_x27
              have h25 := (hrw 256 (by omega)).2
              by_cases hz0 : 0 < (zowR f bh (8 * a + u)).2.2 256
              · skip
                refine lv_if_le (tgt := 145) hx hb d_U_readOwnCodes_118 (by decide) (fun h => absurd h (nI_nle hz0 (by omega))) (fun _ => ?_)
                refine lv_aload_n hx hb d_U_readOwnCodes_121 rfl (lv_at hl 4 rfl) ?_
                refine va_get (ci := 4) (C := "ZipGuard$Unpacker") (T := F_U) (N := 8) hx hb ht zi_U hown hK hP 0 rfl rfl 6 (by decide) (ht _ zm_376) (fun _ h9 => h9) rfl d_U_readOwnCodes_122 ?_
                refine zjR (va_runV (As := []) (rest := []) ⟨hx, hb, hml, hown, ht⟩ (r_C_full l D s4 o1 o2 o3 cU1 M1 (nI (zst ((zowR f bh (8 * a + u)).2.2) (zns f (8 * a + u)) 16)) ((zowR f bh (8 * a + u)).2.2) (zns f (8 * a + u)) hp24.1 (by omega)) (cwV 0 ht (zt_goodV zm_679 zm_680 zm_681 zm_72 zm_682) rfl rfl rfl (by decide +kernel) ⟨Nat.le_of_ble_eq_true rfl, Nat.le_of_ble_eq_true rfl⟩) (zpreRV zBlind_t hK hP [8, 9] [5] rfl rfl (fun _ _ _ => trivial) (va_recv (q := ("ZipGuard$CodeSet", F_C, 4)) hK hP rfl (q0 := 8) (ci := 6) rfl)) rfl rfl hl.1 rfl (lv_room (Nat.le_of_ble_eq_true rfl)) d_U_readOwnCodes_125 ⟨Nat.le_of_ble_eq_true rfl, Nat.le_of_ble_eq_true rfl⟩) (fun r29 hp30 => ?_)
                rcases hp30 with ⟨hp30, hf⟩ | ⟨hp30, hf⟩
                · skip
                  have hp30 := hp30.symm
                  subst hp30
                  refine lv_if_eq (tgt := 145) hx hb d_U_readOwnCodes_128 (by decide) (fun h => absurd h (by decide)) (fun _ => ?_)
                  refine lv_aload_n hx hb d_U_readOwnCodes_131 rfl (lv_at hl 4 rfl) ?_
                  refine va_get (ci := 4) (C := "ZipGuard$Unpacker") (T := F_U) (N := 8) hx hb ht zi_U hown hK hP 0 rfl rfl 7 (by decide) (ht _ zm_377) (fun _ h9 => h9) rfl d_U_readOwnCodes_132 ?_
                  refine zjR (va_runV (As := []) (rest := []) ⟨hx, hb, hml, hown, ht⟩ (r_C_rig l D s5 p1 p2 p3 cV1 E1 (fun k => (zowR f bh (8 * a + u)).2.2 (zns f (8 * a + u) + k)) (znd f (8 * a + u)) hp26.1 (by omega)) (cwV 0 ht (zt_goodV zm_693 zm_694 zm_695 zm_72 zm_696) rfl rfl rfl (by decide +kernel) ⟨Nat.le_of_ble_eq_true rfl, Nat.le_of_ble_eq_true rfl⟩) (zpreRV zBlind_t hK hP [12, 13] [8] rfl rfl (fun _ _ _ => trivial) (va_recv (q := ("ZipGuard$CodeSet", F_C, 4)) hK hP rfl (q0 := 12) (ci := 6) rfl)) rfl rfl hl.1 rfl (lv_room (Nat.le_of_ble_eq_true rfl)) d_U_readOwnCodes_135 ⟨Nat.le_of_ble_eq_true rfl, Nat.le_of_ble_eq_true rfl⟩) (fun r32 hp33 => ?_)
                  rcases hp33 with ⟨hp33, hg⟩ | ⟨hp33, hg⟩
                  · skip
                    have hp33 := hp33.symm
                    subst hp33
                    refine lv_if_eq (tgt := 145) hx hb d_U_readOwnCodes_138 (by decide) (fun h => absurd h (by decide)) (fun _ => ?_)
                    refine lv_iconst (v := 1) hx hb d_U_readOwnCodes_141 (by decide) ?_
                    refine lv_goto (tgt := 146) hx hb d_U_readOwnCodes_142 (by decide) ?_
                    refine lv_istore (lv' := [(5, .int 1), (4, .int r19), (3, .int (nI (znd f (8 * a + u)))), (2, .int (nI (zns f (8 * a + u)))), (1, .int (nI hd9)), (0, .ref qu)]) hx hb d_U_readOwnCodes_146 hl (by decide) rfl (fun ls hl => ?_)
                    refine lv_iload hx hb d_U_readOwnCodes_148 (lv_at hl 0 rfl) ?_
                    refine lv_if_eq (tgt := 157) hx hb d_U_readOwnCodes_150 (by decide) (fun h => absurd h (by decide)) (fun _ => ?_)
                    refine lv_iconst (v := 0) hx hb d_U_readOwnCodes_153 (by decide) ?_
                    refine lv_goto (tgt := 159) hx hb d_U_readOwnCodes_154 (by decide) ?_
                    exact zreti hx hb hr hlk hK hP hD hS (a4, u4, rw2, nI (zst (zlr f ((8 * a + u) + 14) (znc f (8 * a + u))) 19 16), G1, G2, G3, nI (zst ((zowR f bh (8 * a + u)).2.2) (zns f (8 * a + u)) 16), M1, M2, M3, nI (zst (fun k => (zowR f bh (8 * a + u)).2.2 (zns f (8 * a + u) + k)) (znd f (8 * a + u)) 16), E1, E2, E3) [0, 1, 2, 3, 4, 5, 6, 7, 8, 9, 10, 11, 12, 13, 14, 15] [0, 1, 2, 3, 4, 5, 6, 7, 8, 9, 10] rfl (by decide) rfl (by rw [hun2, if_pos (⟨hz0, hf, hg⟩)]; exact ⟨rfl, hu4, ha4, fun _ => hpo4, fun _ => ⟨by omega, by omega, ⟨hp24.1, hp24.2, rfl⟩, ⟨hp26.1, hp26.2, rfl⟩⟩⟩) (Nat.le_of_ble_eq_true rfl) (Nat.le_of_ble_eq_true rfl) d_U_readOwnCodes_159
                  · skip
                    have hp33 := hp33.symm
                    subst hp33
                    refine lv_if_eq (tgt := 145) hx hb d_U_readOwnCodes_138 (by decide) (fun _ => ?_) (fun h => absurd (by decide) h)
                    refine lv_iconst (v := 0) hx hb d_U_readOwnCodes_145 (by decide) ?_
                    refine lv_istore (lv' := [(5, .int 0), (4, .int r19), (3, .int (nI (znd f (8 * a + u)))), (2, .int (nI (zns f (8 * a + u)))), (1, .int (nI hd9)), (0, .ref qu)]) hx hb d_U_readOwnCodes_146 hl (by decide) rfl (fun ls hl => ?_)
                    refine lv_iload hx hb d_U_readOwnCodes_148 (lv_at hl 0 rfl) ?_
                    refine lv_if_eq (tgt := 157) hx hb d_U_readOwnCodes_150 (by decide) (fun _ => ?_) (fun h => absurd (by decide) h)
                    refine lv_bipush (v := (-33)) hx hb d_U_readOwnCodes_157 (by decide) ?_
                    exact zreti hx hb hr hlk hK hP hD hS (a4, u4, rw2, nI (zst (zlr f ((8 * a + u) + 14) (znc f (8 * a + u))) 19 16), G1, G2, G3, nI (zst ((zowR f bh (8 * a + u)).2.2) (zns f (8 * a + u)) 16), M1, M2, M3, nI (zst (fun k => (zowR f bh (8 * a + u)).2.2 (zns f (8 * a + u) + k)) (znd f (8 * a + u)) 16), E1, E2, E3) [0, 1, 2, 3, 4, 5, 6, 7, 8, 9, 10, 11, 12, 13, 14, 15] [0, 1, 2, 3, 4, 5, 6, 7, 8, 9, 10] rfl (by decide) rfl (by rw [hun2, if_neg (fun h => hg h.2.2)]; exact ⟨rfl, hu4, ha4, fun _ => hpo4, fun h => absurd h (by decide)⟩) (Nat.le_of_ble_eq_true rfl) (Nat.le_of_ble_eq_true rfl) d_U_readOwnCodes_159
                · skip
                  have hp30 := hp30.symm
                  subst hp30
                  refine lv_if_eq (tgt := 145) hx hb d_U_readOwnCodes_128 (by decide) (fun _ => ?_) (fun h => absurd (by decide) h)
                  refine lv_iconst (v := 0) hx hb d_U_readOwnCodes_145 (by decide) ?_
                  refine lv_istore (lv' := [(5, .int 0), (4, .int r19), (3, .int (nI (znd f (8 * a + u)))), (2, .int (nI (zns f (8 * a + u)))), (1, .int (nI hd9)), (0, .ref qu)]) hx hb d_U_readOwnCodes_146 hl (by decide) rfl (fun ls hl => ?_)
                  refine lv_iload hx hb d_U_readOwnCodes_148 (lv_at hl 0 rfl) ?_
                  refine lv_if_eq (tgt := 157) hx hb d_U_readOwnCodes_150 (by decide) (fun _ => ?_) (fun h => absurd (by decide) h)
                  refine lv_bipush (v := (-33)) hx hb d_U_readOwnCodes_157 (by decide) ?_
                  exact zreti hx hb hr hlk hK hP hD hS (a4, u4, rw2, nI (zst (zlr f ((8 * a + u) + 14) (znc f (8 * a + u))) 19 16), G1, G2, G3, nI (zst ((zowR f bh (8 * a + u)).2.2) (zns f (8 * a + u)) 16), M1, M2, M3, nI (zst (fun k => (zowR f bh (8 * a + u)).2.2 (zns f (8 * a + u) + k)) (znd f (8 * a + u)) 16), E1, E2, E3) [0, 1, 2, 3, 4, 5, 6, 7, 8, 9, 10, 11, 12, 13, 14, 15] [0, 1, 2, 3, 4, 5, 6, 7, 8, 9, 10] rfl (by decide) rfl (by rw [hun2, if_neg (fun h => hf h.2.1)]; exact ⟨rfl, hu4, ha4, fun _ => hpo4, fun h => absurd h (by decide)⟩) (Nat.le_of_ble_eq_true rfl) (Nat.le_of_ble_eq_true rfl) d_U_readOwnCodes_159
              · skip
                refine lv_if_le (tgt := 145) hx hb d_U_readOwnCodes_118 (by decide) (fun _ => ?_) (fun h => absurd (by rw [show (zowR f bh (8 * a + u)).2.2 256 = 0 by omega]; decide) h)
                refine lv_iconst (v := 0) hx hb d_U_readOwnCodes_145 (by decide) ?_
                refine lv_istore (lv' := [(5, .int 0), (4, .int r19), (3, .int (nI (znd f (8 * a + u)))), (2, .int (nI (zns f (8 * a + u)))), (1, .int (nI hd9)), (0, .ref qu)]) hx hb d_U_readOwnCodes_146 hl (by decide) rfl (fun ls hl => ?_)
                refine lv_iload hx hb d_U_readOwnCodes_148 (lv_at hl 0 rfl) ?_
                refine lv_if_eq (tgt := 157) hx hb d_U_readOwnCodes_150 (by decide) (fun _ => ?_) (fun h => absurd (by decide) h)
                refine lv_bipush (v := (-33)) hx hb d_U_readOwnCodes_157 (by decide) ?_
                exact zreti hx hb hr hlk hK hP hD hS (a4, u4, rw2, nI (zst (zlr f ((8 * a + u) + 14) (znc f (8 * a + u))) 19 16), G1, G2, G3, nI (zst ((zowR f bh (8 * a + u)).2.2) (zns f (8 * a + u)) 16), M1, M2, M3, nI (zst (fun k => (zowR f bh (8 * a + u)).2.2 (zns f (8 * a + u) + k)) (znd f (8 * a + u)) 16), E1, E2, E3) [0, 1, 2, 3, 4, 5, 6, 7, 8, 9, 10, 11, 12, 13, 14, 15] [0, 1, 2, 3, 4, 5, 6, 7, 8, 9, 10] rfl (by decide) rfl (by rw [hun2, if_neg (fun h => hz0 h.1)]; exact ⟨rfl, hu4, ha4, fun _ => hpo4, fun h => absurd h (by decide)⟩) (Nat.le_of_ble_eq_true rfl) (Nat.le_of_ble_eq_true rfl) d_U_readOwnCodes_159
          · skip
            have hlt : r15 < 0 := by rw [hp16]; exact zlc_neg (by rw [← hp16]; exact hr2)
            refine lv_if_ne (tgt := 76) hx hb d_U_readOwnCodes_64 (by decide) (fun _ => ?_) (fun h => absurd h (hr2))
            refine lv_iload hx hb d_U_readOwnCodes_76 (lv_at hl 0 rfl) ?_
            refine lv_if_ge (tgt := 84) hx hb d_U_readOwnCodes_78 (by decide) (fun h => absurd h (fun h => absurd hlt (by rw [Int32.lt_iff_toInt_lt]; have h9 := Int32.le_iff_toInt_le.mp h; omega))) (fun _ => ?_)
            refine lv_iload hx hb d_U_readOwnCodes_81 (lv_at hl 0 rfl) ?_
            exact zreti hx hb hr hlk hK hP hD hS (a3, u3, rw1, k1, G1, G2, G3, k4, m1, m2, m3, k5, e1, e2, e3) [0, 1, 2, 3, 4, 5, 6, 7, 8, 9, 10, 11, 12, 13, 14, 15] [0, 1, 2, 3, 4, 5, 6, 7, 8, 9, 10] rfl (by decide) rfl (by rw [hun]; unfold zown2; rw [if_pos (by rw [← hp16]; exact hr2)]; exact ⟨hp16, hu3, ha3, hpos3, fun h => absurd h hr2⟩) (Nat.le_of_ble_eq_true rfl) (Nat.le_of_ble_eq_true rfl) d_U_readOwnCodes_83
    · skip
      have hp2 := hp2.symm
      subst hp2
      refine lv_if_ge (tgt := 16) hx hb d_U_readOwnCodes_11 (by decide) (fun h => absurd h (by decide)) (fun _ => ?_)
      refine lv_iload_n hx hb d_U_readOwnCodes_14 rfl (lv_at hl 0 rfl) ?_
      exact zreti hx hb hr hlk hK hP hD hS (a2, u2, rw, k0, g1, g2, g3, k4, m1, m2, m3, k5, e1, e2, e3) [0, 1, 2, 3, 4, 5, 6, 7, 8, 9, 10, 11, 12, 13, 14, 15] [0, 1, 2, 3, 4, 5, 6, 7, 8, 9, 10] rfl (by decide) rfl (by unfold zown; rw [if_pos hend1]; exact ⟨rfl, hu2, ha2, fun h => absurd rfl h, fun h => absurd h (by decide)⟩) (Nat.le_of_ble_eq_true rfl) (Nat.le_of_ble_eq_true rfl) d_U_readOwnCodes_15)
