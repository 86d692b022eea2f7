set_option maxRecDepth 100000 in
theorem zm_23 : Jvm.Cond.selects "ZipGuard$Unpacker" ({ cls := "ZipGuard$Unpacker", name := "writeAgain", desc := "(LZipGuard$Entry;II)I" } : Jvm.MethodName) ({ cls := "ZipGuard$Unpacker", name := "writeAgain", desc := "(LZipGuard$Entry;II)I" } : Jvm.MethodName) ∈ zt := zt_mp (List.mem_of_getElem? (i := 23) rfl)
set_option maxRecDepth 100000 in
theorem zm_653 : Jvm.Cond.methodLink "ZipGuard$Unpacker" (153 : Nat) ({ cls := "ZipGuard$CodeSet", name := "nextSymbol", desc := "(LZipGuard$BitReader;)I" } : Jvm.MethodName) ∈ zt := zt_m4 (List.mem_of_getElem? (i := 142) rfl)
set_option maxRecDepth 100000 in
theorem zm_654 : Jvm.Cond.instanceMethod ({ cls := "ZipGuard$CodeSet", name := "nextSymbol", desc := "(LZipGuard$BitReader;)I" } : Jvm.MethodName) ∈ zt := zt_m4 (List.mem_of_getElem? (i := 143) rfl)
set_option maxRecDepth 100000 in
theorem zm_655 : Jvm.Cond.selects "ZipGuard$CodeSet" ({ cls := "ZipGuard$CodeSet", name := "nextSymbol", desc := "(LZipGuard$BitReader;)I" } : Jvm.MethodName) ({ cls := "ZipGuard$CodeSet", name := "nextSymbol", desc := "(LZipGuard$BitReader;)I" } : Jvm.MethodName) ∈ zt := zt_m4 (List.mem_of_getElem? (i := 144) rfl)
set_option maxRecDepth 100000 in
theorem zm_656 : Jvm.Cond.code ({ cls := "ZipGuard$CodeSet", name := "nextSymbol", desc := "(LZipGuard$BitReader;)I" } : Jvm.MethodName) prog_3_method_5_code (8 : Nat) (Option.some Jvm.ClassFile.FieldType.int) ∈ zt := zt_m4 (List.mem_of_getElem? (i := 145) rfl)
set_option maxRecDepth 100000 in
theorem zm_661 : Jvm.Cond.fieldLink "ZipGuard$Unpacker" (167 : Nat) "ZipGuard$Unpacker" "LENGTHS" "[I" ∈ zt := zt_m4 (List.mem_of_getElem? (i := 150) rfl)
set_option maxRecDepth 100000 in
theorem zm_662 : Jvm.Cond.fieldLink "ZipGuard$Unpacker" (170 : Nat) "ZipGuard$Unpacker" "LENGTH_BITS" "[I" ∈ zt := zt_m4 (List.mem_of_getElem? (i := 151) rfl)
set_option maxRecDepth 100000 in
theorem zm_663 : Jvm.Cond.fieldLink "ZipGuard$Unpacker" (173 : Nat) "ZipGuard$Unpacker" "DISTANCES" "[I" ∈ zt := zt_m4 (List.mem_of_getElem? (i := 152) rfl)
set_option maxRecDepth 100000 in
theorem zm_664 : Jvm.Cond.fieldLink "ZipGuard$Unpacker" (176 : Nat) "ZipGuard$Unpacker" "DISTANCE_BITS" "[I" ∈ zt := zt_m4 (List.mem_of_getElem? (i := 153) rfl)
set_option maxRecDepth 100000 in
theorem zm_665 : Jvm.Cond.methodLink "ZipGuard$Unpacker" (179 : Nat) ({ cls := "ZipGuard$Unpacker", name := "writeAgain", desc := "(LZipGuard$Entry;II)I" } : Jvm.MethodName) ∈ zt := zt_m4 (List.mem_of_getElem? (i := 154) rfl)
set_option maxRecDepth 100000 in
theorem zm_666 : Jvm.Cond.instanceMethod ({ cls := "ZipGuard$Unpacker", name := "writeAgain", desc := "(LZipGuard$Entry;II)I" } : Jvm.MethodName) ∈ zt := zt_m4 (List.mem_of_getElem? (i := 155) rfl)
set_option maxRecDepth 100000 in
theorem zm_667 : Jvm.Cond.code ({ cls := "ZipGuard$Unpacker", name := "writeAgain", desc := "(LZipGuard$Entry;II)I" } : Jvm.MethodName) prog_8_method_15_code (7 : Nat) (Option.some Jvm.ClassFile.FieldType.int) ∈ zt := zt_m4 (List.mem_of_getElem? (i := 156) rfl)
theorem d_U_unpackAgain_0 : decode prog_8_method_14_code 0 = .ok (.iload_n 2, 1) := by decide +kernel
theorem d_U_unpackAgain_1 : decode prog_8_method_14_code 1 = .ok (.sipush 256, 3) := by decide +kernel
theorem d_U_unpackAgain_4 : decode prog_8_method_14_code 4 = .ok (.isub, 1) := by decide +kernel
theorem d_U_unpackAgain_5 : decode prog_8_method_14_code 5 = .ok (.iconst 1, 1) := by decide +kernel
theorem d_U_unpackAgain_6 : decode prog_8_method_14_code 6 = .ok (.isub, 1) := by decide +kernel
theorem d_U_unpackAgain_7 : decode prog_8_method_14_code 7 = .ok (.istore 4, 2) := by decide +kernel
theorem d_U_unpackAgain_9 : decode prog_8_method_14_code 9 = .ok (.iload 4, 2) := by decide +kernel
theorem d_U_unpackAgain_11 : decode prog_8_method_14_code 11 = .ok (.ifCond .lt 12, 3) := by decide +kernel
theorem d_U_unpackAgain_14 : decode prog_8_method_14_code 14 = .ok (.iload 4, 2) := by decide +kernel
theorem d_U_unpackAgain_16 : decode prog_8_method_14_code 16 = .ok (.getstatic 167, 3) := by decide +kernel
theorem d_U_unpackAgain_19 : decode prog_8_method_14_code 19 = .ok (.arraylength, 1) := by decide +kernel
theorem d_U_unpackAgain_20 : decode prog_8_method_14_code 20 = .ok (.if_icmp .lt 6, 3) := by decide +kernel
theorem d_U_unpackAgain_23 : decode prog_8_method_14_code 23 = .ok (.bipush (-35), 2) := by decide +kernel
theorem d_U_unpackAgain_25 : decode prog_8_method_14_code 25 = .ok (.ireturn, 1) := by decide +kernel
theorem d_U_unpackAgain_26 : decode prog_8_method_14_code 26 = .ok (.aload_n 0, 1) := by decide +kernel
theorem d_U_unpackAgain_27 : decode prog_8_method_14_code 27 = .ok (.getfield 18, 3) := by decide +kernel
theorem d_U_unpackAgain_30 : decode prog_8_method_14_code 30 = .ok (.getstatic 170, 3) := by decide +kernel
theorem d_U_unpackAgain_33 : decode prog_8_method_14_code 33 = .ok (.iload 4, 2) := by decide +kernel
theorem d_U_unpackAgain_35 : decode prog_8_method_14_code 35 = .ok (.iaload, 1) := by decide +kernel
theorem d_U_unpackAgain_36 : decode prog_8_method_14_code 36 = .ok (.invokevirtual 117, 3) := by decide +kernel
theorem d_U_unpackAgain_39 : decode prog_8_method_14_code 39 = .ok (.istore 5, 2) := by decide +kernel
theorem d_U_unpackAgain_41 : decode prog_8_method_14_code 41 = .ok (.iload 5, 2) := by decide +kernel
theorem d_U_unpackAgain_43 : decode prog_8_method_14_code 43 = .ok (.ifCond .ge 6, 3) := by decide +kernel
theorem d_U_unpackAgain_46 : decode prog_8_method_14_code 46 = .ok (.iload 5, 2) := by decide +kernel
theorem d_U_unpackAgain_48 : decode prog_8_method_14_code 48 = .ok (.ireturn, 1) := by decide +kernel
theorem d_U_unpackAgain_49 : decode prog_8_method_14_code 49 = .ok (.aload_n 3, 1) := by decide +kernel
theorem d_U_unpackAgain_50 : decode prog_8_method_14_code 50 = .ok (.aload_n 0, 1) := by decide +kernel
theorem d_U_unpackAgain_51 : decode prog_8_method_14_code 51 = .ok (.getfield 18, 3) := by decide +kernel
theorem d_U_unpackAgain_54 : decode prog_8_method_14_code 54 = .ok (.invokevirtual 153, 3) := by decide +kernel
theorem d_U_unpackAgain_57 : decode prog_8_method_14_code 57 = .ok (.istore 6, 2) := by decide +kernel
theorem d_U_unpackAgain_59 : decode prog_8_method_14_code 59 = .ok (.iload 6, 2) := by decide +kernel
theorem d_U_unpackAgain_61 : decode prog_8_method_14_code 61 = .ok (.ifCond .ge 6, 3) := by decide +kernel
theorem d_U_unpackAgain_64 : decode prog_8_method_14_code 64 = .ok (.iload 6, 2) := by decide +kernel
theorem d_U_unpackAgain_66 : decode prog_8_method_14_code 66 = .ok (.ireturn, 1) := by decide +kernel
theorem d_U_unpackAgain_67 : decode prog_8_method_14_code 67 = .ok (.iload 6, 2) := by decide +kernel
theorem d_U_unpackAgain_69 : decode prog_8_method_14_code 69 = .ok (.getstatic 173, 3) := by decide +kernel
theorem d_U_unpackAgain_72 : decode prog_8_method_14_code 72 = .ok (.arraylength, 1) := by decide +kernel
theorem d_U_unpackAgain_73 : decode prog_8_method_14_code 73 = .ok (.if_icmp .lt 6, 3) := by decide +kernel
theorem d_U_unpackAgain_76 : decode prog_8_method_14_code 76 = .ok (.bipush (-35), 2) := by decide +kernel
theorem d_U_unpackAgain_78 : decode prog_8_method_14_code 78 = .ok (.ireturn, 1) := by decide +kernel
theorem d_U_unpackAgain_79 : decode prog_8_method_14_code 79 = .ok (.aload_n 0, 1) := by decide +kernel
theorem d_U_unpackAgain_80 : decode prog_8_method_14_code 80 = .ok (.getfield 18, 3) := by decide +kernel
theorem d_U_unpackAgain_83 : decode prog_8_method_14_code 83 = .ok (.getstatic 176, 3) := by decide +kernel
theorem d_U_unpackAgain_86 : decode prog_8_method_14_code 86 = .ok (.iload 6, 2) := by decide +kernel
theorem d_U_unpackAgain_88 : decode prog_8_method_14_code 88 = .ok (.iaload, 1) := by decide +kernel
theorem d_U_unpackAgain_89 : decode prog_8_method_14_code 89 = .ok (.invokevirtual 117, 3) := by decide +kernel
theorem d_U_unpackAgain_92 : decode prog_8_method_14_code 92 = .ok (.istore 7, 2) := by decide +kernel
theorem d_U_unpackAgain_94 : decode prog_8_method_14_code 94 = .ok (.iload 7, 2) := by decide +kernel
theorem d_U_unpackAgain_96 : decode prog_8_method_14_code 96 = .ok (.ifCond .ge 6, 3) := by decide +kernel
theorem d_U_unpackAgain_99 : decode prog_8_method_14_code 99 = .ok (.iload 7, 2) := by decide +kernel
theorem d_U_unpackAgain_101 : decode prog_8_method_14_code 101 = .ok (.ireturn, 1) := by decide +kernel
theorem d_U_unpackAgain_102 : decode prog_8_method_14_code 102 = .ok (.aload_n 0, 1) := by decide +kernel
theorem d_U_unpackAgain_103 : decode prog_8_method_14_code 103 = .ok (.aload_n 1, 1) := by decide +kernel
theorem d_U_unpackAgain_104 : decode prog_8_method_14_code 104 = .ok (.getstatic 167, 3) := by decide +kernel
theorem d_U_unpackAgain_107 : decode prog_8_method_14_code 107 = .ok (.iload 4, 2) := by decide +kernel
theorem d_U_unpackAgain_109 : decode prog_8_method_14_code 109 = .ok (.iaload, 1) := by decide +kernel
theorem d_U_unpackAgain_110 : decode prog_8_method_14_code 110 = .ok (.iload 5, 2) := by decide +kernel
theorem d_U_unpackAgain_112 : decode prog_8_method_14_code 112 = .ok (.iadd, 1) := by decide +kernel
theorem d_U_unpackAgain_113 : decode prog_8_method_14_code 113 = .ok (.getstatic 173, 3) := by decide +kernel
theorem d_U_unpackAgain_116 : decode prog_8_method_14_code 116 = .ok (.iload 6, 2) := by decide +kernel
theorem d_U_unpackAgain_118 : decode prog_8_method_14_code 118 = .ok (.iaload, 1) := by decide +kernel
theorem d_U_unpackAgain_119 : decode prog_8_method_14_code 119 = .ok (.iload 7, 2) := by decide +kernel
theorem d_U_unpackAgain_121 : decode prog_8_method_14_code 121 = .ok (.iadd, 1) := by decide +kernel
theorem d_U_unpackAgain_122 : decode prog_8_method_14_code 122 = .ok (.invokevirtual 179, 3) := by decide +kernel
theorem d_U_unpackAgain_125 : decode prog_8_method_14_code 125 = .ok (.ireturn, 1) := by decide +kernel
set_option maxHeartbeats 4000000 in
set_option maxRecDepth 100000 in
theorem c_U_agn (l : Launch) (D : va_G) (sz : Nat) (qu : Nat) (qw : Nat) (s1 : Nat) (s2 : Nat) (s3 : Nat) (s4 : Nat) (s5 : Nat) (qr : Nat) (qb : Nat) (qa : Nat) (qo : Nat) (qe : Nat) (cB : ClassId) (cO : ClassId) (f : Nat → Int32) (bh : Nat) (bu : Nat) (ra : Nat) (en : Nat) (nl : Int32) (fo : Int32) (me : Int32) (pk : Nat) (zz : Int64) (su : Int32) (lp : Int32) (pp : Int32) (sa : Int32) (op : Nat) (qc : Nat) (c1 : Nat) (c2 : Nat) (c3 : Nat) (cC1 : ClassId) (cC3 : ClassId) (g1 : Nat → Int32) (g3 : Nat → Int32) (SS : Nat) (d : Nat → Nat) (n : Nat) (y : Nat) (a : Nat) (u : Nat) (to : Nat) (ol : Nat) (ks : Int32) (ft : Nat → Int32) (hbh : bh ≤ 20000) (hbu : bu ≤ 40000) (hG : ∀ l, l ≤ 15 → g1 l = nI (zcn d n l)) (hn : n ≤ 320) (hSS : n ≤ SS) (hS2 : SS < 2 ^ 31) (hg3 : ∀ i, i < n → 1 ≤ d i → g3 (zst d n (d i) + zcn d i (d i)) = nI i) (hy : 257 ≤ y) (hy2 : y ≤ 320) (hu : u ≤ 7) (hau : 8 * a + u ≤ 8 * bh) (hto : to ≤ 40000) (hol : op + ol = to) : Met l y_U_unpackAgain (Cond.code y_U_unpackAgain prog_8_method_14_code 8 (Option.some Jvm.ClassFile.FieldType.int) :: zt) { frames := 2, cells := 0, slots := 0, locals := 52 } (zPc [.ref qu, .ref qe, .int (nI y), .ref qc] D [(qu, .inr (4, [.ref qa, .ref qr, .ref qw, .ref s1, .ref s2, .ref s3, .ref s4, .ref s5])), (qr, .inr (5, [.ref qb, .int (nI a), .int (nI bh), .int (nI u)])), (qb, .inl (cB, 20000, .inl f)), (qa, .inr (3, [.int (nI bu), .int (nI ra), .int (nI to), .ref qo, .int ks])), (qo, .inl (cO, 40000, .inl ft)), (qe, .inr (7, [.ref en, .int nl, .int fo, .int me, .int (nI pk), .long zz, .int su, .int lp, .int pp, .int sa, .int (nI op), .int (nI ol)])), (qc, .inr (6, [.ref c1, .ref c2, .ref c3, .int (nI (zst d n 16))])), (c1, .inl (cC1, 16, .inl g1)), (c3, .inl (cC3, SS, .inl g3))] [(cB, .byte), (cO, .byte), (cC1, .int), (cC3, .int)] sz (zXT [(qu, .inr (4, [.ref qa, .ref qr, .ref qw, .ref s1, .ref s2, .ref s3, .ref s4, .ref s5])), (qr, .inr (5, [.ref qb, .int (nI a), .int (nI bh), .int (nI u)])), (qb, .inl (cB, 20000, .inl f)), (qa, .inr (3, [.int (nI bu), .int (nI ra), .int (nI to), .ref qo, .int ks])), (qo, .inl (cO, 40000, .inl ft)), (qe, .inr (7, [.ref en, .int nl, .int fo, .int me, .int (nI pk), .long zz, .int su, .int lp, .int pp, .int sa, .int (nI op), .int (nI ol)])), (qc, .inr (6, [.ref c1, .ref c2, .ref c3, .int (nI (zst d n 16))])), (c1, .inl (cC1, 16, .inl g1)), (c3, .inl (cC3, SS, .inl g3))])) (va_Qi (fun (r : Int32) => fun (u9 : Nat × Nat × Nat × Nat × Int32 × (Nat → Int32)) => match u9 with | (a1, u1, to1, ol1, ks1, ft1) => zOut (zagn f bh bu ra pk zz d n g3 op y (8 * a + u) (to, ol, ks, ft)) bh op r a1 u1 to1 ol1 ks1 ft1) (fun u9 t => zB D ((fun (u9 : Nat × Nat × Nat × Nat × Int32 × (Nat → Int32)) => match u9 with | (a1, u1, to1, ol1, ks1, ft1) => [(qu, .inr (4, [.ref qa, .ref qr, .ref qw, .ref s1, .ref s2, .ref s3, .ref s4, .ref s5])), (qr, .inr (5, [.ref qb, .int (nI a1), .int (nI bh), .int (nI u1)])), (qb, .inl (cB, 20000, .inl f)), (qa, .inr (3, [.int (nI bu), .int (nI ra), .int (nI to1), .ref qo, .int ks1])), (qo, .inl (cO, 40000, .inl ft1)), (qe, .inr (7, [.ref en, .int nl, .int fo, .int me, .int (nI pk), .long zz, .int su, .int lp, .int pp, .int sa, .int (nI op), .int (nI ol1)])), (qc, .inr (6, [.ref c1, .ref c2, .ref c3, .int (nI (zst d n 16))])), (c1, .inl (cC1, 16, .inl g1)), (c3, .inl (cC3, SS, .inl g3))]) u9) ((fun (u9 : Nat × Nat × Nat × Nat × Int32 × (Nat → Int32)) => match u9 with | (a1, u1, to1, ol1, ks1, ft1) => [(cB, .byte), (cO, .byte), (cC1, .int), (cC3, .int)]) u9) (va_A [(qu, .inr (4, [.ref qa, .ref qr, .ref qw, .ref s1, .ref s2, .ref s3, .ref s4, .ref s5])), (qr, .inr (5, [.ref qb, .int (nI a), .int (nI bh), .int (nI u)])), (qb, .inl (cB, 20000, .inl f)), (qa, .inr (3, [.int (nI bu), .int (nI ra), .int (nI to), .ref qo, .int ks])), (qo, .inl (cO, 40000, .inl ft)), (qe, .inr (7, [.ref en, .int nl, .int fo, .int me, .int (nI pk), .long zz, .int su, .int lp, .int pp, .int sa, .int (nI op), .int (nI ol)])), (qc, .inr (6, [.ref c1, .ref c2, .ref c3, .int (nI (zst d n 16))])), (c1, .inl (cC1, 16, .inl g1)), (c3, .inl (cC3, SS, .inl g3))] sz) t) (va_A [(qu, .inr (4, [.ref qa, .ref qr, .ref qw, .ref s1, .ref s2, .ref s3, .ref s4, .ref s5])), (qr, .inr (5, [.ref qb, .int (nI a), .int (nI bh), .int (nI u)])), (qb, .inl (cB, 20000, .inl f)), (qa, .inr (3, [.int (nI bu), .int (nI ra), .int (nI to), .ref qo, .int ks])), (qo, .inl (cO, 40000, .inl ft)), (qe, .inr (7, [.ref en, .int nl, .int fo, .int me, .int (nI pk), .long zz, .int su, .int lp, .int pp, .int sa, .int (nI op), .int (nI ol)])), (qc, .inr (6, [.ref c1, .ref c2, .ref c3, .int (nI (zst d n 16))])), (c1, .inl (cC1, 16, .inl g1)), (c3, .inl (cC3, SS, .inl g3))] sz)) 0 0 (va_A [(qu, .inr (4, [.ref qa, .ref qr, .ref qw, .ref s1, .ref s2, .ref s3, .ref s4, .ref s5])), (qr, .inr (5, [.ref qb, .int (nI a), .int (nI bh), .int (nI u)])), (qb, .inl (cB, 20000, .inl f)), (qa, .inr (3, [.int (nI bu), .int (nI ra), .int (nI to), .ref qo, .int ks])), (qo, .inl (cO, 40000, .inl ft)), (qe, .inr (7, [.ref en, .int nl, .int fo, .int me, .int (nI pk), .long zz, .int su, .int lp, .int pp, .int sa, .int (nI op), .int (nI ol)])), (qc, .inr (6, [.ref c1, .ref c2, .ref c3, .int (nI (zst d n 16))])), (c1, .inl (cC1, 16, .inl g1)), (c3, .inl (cC3, SS, .inl g3))] sz) :=
  zMetA (Qf := fun A => va_Qi (fun (r : Int32) => fun (u9 : Nat × Nat × Nat × Nat × Int32 × (Nat → Int32)) => match u9 with | (a1, u1, to1, ol1, ks1, ft1) => zOut (zagn f bh bu ra pk zz d n g3 op y (8 * a + u) (to, ol, ks, ft)) bh op r a1 u1 to1 ol1 ks1 ft1) (fun u9 t => zB D ((fun (u9 : Nat × Nat × Nat × Nat × Int32 × (Nat → Int32)) => match u9 with | (a1, u1, to1, ol1, ks1, ft1) => [(qu, .inr (4, [.ref qa, .ref qr, .ref qw, .ref s1, .ref s2, .ref s3, .ref s4, .ref s5])), (qr, .inr (5, [.ref qb, .int (nI a1), .int (nI bh), .int (nI u1)])), (qb, .inl (cB, 20000, .inl f)), (qa, .inr (3, [.int (nI bu), .int (nI ra), .int (nI to1), .ref qo, .int ks1])), (qo, .inl (cO, 40000, .inl ft1)), (qe, .inr (7, [.ref en, .int nl, .int fo, .int me, .int (nI pk), .long zz, .int su, .int lp, .int pp, .int sa, .int (nI op), .int (nI ol1)])), (qc, .inr (6, [.ref c1, .ref c2, .ref c3, .int (nI (zst d n 16))])), (c1, .inl (cC1, 16, .inl g1)), (c3, .inl (cC3, SS, .inl g3))]) u9) ((fun (u9 : Nat × Nat × Nat × Nat × Int32 × (Nat → Int32)) => match u9 with | (a1, u1, to1, ol1, ks1, ft1) => [(cB, .byte), (cO, .byte), (cC1, .int), (cC3, .int)]) u9) A t) A) (by decide) (Nat.le_of_ble_eq_true rfl) (fun p e s m below meth c A ls hx hb hr hml hown ht hlk hnm hA hK hP hD hX hl => by
    have hS : va_S A s.heap s.heap [] := va_S.rf
    have hl : lv_has ls 8 [(0, .ref qu), (1, .ref qe), (2, .int (nI y)), (3, .ref qc)] := hl
    obtain ⟨t2, hz2, hT2⟩ := hX _ ztm_2
    have hz2 : va_Z "ZipGuard$Unpacker" "LENGTHS" "[I" (.ref t2) A s s.heap := hz2
    have hT2 : va_T .int t2 29 (fun j => .int (ztab_2.getD j 0)) A s s.heap := hT2
    obtain ⟨t3, hz3, hT3⟩ := hX _ ztm_3
    have hz3 : va_Z "ZipGuard$Unpacker" "LENGTH_BITS" "[I" (.ref t3) A s s.heap := hz3
    have hT3 : va_T .int t3 29 (fun j => .int (ztab_3.getD j 0)) A s s.heap := hT3
    obtain ⟨t4, hz4, hT4⟩ := hX _ ztm_4
    have hz4 : va_Z "ZipGuard$Unpacker" "DISTANCES" "[I" (.ref t4) A s s.heap := hz4
    have hT4 : va_T .int t4 30 (fun j => .int (ztab_4.getD j 0)) A s s.heap := hT4
    obtain ⟨t5, hz5, hT5⟩ := hX _ ztm_5
    have hz5 : va_Z "ZipGuard$Unpacker" "DISTANCE_BITS" "[I" (.ref t5) A s s.heap := hz5
    have hT5 : va_T .int t5 30 (fun j => .int (ztab_5.getD j 0)) A s s.heap := hT5
    refine lv_iload_n hx hb d_U_unpackAgain_0 rfl (lv_at hl 2 rfl) ?_
    refine lv_sipush (v := 256) hx hb d_U_unpackAgain_1 (by decide) ?_
    refine lv_isub hx hb d_U_unpackAgain_4 ?_
    refine lv_topi (fun x1 e_x1 => ?_)
    have e_x1 : x1 = nI (y - 256) := by rw [e_x1]; exact (show nI y - nI 256 = nI (y - 256) from pk_sub (by omega))
    subst e_x1
    refine lv_iconst (v := 1) hx hb d_U_unpackAgain_5 (by decide) ?_
    refine lv_isub hx hb d_U_unpackAgain_6 ?_
    refine lv_topi (fun x2 e_x2 => ?_)
    have e_x2 : x2 = nI (y - 257) := by rw [e_x2]; exact (show nI (y - 256) - nI 1 = nI (y - 257) from by rw [pk_sub (by omega)]; congr 1)
    subst e_x2
    refine lv_istore (lv' := [(4, .int (nI (y - 257))), (0, .ref qu), (1, .ref qe), (2, .int (nI y)), (3, .ref qc)]) hx hb d_U_unpackAgain_7 hl (by decide) rfl (fun ls hl => ?_)
    refine lv_iload hx hb d_U_unpackAgain_9 (lv_at hl 0 rfl) ?_
    refine lv_if_lt (tgt := 23) hx hb d_U_unpackAgain_11 (by decide) (fun h => absurd h (nI_pos (by omega))) (fun _ => ?_)
    refine lv_iload hx hb d_U_unpackAgain_14 (lv_at hl 0 rfl) ?_
    refine va_gets hx hb hz2 hS hown (ht _ zm_661) (fun _ h9 => h9) d_U_unpackAgain_16 ?_
    refine va_tlen (v := 29) hx hb hT2 hS rfl d_U_unpackAgain_19 ?_
    by_cases h29 : 29 ≤ y - 257
    · skip
      refine lv_icmp_lt (tgt := 26) hx hb d_U_unpackAgain_20 (by decide) (fun h => absurd h (show ¬ nI (y - 257) < nI 29 from nI_nlt h29 (by omega))) (fun _ => ?_)
      refine lv_bipush (v := (-35)) hx hb d_U_unpackAgain_23 (by decide) ?_
      exact zreti hx hb hr hlk hK hP hD hS (a, u, to, ol, ks, ft) [0, 1, 2, 3, 4, 5, 6, 7, 8] [0, 1, 2, 3] rfl (by decide) rfl (by unfold zagn; rw [if_pos h29]; exact ⟨rfl, hu, by omega, fun _ => ⟨rfl, hau⟩, rfl, hto, hol⟩) (Nat.le_of_ble_eq_true rfl) (Nat.le_of_ble_eq_true rfl) d_U_unpackAgain_25
    · skip
      refine lv_icmp_lt (tgt := 26) hx hb d_U_unpackAgain_20 (by decide) (fun _ => ?_) (fun h => absurd (show nI (y - 257) < nI 29 from nI_lt (by omega) (by omega)) h)
      obtain ⟨hn3, hb3⟩ := zN_3 (y - 257) (by omega)
      obtain ⟨hn2, hb2⟩ := zN_2 (y - 257) (by omega)
      refine lv_aload_n hx hb d_U_unpackAgain_26 rfl (lv_at hl 1 rfl) ?_
      refine va_get (ci := 4) (C := "ZipGuard$Unpacker") (T := F_U) (N := 8) hx hb ht zi_U hown hK hP 0 rfl rfl 1 (by decide) (ht _ zm_371) (fun _ h9 => h9) rfl d_U_unpackAgain_27 ?_
      refine va_gets hx hb hz3 hS hown (ht _ zm_662) (fun _ h9 => h9) d_U_unpackAgain_30 ?_
      refine lv_iload hx hb d_U_unpackAgain_33 (lv_at hl 0 rfl) ?_
      refine va_ti (v := .int (ztab_3.getD (nI (y - 257)).toNatClampNeg 0)) hx hb hT3 hS (vp_in_nI (by omega) (by decide)) rfl d_U_unpackAgain_35 ?_
      refine lv_topi (fun x6 e_x6 => ?_)
      have e_x6 : x6 = nI (zN ztab_3 (y - 257)) := by rw [e_x6, nI_clamp (by omega)]; exact hn3
      subst e_x6
      have hzz1 := zbits_lt f (8 * a + u) (zN ztab_3 (y - 257))
      have hw1 := zpow_le hb3
      refine zji (wr := [(qu, .inr (4, [.ref qa, .ref qr, .ref qw, .ref s1, .ref s2, .ref s3, .ref s4, .ref s5])), (qa, .inr (3, [.int (nI bu), .int (nI ra), .int (nI to), .ref qo, .int ks])), (qo, .inl (cO, 40000, .inl ft)), (qe, .inr (7, [.ref en, .int nl, .int fo, .int me, .int (nI pk), .long zz, .int su, .int lp, .int pp, .int sa, .int (nI op), .int (nI ol)])), (qc, .inr (6, [.ref c1, .ref c2, .ref c3, .int (nI (zst d n 16))])), (c1, .inl (cC1, 16, .inl g1)), (c3, .inl (cC3, SS, .inl g3))]) (va_runV (As := [.int (nI (zN ztab_3 (y - 257)))]) (rest := []) ⟨hx, hb, hml, hown, ht⟩ (c_B_read l D _ qr qb cB f bh (zN ztab_3 (y - 257)) a u hbh (by omega) hu (by omega)) (cwV 1 ht (zt_goodV zm_629 zm_630 zm_631 zm_71 zm_632) rfl rfl rfl (by decide +kernel) ⟨Nat.le_of_ble_eq_true rfl, Nat.le_of_ble_eq_true rfl⟩) (zpreV zBlind_t hK hP hD [1, 2] [0] rfl (by decide) rfl (fun _ _ _ => trivial) (va_recv (q := ("ZipGuard$BitReader", F_B, 4)) hK hP rfl (q0 := 1) (ci := 5) rfl)) rfl rfl hl.1 rfl (lv_room (Nat.le_of_ble_eq_true rfl)) d_U_unpackAgain_36 ⟨Nat.le_of_ble_eq_true rfl, Nat.le_of_ble_eq_true rfl⟩) hK hP hD hS hA [1, 2] [0, 3, 4, 5, 6, 7, 8] rfl rfl (by decide) (by decide) (fun r7 u9 H locs hp8 hP hD hK hS => ?_)
      obtain ⟨a2, u2⟩ := u9
      dsimp only at hp8 hP hD hK
      have hP : va_P D zcl [(qu, .inr (4, [.ref qa, .ref qr, .ref qw, .ref s1, .ref s2, .ref s3, .ref s4, .ref s5])), (qa, .inr (3, [.int (nI bu), .int (nI ra), .int (nI to), .ref qo, .int ks])), (qo, .inl (cO, 40000, .inl ft)), (qe, .inr (7, [.ref en, .int nl, .int fo, .int me, .int (nI pk), .long zz, .int su, .int lp, .int pp, .int sa, .int (nI op), .int (nI ol)])), (qc, .inr (6, [.ref c1, .ref c2, .ref c3, .int (nI (zst d n 16))])), (c1, .inl (cC1, 16, .inl g1)), (c3, .inl (cC3, SS, .inl g3)), (qr, .inr (5, [.ref qb, .int (nI a2), .int (nI bh), .int (nI u2)])), (qb, .inl (cB, 20000, .inl f))] H := hP
      have hD : va_D A [(qu, .inr (4, [.ref qa, .ref qr, .ref qw, .ref s1, .ref s2, .ref s3, .ref s4, .ref s5])), (qa, .inr (3, [.int (nI bu), .int (nI ra), .int (nI to), .ref qo, .int ks])), (qo, .inl (cO, 40000, .inl ft)), (qe, .inr (7, [.ref en, .int nl, .int fo, .int me, .int (nI pk), .long zz, .int su, .int lp, .int pp, .int sa, .int (nI op), .int (nI ol)])), (qc, .inr (6, [.ref c1, .ref c2, .ref c3, .int (nI (zst d n 16))])), (c1, .inl (cC1, 16, .inl g1)), (c3, .inl (cC3, SS, .inl g3)), (qr, .inr (5, [.ref qb, .int (nI a2), .int (nI bh), .int (nI u2)])), (qb, .inl (cB, 20000, .inl f))] := hD
      have hK : va_K D zcl [(cB, .byte), (cO, .byte), (cC1, .int), (cC3, .int), (cB, .byte)] s := hK
      have hP := hP.sub (ws' := [(qu, .inr (4, [.ref qa, .ref qr, .ref qw, .ref s1, .ref s2, .ref s3, .ref s4, .ref s5])), (qr, .inr (5, [.ref qb, .int (nI a2), .int (nI bh), .int (nI u2)])), (qb, .inl (cB, 20000, .inl f)), (qa, .inr (3, [.int (nI bu), .int (nI ra), .int (nI to), .ref qo, .int ks])), (qo, .inl (cO, 40000, .inl ft)), (qe, .inr (7, [.ref en, .int nl, .int fo, .int me, .int (nI pk), .long zz, .int su, .int lp, .int pp, .int sa, .int (nI op), .int (nI ol)])), (qc, .inr (6, [.ref c1, .ref c2, .ref c3, .int (nI (zst d n 16))])), (c1, .inl (cC1, 16, .inl g1)), (c3, .inl (cC3, SS, .inl g3))]) [0, 7, 8, 1, 2, 3, 4, 5, 6] rfl
      have hD := hD.sub (ws' := [(qu, .inr (4, [.ref qa, .ref qr, .ref qw, .ref s1, .ref s2, .ref s3, .ref s4, .ref s5])), (qr, .inr (5, [.ref qb, .int (nI a2), .int (nI bh), .int (nI u2)])), (qb, .inl (cB, 20000, .inl f)), (qa, .inr (3, [.int (nI bu), .int (nI ra), .int (nI to), .ref qo, .int ks])), (qo, .inl (cO, 40000, .inl ft)), (qe, .inr (7, [.ref en, .int nl, .int fo, .int me, .int (nI pk), .long zz, .int su, .int lp, .int pp, .int sa, .int (nI op), .int (nI ol)])), (qc, .inr (6, [.ref c1, .ref c2, .ref c3, .int (nI (zst d n 16))])), (c1, .inl (cC1, 16, .inl g1)), (c3, .inl (cC3, SS, .inl g3))]) [0, 7, 8, 1, 2, 3, 4, 5, 6] (by decide) rfl
      have hK := hK.sub (tys' := [(cB, .byte), (cO, .byte), (cC1, .int), (cC3, .int)]) [0, 1, 2, 3] rfl
      obtain ⟨hu2, ha2, hp8⟩ := hp8
      refine lv_istore (lv' := [(5, .int r7), (4, .int (nI (y - 257))), (0, .ref qu), (1, .ref qe), (2, .int (nI y)), (3, .ref qc)]) hx hb d_U_unpackAgain_39 hl (by decide) rfl (fun ls hl => ?_)
      refine lv_iload hx hb d_U_unpackAgain_41 (lv_at hl 0 rfl) ?_
      rcases hp8 with ⟨hp8, hpos1, hle1⟩ | ⟨hp8, hend1⟩
      · skip
        have hp8 := hp8.symm
        subst hp8
        have hNE : ¬ 8 * bh < 8 * a + u + zN ztab_3 (y - 257) := by omega
        refine lv_if_ge (tgt := 49) hx hb d_U_unpackAgain_43 (by decide) (fun _ => ?_) (fun h => absurd (nI_pos' (by omega)) h)
        refine lv_aload_n hx hb d_U_unpackAgain_49 rfl (lv_at hl 5 rfl) ?_
        refine lv_aload_n hx hb d_U_unpackAgain_50 rfl (lv_at hl 2 rfl) ?_
        refine va_get (ci := 4) (C := "ZipGuard$Unpacker") (T := F_U) (N := 8) hx hb ht zi_U hown hK hP 0 rfl rfl 1 (by decide) (ht _ zm_371) (fun _ h9 => h9) rfl d_U_unpackAgain_51 ?_
        refine zji (wr := [(qu, .inr (4, [.ref qa, .ref qr, .ref qw, .ref s1, .ref s2, .ref s3, .ref s4, .ref s5])), (qa, .inr (3, [.int (nI bu), .int (nI ra), .int (nI to), .ref qo, .int ks])), (qo, .inl (cO, 40000, .inl ft)), (qe, .inr (7, [.ref en, .int nl, .int fo, .int me, .int (nI pk), .long zz, .int su, .int lp, .int pp, .int sa, .int (nI op), .int (nI ol)]))]) (va_runV (As := [.ref qr]) (rest := []) ⟨hx, hb, hml, hown, ht⟩ (c_C_next l D _ qc c1 c2 c3 qr qb cC1 cC3 cB g1 g3 f SS bh d n a2 u2 hG hn hSS hS2 hbh hu2 ha2) (cwV 1 ht (zt_goodV zm_653 zm_654 zm_655 zm_72 zm_656) rfl rfl rfl (by decide +kernel) ⟨Nat.le_of_ble_eq_true rfl, Nat.le_of_ble_eq_true rfl⟩) (zpreV zBlind_t hK hP hD [6, 7, 8, 1, 2] [2, 3, 0] rfl (by decide) rfl (fun _ _ _ => trivial) (va_recv (q := ("ZipGuard$CodeSet", F_C, 4)) hK hP rfl (q0 := 6) (ci := 6) rfl)) rfl rfl hl.1 rfl (lv_room (Nat.le_of_ble_eq_true rfl)) d_U_unpackAgain_54 ⟨Nat.le_of_ble_eq_true rfl, Nat.le_of_ble_eq_true rfl⟩) hK hP hD hS hA [6, 7, 8, 1, 2] [0, 3, 4, 5] rfl rfl (by decide) (by decide) (fun r10 u9 H locs hp11 hP hD hK hS => ?_)
        obtain ⟨a3, u3⟩ := u9
        dsimp only at hp11 hP hD hK
        have hP : va_P D zcl [(qu, .inr (4, [.ref qa, .ref qr, .ref qw, .ref s1, .ref s2, .ref s3, .ref s4, .ref s5])), (qa, .inr (3, [.int (nI bu), .int (nI ra), .int (nI to), .ref qo, .int ks])), (qo, .inl (cO, 40000, .inl ft)), (qe, .inr (7, [.ref en, .int nl, .int fo, .int me, .int (nI pk), .long zz, .int su, .int lp, .int pp, .int sa, .int (nI op), .int (nI ol)])), (qc, .inr (6, [.ref c1, .ref c2, .ref c3, .int (nI (zst d n 16))])), (c1, .inl (cC1, 16, .inl g1)), (c3, .inl (cC3, SS, .inl g3)), (qr, .inr (5, [.ref qb, .int (nI a3), .int (nI bh), .int (nI u3)])), (qb, .inl (cB, 20000, .inl f))] H := hP
        have hD : va_D A [(qu, .inr (4, [.ref qa, .ref qr, .ref qw, .ref s1, .ref s2, .ref s3, .ref s4, .ref s5])), (qa, .inr (3, [.int (nI bu), .int (nI ra), .int (nI to), .ref qo, .int ks])), (qo, .inl (cO, 40000, .inl ft)), (qe, .inr (7, [.ref en, .int nl, .int fo, .int me, .int (nI pk), .long zz, .int su, .int lp, .int pp, .int sa, .int (nI op), .int (nI ol)])), (qc, .inr (6, [.ref c1, .ref c2, .ref c3, .int (nI (zst d n 16))])), (c1, .inl (cC1, 16, .inl g1)), (c3, .inl (cC3, SS, .inl g3)), (qr, .inr (5, [.ref qb, .int (nI a3), .int (nI bh), .int (nI u3)])), (qb, .inl (cB, 20000, .inl f))] := hD
        have hK : va_K D zcl [(cB, .byte), (cO, .byte), (cC1, .int), (cC3, .int), (cC1, .int), (cC3, .int), (cB, .byte)] s := hK
        have hP := hP.sub (ws' := [(qu, .inr (4, [.ref qa, .ref qr, .ref qw, .ref s1, .ref s2, .ref s3, .ref s4, .ref s5])), (qr, .inr (5, [.ref qb, .int (nI a3), .int (nI bh), .int (nI u3)])), (qb, .inl (cB, 20000, .inl f)), (qa, .inr (3, [.int (nI bu), .int (nI ra), .int (nI to), .ref qo, .int ks])), (qo, .inl (cO, 40000, .inl ft)), (qe, .inr (7, [.ref en, .int nl, .int fo, .int me, .int (nI pk), .long zz, .int su, .int lp, .int pp, .int sa, .int (nI op), .int (nI ol)])), (qc, .inr (6, [.ref c1, .ref c2, .ref c3, .int (nI (zst d n 16))])), (c1, .inl (cC1, 16, .inl g1)), (c3, .inl (cC3, SS, .inl g3))]) [0, 7, 8, 1, 2, 3, 4, 5, 6] rfl
        have hD := hD.sub (ws' := [(qu, .inr (4, [.ref qa, .ref qr, .ref qw, .ref s1, .ref s2, .ref s3, .ref s4, .ref s5])), (qr, .inr (5, [.ref qb, .int (nI a3), .int (nI bh), .int (nI u3)])), (qb, .inl (cB, 20000, .inl f)), (qa, .inr (3, [.int (nI bu), .int (nI ra), .int (nI to), .ref qo, .int ks])), (qo, .inl (cO, 40000, .inl ft)), (qe, .inr (7, [.ref en, .int nl, .int fo, .int me, .int (nI pk), .long zz, .int su, .int lp, .int pp, .int sa, .int (nI op), .int (nI ol)])), (qc, .inr (6, [.ref c1, .ref c2, .ref c3, .int (nI (zst d n 16))])), (c1, .inl (cC1, 16, .inl g1)), (c3, .inl (cC3, SS, .inl g3))]) [0, 7, 8, 1, 2, 3, 4, 5, 6] (by decide) rfl
        have hK := hK.sub (tys' := [(cB, .byte), (cO, .byte), (cC1, .int), (cC3, .int)]) [0, 1, 2, 3] rfl
        obtain ⟨hp11, hu3, ha3, hpos3⟩ := hp11
        rw [hpos1] at hp11 hpos3
        have hxv := znx_val (f := f) (bh := bh) hg3 15 1 (8 * a + u + zN ztab_3 (y - 257)) 0 0 0 (by decide) (by simp [zst])
        have hun : zagn f bh bu ra pk zz d n g3 op y (8 * a + u) (to, ol, ks, ft) = zagn2 f bh bu ra pk zz op (zN ztab_2 (y - 257) + zbits f (8 * a + u) (zN ztab_3 (y - 257))) (znx f d n g3 bh 15 1 (8 * a + u + zN ztab_3 (y - 257)) 0 0 0) (to, ol, ks, ft) := by unfold zagn; rw [if_neg h29, if_neg hNE]
        generalize znx f d n g3 bh 15 1 (8 * a + u + zN ztab_3 (y - 257)) 0 0 0 = x at hp11 hpos3 hxv hun
        obtain ⟨x1, x2⟩ := x
        dsimp only at hp11 hpos3 hxv
        subst hp11
        have hx2 := hxv.2 (by omega)
        refine lv_istore (lv' := [(6, .int r10), (5, .int (nI (zbits f (8 * a + u) (zN ztab_3 (y - 257))))), (4, .int (nI (y - 257))), (0, .ref qu), (1, .ref qe), (2, .int (nI y)), (3, .ref qc)]) hx hb d_U_unpackAgain_57 hl (by decide) rfl (fun ls hl => ?_)
        refine lv_iload hx hb d_U_unpackAgain_59 (lv_at hl 0 rfl) ?_
        by_cases hi : ∃ i, i < n ∧ r10 = nI i
        · skip
          obtain ⟨i, hin, hie⟩ := hi
          subst hie
          have hp3 := (hpos3 (fun h => absurd h (fun h => by have h9 := congrArg Int32.toInt h; rw [nI_toInt (by omega), show (-30 : Int32).toInt = -30 by decide] at h9; omega)))
          refine lv_if_ge (tgt := 67) hx hb d_U_unpackAgain_61 (by decide) (fun _ => ?_) (fun h => absurd (nI_pos' (by omega)) h)
          refine lv_iload hx hb d_U_unpackAgain_67 (lv_at hl 0 rfl) ?_
          refine va_gets hx hb hz4 hS hown (ht _ zm_663) (fun _ h9 => h9) d_U_unpackAgain_69 ?_
          refine va_tlen (v := 30) hx hb hT4 hS rfl d_U_unpackAgain_72 ?_
          by_cases h30 : 30 ≤ i
          · skip
            refine lv_icmp_lt (tgt := 79) hx hb d_U_unpackAgain_73 (by decide) (fun h => absurd h (show ¬ nI i < nI 30 from nI_nlt h30 (by omega))) (fun _ => ?_)
            refine lv_bipush (v := (-35)) hx hb d_U_unpackAgain_76 (by decide) ?_
            exact zreti hx hb hr hlk hK hP hD hS (a3, u3, to, ol, ks, ft) [0, 1, 2, 3, 4, 5, 6, 7, 8] [0, 1, 2, 3] rfl (by decide) rfl (by rw [hun]; unfold zagn2; rw [if_neg (nI_pos (by omega)), nI_clamp (by omega), if_pos h30]; exact ⟨rfl, hu3, ha3, fun _ => ⟨hp3, by omega⟩, rfl, hto, hol⟩) (Nat.le_of_ble_eq_true rfl) (Nat.le_of_ble_eq_true rfl) d_U_unpackAgain_78
          · skip
            refine lv_icmp_lt (tgt := 79) hx hb d_U_unpackAgain_73 (by decide) (fun _ => ?_) (fun h => absurd (show nI i < nI 30 from nI_lt (by omega) (by decide)) h)
            obtain ⟨hn4, hb4, hb44⟩ := zN_4 i (by omega)
            obtain ⟨hn5, hb5⟩ := zN_5 i (by omega)
            refine lv_aload_n hx hb d_U_unpackAgain_79 rfl (lv_at hl 3 rfl) ?_
            refine va_get (ci := 4) (C := "ZipGuard$Unpacker") (T := F_U) (N := 8) hx hb ht zi_U hown hK hP 0 rfl rfl 1 (by decide) (ht _ zm_371) (fun _ h9 => h9) rfl d_U_unpackAgain_80 ?_
            refine va_gets hx hb hz5 hS hown (ht _ zm_664) (fun _ h9 => h9) d_U_unpackAgain_83 ?_
            refine lv_iload hx hb d_U_unpackAgain_86 (lv_at hl 0 rfl) ?_
            refine va_ti (v := .int (ztab_5.getD (nI i).toNatClampNeg 0)) hx hb hT5 hS (vp_in_nI (by omega) (by decide)) rfl d_U_unpackAgain_88 ?_
            refine lv_topi (fun x15 e_x15 => ?_)
            have e_x15 : x15 = nI (zN ztab_5 i) := by rw [e_x15, nI_clamp (by omega)]; exact hn5
            subst e_x15
            have hzz2 := zbits_lt f x2 (zN ztab_5 i)
            have hw2 := zpow_le hb5
            refine zji (wr := [(qu, .inr (4, [.ref qa, .ref qr, .ref qw, .ref s1, .ref s2, .ref s3, .ref s4, .ref s5])), (qa, .inr (3, [.int (nI bu), .int (nI ra), .int (nI to), .ref qo, .int ks])), (qo, .inl (cO, 40000, .inl ft)), (qe, .inr (7, [.ref en, .int nl, .int fo, .int me, .int (nI pk), .long zz, .int su, .int lp, .int pp, .int sa, .int (nI op), .int (nI ol)])), (qc, .inr (6, [.ref c1, .ref c2, .ref c3, .int (nI (zst d n 16))])), (c1, .inl (cC1, 16, .inl g1)), (c3, .inl (cC3, SS, .inl g3))]) (va_runV (As := [.int (nI (zN ztab_5 i))]) (rest := []) ⟨hx, hb, hml, hown, ht⟩ (c_B_read l D _ qr qb cB f bh (zN ztab_5 i) a3 u3 hbh (by omega) hu3 ha3) (cwV 1 ht (zt_goodV zm_629 zm_630 zm_631 zm_71 zm_632) rfl rfl rfl (by decide +kernel) ⟨Nat.le_of_ble_eq_true rfl, Nat.le_of_ble_eq_true rfl⟩) (zpreV zBlind_t hK hP hD [1, 2] [0] rfl (by decide) rfl (fun _ _ _ => trivial) (va_recv (q := ("ZipGuard$BitReader", F_B, 4)) hK hP rfl (q0 := 1) (ci := 5) rfl)) rfl rfl hl.1 rfl (lv_room (Nat.le_of_ble_eq_true rfl)) d_U_unpackAgain_89 ⟨Nat.le_of_ble_eq_true rfl, Nat.le_of_ble_eq_true rfl⟩) hK hP hD hS hA [1, 2] [0, 3, 4, 5, 6, 7, 8] rfl rfl (by decide) (by decide) (fun r16 u9 H locs hp17 hP hD hK hS => ?_)
            obtain ⟨a4, u4⟩ := u9
            dsimp only at hp17 hP hD hK
            have hP : va_P D zcl [(qu, .inr (4, [.ref qa, .ref qr, .ref qw, .ref s1, .ref s2, .ref s3, .ref s4, .ref s5])), (qa, .inr (3, [.int (nI bu), .int (nI ra), .int (nI to), .ref qo, .int ks])), (qo, .inl (cO, 40000, .inl ft)), (qe, .inr (7, [.ref en, .int nl, .int fo, .int me, .int (nI pk), .long zz, .int su, .int lp, .int pp, .int sa, .int (nI op), .int (nI ol)])), (qc, .inr (6, [.ref c1, .ref c2, .ref c3, .int (nI (zst d n 16))])), (c1, .inl (cC1, 16, .inl g1)), (c3, .inl (cC3, SS, .inl g3)), (qr, .inr (5, [.ref qb, .int (nI a4), .int (nI bh), .int (nI u4)])), (qb, .inl (cB, 20000, .inl f))] H := hP
            have hD : va_D A [(qu, .inr (4, [.ref qa, .ref qr, .ref qw, .ref s1, .ref s2, .ref s3, .ref s4, .ref s5])), (qa, .inr (3, [.int (nI bu), .int (nI ra), .int (nI to), .ref qo, .int ks])), (qo, .inl (cO, 40000, .inl ft)), (qe, .inr (7, [.ref en, .int nl, .int fo, .int me, .int (nI pk), .long zz, .int su, .int lp, .int pp, .int sa, .int (nI op), .int (nI ol)])), (qc, .inr (6, [.ref c1, .ref c2, .ref c3, .int (nI (zst d n 16))])), (c1, .inl (cC1, 16, .inl g1)), (c3, .inl (cC3, SS, .inl g3)), (qr, .inr (5, [.ref qb, .int (nI a4), .int (nI bh), .int (nI u4)])), (qb, .inl (cB, 20000, .inl f))] := hD
            have hK : va_K D zcl [(cB, .byte), (cO, .byte), (cC1, .int), (cC3, .int), (cB, .byte)] s := hK
            have hP := hP.sub (ws' := [(qu, .inr (4, [.ref qa, .ref qr, .ref qw, .ref s1, .ref s2, .ref s3, .ref s4, .ref s5])), (qr, .inr (5, [.ref qb, .int (nI a4), .int (nI bh), .int (nI u4)])), (qb, .inl (cB, 20000, .inl f)), (qa, .inr (3, [.int (nI bu), .int (nI ra), .int (nI to), .ref qo, .int ks])), (qo, .inl (cO, 40000, .inl ft)), (qe, .inr (7, [.ref en, .int nl, .int fo, .int me, .int (nI pk), .long zz, .int su, .int lp, .int pp, .int sa, .int (nI op), .int (nI ol)])), (qc, .inr (6, [.ref c1, .ref c2, .ref c3, .int (nI (zst d n 16))])), (c1, .inl (cC1, 16, .inl g1)), (c3, .inl (cC3, SS, .inl g3))]) [0, 7, 8, 1, 2, 3, 4, 5, 6] rfl
            have hD := hD.sub (ws' := [(qu, .inr (4, [.ref qa, .ref qr, .ref qw, .ref s1, .ref s2, .ref s3, .ref s4, .ref s5])), (qr, .inr (5, [.ref qb, .int (nI a4), .int (nI bh), .int (nI u4)])), (qb, .inl (cB, 20000, .inl f)), (qa, .inr (3, [.int (nI bu), .int (nI ra), .int (nI to), .ref qo, .int ks])), (qo, .inl (cO, 40000, .inl ft)), (qe, .inr (7, [.ref en, .int nl, .int fo, .int me, .int (nI pk), .long zz, .int su, .int lp, .int pp, .int sa, .int (nI op), .int (nI ol)])), (qc, .inr (6, [.ref c1, .ref c2, .ref c3, .int (nI (zst d n 16))])), (c1, .inl (cC1, 16, .inl g1)), (c3, .inl (cC3, SS, .inl g3))]) [0, 7, 8, 1, 2, 3, 4, 5, 6] (by decide) rfl
            have hK := hK.sub (tys' := [(cB, .byte), (cO, .byte), (cC1, .int), (cC3, .int)]) [0, 1, 2, 3] rfl
            obtain ⟨hu4, ha4, hp17⟩ := hp17
            rw [hp3] at hp17
            refine lv_istore (lv' := [(7, .int r16), (6, .int (nI i)), (5, .int (nI (zbits f (8 * a + u) (zN ztab_3 (y - 257))))), (4, .int (nI (y - 257))), (0, .ref qu), (1, .ref qe), (2, .int (nI y)), (3, .ref qc)]) hx hb d_U_unpackAgain_92 hl (by decide) rfl (fun ls hl => ?_)
            refine lv_iload hx hb d_U_unpackAgain_94 (lv_at hl 0 rfl) ?_
            rcases hp17 with ⟨hp17, hpos4, hle4⟩ | ⟨hp17, hend4⟩
            · skip
              have hp17 := hp17.symm
              subst hp17
              refine lv_if_ge (tgt := 102) hx hb d_U_unpackAgain_96 (by decide) (fun _ => ?_) (fun h => absurd (nI_pos' (by omega)) h)
              refine lv_aload_n hx hb d_U_unpackAgain_102 rfl (lv_at hl 4 rfl) ?_
              refine lv_aload_n hx hb d_U_unpackAgain_103 rfl (lv_at hl 5 rfl) ?_
              refine va_gets hx hb hz2 hS hown (ht _ zm_661) (fun _ h9 => h9) d_U_unpackAgain_104 ?_
              refine lv_iload hx hb d_U_unpackAgain_107 (lv_at hl 3 rfl) ?_
              refine va_ti (v := .int (ztab_2.getD (nI (y - 257)).toNatClampNeg 0)) hx hb hT2 hS (vp_in_nI (by omega) (by decide)) rfl d_U_unpackAgain_109 ?_
              refine lv_topi (fun x19 e_x19 => ?_)
              have e_x19 : x19 = nI (zN ztab_2 (y - 257)) := by rw [e_x19, nI_clamp (by omega)]; exact hn2
              subst e_x19
              refine lv_iload hx hb d_U_unpackAgain_110 (lv_at hl 2 rfl) ?_
              refine lv_iadd hx hb d_U_unpackAgain_112 ?_
              refine lv_topi (fun x20 e_x20 => ?_)
              have e_x20 : x20 = nI (zN ztab_2 (y - 257) + zbits f (8 * a + u) (zN ztab_3 (y - 257))) := by rw [e_x20]; exact nI_add _ _
              subst e_x20
              refine va_gets hx hb hz4 hS hown (ht _ zm_663) (fun _ h9 => h9) d_U_unpackAgain_113 ?_
              refine lv_iload hx hb d_U_unpackAgain_116 (lv_at hl 1 rfl) ?_
              refine va_ti (v := .int (ztab_4.getD (nI i).toNatClampNeg 0)) hx hb hT4 hS (vp_in_nI (by omega) (by decide)) rfl d_U_unpackAgain_118 ?_
              refine lv_topi (fun x21 e_x21 => ?_)
              have e_x21 : x21 = nI (zN ztab_4 i) := by rw [e_x21, nI_clamp (by omega)]; exact hn4
              subst e_x21
              refine lv_iload hx hb d_U_unpackAgain_119 (lv_at hl 0 rfl) ?_
              refine lv_iadd hx hb d_U_unpackAgain_121 ?_
              refine lv_topi (fun x22 e_x22 => ?_)
              have e_x22 : x22 = nI (zN ztab_4 i + zbits f x2 (zN ztab_5 i)) := by rw [e_x22]; exact nI_add _ _
              subst e_x22
              refine zji (wr := [(qr, .inr (5, [.ref qb, .int (nI a4), .int (nI bh), .int (nI u4)])), (qb, .inl (cB, 20000, .inl f)), (qc, .inr (6, [.ref c1, .ref c2, .ref c3, .int (nI (zst d n 16))])), (c1, .inl (cC1, 16, .inl g1)), (c3, .inl (cC3, SS, .inl g3))]) (va_runV (As := [.ref qe, .int (nI (zN ztab_2 (y - 257) + zbits f (8 * a + u) (zN ztab_3 (y - 257)))), .int (nI (zN ztab_4 i + zbits f x2 (zN ztab_5 i)))]) (rest := []) ⟨hx, hb, hml, hown, ht⟩ (c_U_wr l D _ qu qw s1 s2 s3 s4 s5 qr qa qo qe cO bu ra en nl fo me pk zz su lp pp sa op (zN ztab_2 (y - 257) + zbits f (8 * a + u) (zN ztab_3 (y - 257))) (zN ztab_4 i + zbits f x2 (zN ztab_5 i)) to ol ks ft hbu (by omega) (by omega) (by omega) hto hol) (cwV 3 ht (zt_goodV zm_665 zm_666 zm_23 zm_70 zm_667) rfl rfl rfl (by decide +kernel) ⟨Nat.le_of_ble_eq_true rfl, Nat.le_of_ble_eq_true rfl⟩) (zpreV (zBlind_XT _) hK hP hD [0, 3, 4, 5] [1] rfl (by decide) rfl (zXT_call hX hD hS hA [0, 3, 4, 5] rfl) (va_recv (q := ("ZipGuard$Unpacker", F_U, 8)) hK hP rfl (q0 := 0) (ci := 4) rfl)) rfl rfl hl.1 rfl (lv_room (Nat.le_of_ble_eq_true rfl)) d_U_unpackAgain_122 ⟨Nat.le_of_ble_eq_true rfl, Nat.le_of_ble_eq_true rfl⟩) hK hP hD hS hA [0, 3, 4, 5] [1, 2, 6, 7, 8] rfl rfl (by decide) (by decide) (fun r23 u9 H locs hp24 hP hD hK hS => ?_)
              obtain ⟨to1, ol1, ks1, ft1⟩ := u9
              dsimp only at hp24 hP hD hK
              have hP : va_P D zcl [(qr, .inr (5, [.ref qb, .int (nI a4), .int (nI bh), .int (nI u4)])), (qb, .inl (cB, 20000, .inl f)), (qc, .inr (6, [.ref c1, .ref c2, .ref c3, .int (nI (zst d n 16))])), (c1, .inl (cC1, 16, .inl g1)), (c3, .inl (cC3, SS, .inl g3)), (qu, .inr (4, [.ref qa, .ref qr, .ref qw, .ref s1, .ref s2, .ref s3, .ref s4, .ref s5])), (qa, .inr (3, [.int (nI bu), .int (nI ra), .int (nI to1), .ref qo, .int ks1])), (qo, .inl (cO, 40000, .inl ft1)), (qe, .inr (7, [.ref en, .int nl, .int fo, .int me, .int (nI pk), .long zz, .int su, .int lp, .int pp, .int sa, .int (nI op), .int (nI ol1)]))] H := hP
              have hD : va_D A [(qr, .inr (5, [.ref qb, .int (nI a4), .int (nI bh), .int (nI u4)])), (qb, .inl (cB, 20000, .inl f)), (qc, .inr (6, [.ref c1, .ref c2, .ref c3, .int (nI (zst d n 16))])), (c1, .inl (cC1, 16, .inl g1)), (c3, .inl (cC3, SS, .inl g3)), (qu, .inr (4, [.ref qa, .ref qr, .ref qw, .ref s1, .ref s2, .ref s3, .ref s4, .ref s5])), (qa, .inr (3, [.int (nI bu), .int (nI ra), .int (nI to1), .ref qo, .int ks1])), (qo, .inl (cO, 40000, .inl ft1)), (qe, .inr (7, [.ref en, .int nl, .int fo, .int me, .int (nI pk), .long zz, .int su, .int lp, .int pp, .int sa, .int (nI op), .int (nI ol1)]))] := hD
              have hK : va_K D zcl [(cB, .byte), (cO, .byte), (cC1, .int), (cC3, .int), (cO, .byte)] s := hK
              have hP := hP.sub (ws' := [(qu, .inr (4, [.ref qa, .ref qr, .ref qw, .ref s1, .ref s2, .ref s3, .ref s4, .ref s5])), (qr, .inr (5, [.ref qb, .int (nI a4), .int (nI bh), .int (nI u4)])), (qb, .inl (cB, 20000, .inl f)), (qa, .inr (3, [.int (nI bu), .int (nI ra), .int (nI to1), .ref qo, .int ks1])), (qo, .inl (cO, 40000, .inl ft1)), (qe, .inr (7, [.ref en, .int nl, .int fo, .int me, .int (nI pk), .long zz, .int su, .int lp, .int pp, .int sa, .int (nI op), .int (nI ol1)])), (qc, .inr (6, [.ref c1, .ref c2, .ref c3, .int (nI (zst d n 16))])), (c1, .inl (cC1, 16, .inl g1)), (c3, .inl (cC3, SS, .inl g3))]) [5, 0, 1, 6, 7, 8, 2, 3, 4] rfl
              have hD := hD.sub (ws' := [(qu, .inr (4, [.ref qa, .ref qr, .ref qw, .ref s1, .ref s2, .ref s3, .ref s4, .ref s5])), (qr, .inr (5, [.ref qb, .int (nI a4), .int (nI bh), .int (nI u4)])), (qb, .inl (cB, 20000, .inl f)), (qa, .inr (3, [.int (nI bu), .int (nI ra), .int (nI to1), .ref qo, .int ks1])), (qo, .inl (cO, 40000, .inl ft1)), (qe, .inr (7, [.ref en, .int nl, .int fo, .int me, .int (nI pk), .long zz, .int su, .int lp, .int pp, .int sa, .int (nI op), .int (nI ol1)])), (qc, .inr (6, [.ref c1, .ref c2, .ref c3, .int (nI (zst d n 16))])), (c1, .inl (cC1, 16, .inl g1)), (c3, .inl (cC3, SS, .inl g3))]) [5, 0, 1, 6, 7, 8, 2, 3, 4] (by decide) rfl
              have hK := hK.sub (tys' := [(cB, .byte), (cO, .byte), (cC1, .int), (cC3, .int)]) [0, 1, 2, 3] rfl
              have hiv := zwr_inv (bu := bu) (ra := ra) (pk := pk) (zz := zz) (c := op) (ln := zN ztab_2 (y - 257) + zbits f (8 * a + u) (zN ztab_3 (y - 257))) (dd := zN ztab_4 i + zbits f x2 (zN ztab_5 i)) (o := (to, ol, ks, ft)) hbu hto hol
              rw [← hp24] at hiv
              exact zreti hx hb hr hlk hK hP hD hS (a4, u4, to1, ol1, ks1, ft1) [0, 1, 2, 3, 4, 5, 6, 7, 8] [0, 1, 2, 3] rfl (by decide) rfl (by rw [hun]; unfold zagn2; rw [if_neg (nI_pos (by omega)), nI_clamp (by omega), if_neg h30, if_neg (by dsimp only; omega)]; dsimp only; rw [← hp24]; exact ⟨rfl, hu4, ha4, fun _ => ⟨hpos4, by omega⟩, rfl, hiv.1, hiv.2.1⟩) (Nat.le_of_ble_eq_true rfl) (Nat.le_of_ble_eq_true rfl) d_U_unpackAgain_125
            · skip
              have hp17 := hp17.symm
              subst hp17
              refine lv_if_ge (tgt := 102) hx hb d_U_unpackAgain_96 (by decide) (fun h => absurd h (by decide)) (fun _ => ?_)
              refine lv_iload hx hb d_U_unpackAgain_99 (lv_at hl 0 rfl) ?_
              exact zreti hx hb hr hlk hK hP hD hS (a4, u4, to, ol, ks, ft) [0, 1, 2, 3, 4, 5, 6, 7, 8] [0, 1, 2, 3] rfl (by decide) rfl (by rw [hun]; unfold zagn2; rw [if_neg (nI_pos (by omega)), nI_clamp (by omega), if_neg h30, if_pos (by dsimp only; omega)]; exact ⟨rfl, hu4, ha4, fun h => absurd rfl h, rfl, hto, hol⟩) (Nat.le_of_ble_eq_true rfl) (Nat.le_of_ble_eq_true rfl) d_U_unpackAgain_101
        · skip
          have hlt : r10 < 0 := hxv.1.elim (fun h => by rw [h]; decide) (fun h => h.elim (fun h => by rw [h]; decide) (fun h => absurd h hi))
          refine lv_if_ge (tgt := 67) hx hb d_U_unpackAgain_61 (by decide) (fun h => absurd h (fun h => absurd hlt (by rw [Int32.lt_iff_toInt_lt]; have h9 := Int32.le_iff_toInt_le.mp h; omega))) (fun _ => ?_)
          refine lv_iload hx hb d_U_unpackAgain_64 (lv_at hl 0 rfl) ?_
          exact zreti hx hb hr hlk hK hP hD hS (a3, u3, to, ol, ks, ft) [0, 1, 2, 3, 4, 5, 6, 7, 8] [0, 1, 2, 3] rfl (by decide) rfl (by rw [hun]; unfold zagn2; rw [if_pos hlt]; exact ⟨rfl, hu3, ha3, fun h => ⟨hpos3 h, by have h9 := hpos3 h; omega⟩, rfl, hto, hol⟩) (Nat.le_of_ble_eq_true rfl) (Nat.le_of_ble_eq_true rfl) d_U_unpackAgain_66
      · skip
        have hp8 := hp8.symm
        subst hp8
        refine lv_if_ge (tgt := 49) hx hb d_U_unpackAgain_43 (by decide) (fun h => absurd h (by decide)) (fun _ => ?_)
        refine lv_iload hx hb d_U_unpackAgain_46 (lv_at hl 0 rfl) ?_
        exact zreti hx hb hr hlk hK hP hD hS (a2, u2, to, ol, ks, ft) [0, 1, 2, 3, 4, 5, 6, 7, 8] [0, 1, 2, 3] rfl (by decide) rfl (by unfold zagn; rw [if_neg h29, if_pos hend1]; exact ⟨rfl, hu2, ha2, fun h => absurd rfl h, rfl, hto, hol⟩) (Nat.le_of_ble_eq_true rfl) (Nat.le_of_ble_eq_true rfl) d_U_unpackAgain_48)
