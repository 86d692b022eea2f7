theorem ztm_0 : ("ZipGuard$Target", "HALF_BYTE_SUMS", 16, ztab_0) ∈ zTabs := .head _
theorem ztm_1 : ("ZipGuard$Unpacker", "ORDER_OF_LENGTH_CODES", 19, ztab_1) ∈ zTabs := .tail _ (.head _)
theorem ztm_2 : ("ZipGuard$Unpacker", "LENGTHS", 29, ztab_2) ∈ zTabs := .tail _ (.tail _ (.head _))
theorem ztm_3 : ("ZipGuard$Unpacker", "LENGTH_BITS", 29, ztab_3) ∈ zTabs := .tail _ (.tail _ (.tail _ (.head _)))
theorem ztm_4 : ("ZipGuard$Unpacker", "DISTANCES", 30, ztab_4) ∈ zTabs := .tail _ (.tail _ (.tail _ (.tail _ (.head _))))
theorem ztm_5 : ("ZipGuard$Unpacker", "DISTANCE_BITS", 30, ztab_5) ∈ zTabs := .tail _ (.tail _ (.tail _ (.tail _ (.tail _ (.head _)))))
theorem zofI (x : Int32) : ∃ k : Nat, k < 2 ^ 32 ∧ x = nI k := ⟨x.toBitVec.toNat, x.toBitVec.isLt, Int32.toBitVec_inj.1 (by show _ = BitVec.ofNat 32 _; rw [BitVec.ofNat_toNat, BitVec.setWidth_eq])⟩
theorem zand15 (x : Int32) : vp_in (x &&& 15) 16 := by
  obtain ⟨k, hk, rfl⟩ := zofI x
  rw [show (15 : Int32) = nI (2 ^ 4 - 1) from rfl, zand (by decide) hk]
  exact vp_in_nI (Nat.mod_lt _ (by decide)) (by decide)
def zhalf (x : Int32) : Int32 := (x.toUInt32 >>> ((4 : Int32).toUInt32 &&& Int32.toUInt32 31)).toInt32 ^^^ ztab_0.getD (x &&& 15).toNatClampNeg 0
/-- the running sum behind one more byte -/
def zcrc (k b : Int32) : Int32 := zhalf (zhalf (k ^^^ b))
/-- why a byte is refused, or 0 -/
def zputR (bu ra to ol pk : Nat) (zz : Int64) : Int32 := if ¬ (nI ol).toInt64 < zz then -20 else if ¬ (nI ol).toInt64 < (nI ra).toInt64 * (nI pk).toInt64 + 16 then -21 else if bu ≤ to then -22 else 0
abbrev zO := Nat × Nat × Int32 × (Nat → Int32)
/-- one byte out: total, length, running sum, the bytes -/
def zput (bu ra pk : Nat) (zz : Int64) (o : zO) (b : Int32) : Int32 × zO := (zputR bu ra o.1 o.2.1 pk zz, if zputR bu ra o.1 o.2.1 pk zz = 0 then (o.1 + 1, o.2.1 + 1, zcrc o.2.2.1 b, upd o.2.2.2 o.1 (vp_nar .byte b.toInt8.toInt32)) else o)
theorem zputR_cases (bu ra to ol pk : Nat) (zz : Int64) : zputR bu ra to ol pk zz = 0 ∧ to < bu ∨ zputR bu ra to ol pk zz < 0 ∧ zputR bu ra to ol pk zz ≠ 0 ∧ zputR bu ra to ol pk zz ≠ -30 := by
  unfold zputR
  split
  · exact Or.inr (by decide)
  · split
    · exact Or.inr (by decide)
    · split
      · exact Or.inr (by decide)
      · exact Or.inl ⟨rfl, by omega⟩
theorem zput_inv {bu ra pk : Nat} {zz : Int64} {o : zO} {b : Int32} {c : Nat} (hb : bu ≤ 40000) (h1 : o.1 ≤ 40000) (h2 : c + o.2.1 = o.1) : (zput bu ra pk zz o b).2.1 ≤ 40000 ∧ c + (zput bu ra pk zz o b).2.2.1 = (zput bu ra pk zz o b).2.1 := by
  unfold zput
  rcases zputR_cases bu ra o.1 o.2.1 pk zz with ⟨h, h3⟩ | ⟨_, h, _⟩
  · simp only [h, if_true]; omega
  · simp only [h, if_false]; exact ⟨h1, h2⟩
set_option maxRecDepth 100000 in
theorem zm_129 : Jvm.Cond.fieldLink "ZipGuard$Target" (41 : Nat) "ZipGuard$Entry" "packed" "I" ∈ zt := zt_m1 (List.mem_of_getElem? (i := 65) rfl)
set_option maxRecDepth 100000 in
theorem zm_133 : Jvm.Cond.fieldLink "ZipGuard$Target" (37 : Nat) "ZipGuard$Entry" "size" "J" ∈ zt := zt_m1 (List.mem_of_getElem? (i := 69) rfl)
set_option maxRecDepth 100000 in
theorem zm_149 : Jvm.Cond.fieldLink "ZipGuard$Target" (29 : Nat) "ZipGuard$Entry" "outPlace" "I" ∈ zt := zt_m1 (List.mem_of_getElem? (i := 85) rfl)
set_option maxRecDepth 100000 in
theorem zm_151 : Jvm.Cond.fieldLink "ZipGuard$Target" (34 : Nat) "ZipGuard$Entry" "outLength" "I" ∈ zt := zt_m1 (List.mem_of_getElem? (i := 87) rfl)
set_option maxRecDepth 100000 in
theorem zm_637 : Jvm.Cond.constantLong "ZipGuard$Target" (44 : Nat) (16 : Int64) ∈ zt := zt_m4 (List.mem_of_getElem? (i := 126) rfl)
set_option maxRecDepth 100000 in
theorem zm_638 : Jvm.Cond.fieldLink "ZipGuard$Target" (46 : Nat) "ZipGuard$Target" "HALF_BYTE_SUMS" "[I" ∈ zt := zt_m4 (List.mem_of_getElem? (i := 127) rfl)
theorem d_A_begin_0 : decode prog_7_method_3_code 0 = .ok (.aload_n 1, 1) := by decide +kernel
theorem d_A_begin_1 : decode prog_7_method_3_code 1 = .ok (.aload_n 0, 1) := by decide +kernel
theorem d_A_begin_2 : decode prog_7_method_3_code 2 = .ok (.getfield 23, 3) := by decide +kernel
theorem d_A_begin_5 : decode prog_7_method_3_code 5 = .ok (.putfield 29, 3) := by decide +kernel
theorem d_A_begin_8 : decode prog_7_method_3_code 8 = .ok (.aload_n 1, 1) := by decide +kernel
theorem d_A_begin_9 : decode prog_7_method_3_code 9 = .ok (.iconst 0, 1) := by decide +kernel
theorem d_A_begin_10 : decode prog_7_method_3_code 10 = .ok (.putfield 34, 3) := by decide +kernel
theorem d_A_begin_13 : decode prog_7_method_3_code 13 = .ok (.aload_n 0, 1) := by decide +kernel
theorem d_A_begin_14 : decode prog_7_method_3_code 14 = .ok (.iconst (-1), 1) := by decide +kernel
theorem d_A_begin_15 : decode prog_7_method_3_code 15 = .ok (.putfield 26, 3) := by decide +kernel
theorem d_A_begin_18 : decode prog_7_method_3_code 18 = .ok (.return_, 1) := by decide +kernel
theorem d_A_byteOf_0 : decode prog_7_method_5_code 0 = .ok (.aload_n 1, 1) := by decide +kernel
theorem d_A_byteOf_1 : decode prog_7_method_5_code 1 = .ok (.getfield 29, 3) := by decide +kernel
theorem d_A_byteOf_4 : decode prog_7_method_5_code 4 = .ok (.iload_n 2, 1) := by decide +kernel
theorem d_A_byteOf_5 : decode prog_7_method_5_code 5 = .ok (.iadd, 1) := by decide +kernel
theorem d_A_byteOf_6 : decode prog_7_method_5_code 6 = .ok (.istore_n 3, 1) := by decide +kernel
theorem d_A_byteOf_7 : decode prog_7_method_5_code 7 = .ok (.iload_n 3, 1) := by decide +kernel
theorem d_A_byteOf_8 : decode prog_7_method_5_code 8 = .ok (.ifCond .lt 25, 3) := by decide +kernel
theorem d_A_byteOf_11 : decode prog_7_method_5_code 11 = .ok (.iload_n 3, 1) := by decide +kernel
theorem d_A_byteOf_12 : decode prog_7_method_5_code 12 = .ok (.aload_n 0, 1) := by decide +kernel
theorem d_A_byteOf_13 : decode prog_7_method_5_code 13 = .ok (.getfield 10, 3) := by decide +kernel
theorem d_A_byteOf_16 : decode prog_7_method_5_code 16 = .ok (.arraylength, 1) := by decide +kernel
theorem d_A_byteOf_17 : decode prog_7_method_5_code 17 = .ok (.if_icmp .ge 16, 3) := by decide +kernel
theorem d_A_byteOf_20 : decode prog_7_method_5_code 20 = .ok (.aload_n 0, 1) := by decide +kernel
theorem d_A_byteOf_21 : decode prog_7_method_5_code 21 = .ok (.getfield 10, 3) := by decide +kernel
theorem d_A_byteOf_24 : decode prog_7_method_5_code 24 = .ok (.iload_n 3, 1) := by decide +kernel
theorem d_A_byteOf_25 : decode prog_7_method_5_code 25 = .ok (.baload, 1) := by decide +kernel
theorem d_A_byteOf_26 : decode prog_7_method_5_code 26 = .ok (.sipush 255, 3) := by decide +kernel
theorem d_A_byteOf_29 : decode prog_7_method_5_code 29 = .ok (.iand, 1) := by decide +kernel
theorem d_A_byteOf_30 : decode prog_7_method_5_code 30 = .ok (.goto 4, 3) := by decide +kernel
theorem d_A_byteOf_33 : decode prog_7_method_5_code 33 = .ok (.iconst 0, 1) := by decide +kernel
theorem d_A_byteOf_34 : decode prog_7_method_5_code 34 = .ok (.ireturn, 1) := by decide +kernel
theorem d_A_put_0 : decode prog_7_method_4_code 0 = .ok (.aload_n 1, 1) := by decide +kernel
theorem d_A_put_1 : decode prog_7_method_4_code 1 = .ok (.getfield 34, 3) := by decide +kernel
theorem d_A_put_4 : decode prog_7_method_4_code 4 = .ok (.i2l, 1) := by decide +kernel
theorem d_A_put_5 : decode prog_7_method_4_code 5 = .ok (.aload_n 1, 1) := by decide +kernel
theorem d_A_put_6 : decode prog_7_method_4_code 6 = .ok (.getfield 37, 3) := by decide +kernel
theorem d_A_put_9 : decode prog_7_method_4_code 9 = .ok (.lcmp, 1) := by decide +kernel
theorem d_A_put_10 : decode prog_7_method_4_code 10 = .ok (.ifCond .lt 6, 3) := by decide +kernel
theorem d_A_put_13 : decode prog_7_method_4_code 13 = .ok (.bipush (-20), 2) := by decide +kernel
theorem d_A_put_15 : decode prog_7_method_4_code 15 = .ok (.ireturn, 1) := by decide +kernel
theorem d_A_put_16 : decode prog_7_method_4_code 16 = .ok (.aload_n 1, 1) := by decide +kernel
theorem d_A_put_17 : decode prog_7_method_4_code 17 = .ok (.getfield 34, 3) := by decide +kernel
theorem d_A_put_20 : decode prog_7_method_4_code 20 = .ok (.i2l, 1) := by decide +kernel
theorem d_A_put_21 : decode prog_7_method_4_code 21 = .ok (.aload_n 0, 1) := by decide +kernel
theorem d_A_put_22 : decode prog_7_method_4_code 22 = .ok (.getfield 20, 3) := by decide +kernel
theorem d_A_put_25 : decode prog_7_method_4_code 25 = .ok (.i2l, 1) := by decide +kernel
theorem d_A_put_26 : decode prog_7_method_4_code 26 = .ok (.aload_n 1, 1) := by decide +kernel
theorem d_A_put_27 : decode prog_7_method_4_code 27 = .ok (.getfield 41, 3) := by decide +kernel
theorem d_A_put_30 : decode prog_7_method_4_code 30 = .ok (.i2l, 1) := by decide +kernel
theorem d_A_put_31 : decode prog_7_method_4_code 31 = .ok (.lmul, 1) := by decide +kernel
theorem d_A_put_32 : decode prog_7_method_4_code 32 = .ok (.ldc2_w 44, 3) := by decide +kernel
theorem d_A_put_35 : decode prog_7_method_4_code 35 = .ok (.ladd, 1) := by decide +kernel
theorem d_A_put_36 : decode prog_7_method_4_code 36 = .ok (.lcmp, 1) := by decide +kernel
theorem d_A_put_37 : decode prog_7_method_4_code 37 = .ok (.ifCond .lt 6, 3) := by decide +kernel
theorem d_A_put_40 : decode prog_7_method_4_code 40 = .ok (.bipush (-21), 2) := by decide +kernel
theorem d_A_put_42 : decode prog_7_method_4_code 42 = .ok (.ireturn, 1) := by decide +kernel
theorem d_A_put_43 : decode prog_7_method_4_code 43 = .ok (.aload_n 0, 1) := by decide +kernel
theorem d_A_put_44 : decode prog_7_method_4_code 44 = .ok (.getfield 23, 3) := by decide +kernel
theorem d_A_put_47 : decode prog_7_method_4_code 47 = .ok (.aload_n 0, 1) := by decide +kernel
theorem d_A_put_48 : decode prog_7_method_4_code 48 = .ok (.getfield 16, 3) := by decide +kernel
theorem d_A_put_51 : decode prog_7_method_4_code 51 = .ok (.if_icmp .ge 15, 3) := by decide +kernel
theorem d_A_put_54 : decode prog_7_method_4_code 54 = .ok (.aload_n 0, 1) := by decide +kernel
theorem d_A_put_55 : decode prog_7_method_4_code 55 = .ok (.getfield 23, 3) := by decide +kernel
theorem d_A_put_58 : decode prog_7_method_4_code 58 = .ok (.aload_n 0, 1) := by decide +kernel
theorem d_A_put_59 : decode prog_7_method_4_code 59 = .ok (.getfield 10, 3) := by decide +kernel
theorem d_A_put_62 : decode prog_7_method_4_code 62 = .ok (.arraylength, 1) := by decide +kernel
theorem d_A_put_63 : decode prog_7_method_4_code 63 = .ok (.if_icmp .lt 6, 3) := by decide +kernel
theorem d_A_put_66 : decode prog_7_method_4_code 66 = .ok (.bipush (-22), 2) := by decide +kernel
theorem d_A_put_68 : decode prog_7_method_4_code 68 = .ok (.ireturn, 1) := by decide +kernel
theorem d_A_put_69 : decode prog_7_method_4_code 69 = .ok (.aload_n 0, 1) := by decide +kernel
theorem d_A_put_70 : decode prog_7_method_4_code 70 = .ok (.getfield 10, 3) := by decide +kernel
theorem d_A_put_73 : decode prog_7_method_4_code 73 = .ok (.aload_n 0, 1) := by decide +kernel
theorem d_A_put_74 : decode prog_7_method_4_code 74 = .ok (.getfield 23, 3) := by decide +kernel
theorem d_A_put_77 : decode prog_7_method_4_code 77 = .ok (.iload_n 2, 1) := by decide +kernel
theorem d_A_put_78 : decode prog_7_method_4_code 78 = .ok (.i2b, 1) := by decide +kernel
theorem d_A_put_79 : decode prog_7_method_4_code 79 = .ok (.bastore, 1) := by decide +kernel
theorem d_A_put_80 : decode prog_7_method_4_code 80 = .ok (.aload_n 0, 1) := by decide +kernel
theorem d_A_put_81 : decode prog_7_method_4_code 81 = .ok (.dup, 1) := by decide +kernel
theorem d_A_put_82 : decode prog_7_method_4_code 82 = .ok (.getfield 23, 3) := by decide +kernel
theorem d_A_put_85 : decode prog_7_method_4_code 85 = .ok (.iconst 1, 1) := by decide +kernel
theorem d_A_put_86 : decode prog_7_method_4_code 86 = .ok (.iadd, 1) := by decide +kernel
theorem d_A_put_87 : decode prog_7_method_4_code 87 = .ok (.putfield 23, 3) := by decide +kernel
theorem d_A_put_90 : decode prog_7_method_4_code 90 = .ok (.aload_n 1, 1) := by decide +kernel
theorem d_A_put_91 : decode prog_7_method_4_code 91 = .ok (.dup, 1) := by decide +kernel
theorem d_A_put_92 : decode prog_7_method_4_code 92 = .ok (.getfield 34, 3) := by decide +kernel
theorem d_A_put_95 : decode prog_7_method_4_code 95 = .ok (.iconst 1, 1) := by decide +kernel
theorem d_A_put_96 : decode prog_7_method_4_code 96 = .ok (.iadd, 1) := by decide +kernel
theorem d_A_put_97 : decode prog_7_method_4_code 97 = .ok (.putfield 34, 3) := by decide +kernel
theorem d_A_put_100 : decode prog_7_method_4_code 100 = .ok (.aload_n 0, 1) := by decide +kernel
theorem d_A_put_101 : decode prog_7_method_4_code 101 = .ok (.getfield 26, 3) := by decide +kernel
theorem d_A_put_104 : decode prog_7_method_4_code 104 = .ok (.iload_n 2, 1) := by decide +kernel
theorem d_A_put_105 : decode prog_7_method_4_code 105 = .ok (.ixor, 1) := by decide +kernel
theorem d_A_put_106 : decode prog_7_method_4_code 106 = .ok (.istore_n 3, 1) := by decide +kernel
theorem d_A_put_107 : decode prog_7_method_4_code 107 = .ok (.iload_n 3, 1) := by decide +kernel
theorem d_A_put_108 : decode prog_7_method_4_code 108 = .ok (.iconst 4, 1) := by decide +kernel
theorem d_A_put_109 : decode prog_7_method_4_code 109 = .ok (.iushr, 1) := by decide +kernel
theorem d_A_put_110 : decode prog_7_method_4_code 110 = .ok (.getstatic 46, 3) := by decide +kernel
theorem d_A_put_113 : decode prog_7_method_4_code 113 = .ok (.iload_n 3, 1) := by decide +kernel
theorem d_A_put_114 : decode prog_7_method_4_code 114 = .ok (.bipush 15, 2) := by decide +kernel
theorem d_A_put_116 : decode prog_7_method_4_code 116 = .ok (.iand, 1) := by decide +kernel
theorem d_A_put_117 : decode prog_7_method_4_code 117 = .ok (.iaload, 1) := by decide +kernel
theorem d_A_put_118 : decode prog_7_method_4_code 118 = .ok (.ixor, 1) := by decide +kernel
theorem d_A_put_119 : decode prog_7_method_4_code 119 = .ok (.istore_n 3, 1) := by decide +kernel
theorem d_A_put_120 : decode prog_7_method_4_code 120 = .ok (.aload_n 0, 1) := by decide +kernel
theorem d_A_put_121 : decode prog_7_method_4_code 121 = .ok (.iload_n 3, 1) := by decide +kernel
theorem d_A_put_122 : decode prog_7_method_4_code 122 = .ok (.iconst 4, 1) := by decide +kernel
theorem d_A_put_123 : decode prog_7_method_4_code 123 = .ok (.iushr, 1) := by decide +kernel
theorem d_A_put_124 : decode prog_7_method_4_code 124 = .ok (.getstatic 46, 3) := by decide +kernel
theorem d_A_put_127 : decode prog_7_method_4_code 127 = .ok (.iload_n 3, 1) := by decide +kernel
theorem d_A_put_128 : decode prog_7_method_4_code 128 = .ok (.bipush 15, 2) := by decide +kernel
theorem d_A_put_130 : decode prog_7_method_4_code 130 = .ok (.iand, 1) := by decide +kernel
theorem d_A_put_131 : decode prog_7_method_4_code 131 = .ok (.iaload, 1) := by decide +kernel
theorem d_A_put_132 : decode prog_7_method_4_code 132 = .ok (.ixor, 1) := by decide +kernel
theorem d_A_put_133 : decode prog_7_method_4_code 133 = .ok (.putfield 26, 3) := by decide +kernel
theorem d_A_put_136 : decode prog_7_method_4_code 136 = .ok (.iconst 0, 1) := by decide +kernel
theorem d_A_put_137 : decode prog_7_method_4_code 137 = .ok (.ireturn, 1) := by decide +kernel
theorem d_A_sumSinceBegin_0 : decode prog_7_method_6_code 0 = .ok (.aload_n 0, 1) := by decide +kernel
theorem d_A_sumSinceBegin_1 : decode prog_7_method_6_code 1 = .ok (.getfield 26, 3) := by decide +kernel
theorem d_A_sumSinceBegin_4 : decode prog_7_method_6_code 4 = .ok (.iconst (-1), 1) := by decide +kernel
theorem d_A_sumSinceBegin_5 : decode prog_7_method_6_code 5 = .ok (.ixor, 1) := by decide +kernel
theorem d_A_sumSinceBegin_6 : decode prog_7_method_6_code 6 = .ok (.ireturn, 1) := by decide +kernel
set_option maxHeartbeats 4000000 in
set_option maxRecDepth 100000 in
theorem c_A_beg (l : Launch) (D : va_G) (sz : Nat) (qa : Nat) (qo : Nat) (qe : Nat) (ks : Int32) (bu : Int32) (ra : Int32) (to : Int32) (en : Nat) (nl : Int32) (fo : Int32) (me : Int32) (pk : Int32) (zz : Int64) (su : Int32) (lp : Int32) (pp : Int32) (sa : Int32) (op : Int32) (ol : Int32)  : Met l y_A_begin (Cond.code y_A_begin prog_7_method_3_code 2 (Option.none : Option Jvm.ClassFile.FieldType) :: zt) { frames := 0, cells := 0, slots := 0, locals := 0 } (zPc [.ref qa, .ref qe] D [(qa, .inr (3, [.int bu, .int ra, .int to, .ref qo, .int ks])), (qe, .inr (7, [.ref en, .int nl, .int fo, .int me, .int pk, .long zz, .int su, .int lp, .int pp, .int sa, .int op, .int ol]))] [] sz (fun _ => True)) (va_Qv (fun (_ : Unit) => True) (fun u9 t => zB D ((fun (_ : Unit) => [(qa, .inr (3, [.int bu, .int ra, .int to, .ref qo, .int (-1)])), (qe, .inr (7, [.ref en, .int nl, .int fo, .int me, .int pk, .long zz, .int su, .int lp, .int pp, .int sa, .int to, .int 0]))]) u9) ((fun (_ : Unit) => []) u9) (va_A [(qa, .inr (3, [.int bu, .int ra, .int to, .ref qo, .int ks])), (qe, .inr (7, [.ref en, .int nl, .int fo, .int me, .int pk, .long zz, .int su, .int lp, .int pp, .int sa, .int op, .int ol]))] sz) t) (va_A [(qa, .inr (3, [.int bu, .int ra, .int to, .ref qo, .int ks])), (qe, .inr (7, [.ref en, .int nl, .int fo, .int me, .int pk, .long zz, .int su, .int lp, .int pp, .int sa, .int op, .int ol]))] sz)) 0 0 (va_A [(qa, .inr (3, [.int bu, .int ra, .int to, .ref qo, .int ks])), (qe, .inr (7, [.ref en, .int nl, .int fo, .int me, .int pk, .long zz, .int su, .int lp, .int pp, .int sa, .int op, .int ol]))] sz) :=
  zMet (Qf := fun A => va_Qv (fun (_ : Unit) => True) (fun u9 t => zB D ((fun (_ : Unit) => [(qa, .inr (3, [.int bu, .int ra, .int to, .ref qo, .int (-1)])), (qe, .inr (7, [.ref en, .int nl, .int fo, .int me, .int pk, .long zz, .int su, .int lp, .int pp, .int sa, .int to, .int 0]))]) u9) ((fun (_ : Unit) => []) u9) A t) A) (by decide) (Nat.le_of_ble_eq_true rfl) (fun p e s m below meth c A ls hx hb hr hml hown ht hlk hnm hA hK hP hD hX hl => by
    have hS : va_S A s.heap s.heap [] := va_S.rf
    have hl : lv_has ls 2 [(0, .ref qa), (1, .ref qe)] := hl
    refine lv_aload_n hx hb d_A_begin_0 rfl (lv_at hl 1 rfl) ?_
    refine lv_aload_n hx hb d_A_begin_1 rfl (lv_at hl 0 rfl) ?_
    refine va_get (ci := 3) (C := "ZipGuard$Target") (T := F_A) (N := 5) hx hb ht zi_A hown hK hP 0 rfl rfl 2 (by decide) (ht _ zm_210) (fun _ h9 => h9) rfl d_A_begin_2 ?_
    refine va_put (ci := 7) (v := .int to) (ty := .int) (C := "ZipGuard$Entry") (T := F_E) (N := 12) hx hb ht zi_E ty_E tk_E nm_E hown hK hP hD hS 1 rfl rfl 10 (by decide) (ht _ zm_149) (fun _ h9 => h9) rfl (by decide +kernel) rfl rfl (Nat.le_of_ble_eq_true rfl) d_A_begin_5 (fun H locs hP hD hS => ?_)
    have hP : va_P D zcl [(qa, .inr (3, [.int bu, .int ra, .int to, .ref qo, .int ks])), (qe, .inr (7, [.ref en, .int nl, .int fo, .int me, .int pk, .long zz, .int su, .int lp, .int pp, .int sa, .int to, .int ol]))] H := hP
    have hD : va_D A [(qa, .inr (3, [.int bu, .int ra, .int to, .ref qo, .int ks])), (qe, .inr (7, [.ref en, .int nl, .int fo, .int me, .int pk, .long zz, .int su, .int lp, .int pp, .int sa, .int to, .int ol]))] := hD
    refine lv_aload_n hx hb d_A_begin_8 rfl (lv_at hl 1 rfl) ?_
    refine lv_iconst (v := 0) hx hb d_A_begin_9 (by decide) ?_
    refine va_put (ci := 7) (v := .int 0) (ty := .int) (C := "ZipGuard$Entry") (T := F_E) (N := 12) hx hb ht zi_E ty_E tk_E nm_E hown hK hP hD hS 1 rfl rfl 11 (by decide) (ht _ zm_151) (fun _ h9 => h9) rfl (by decide +kernel) rfl rfl (Nat.le_of_ble_eq_true rfl) d_A_begin_10 (fun H locs hP hD hS => ?_)
    have hP : va_P D zcl [(qa, .inr (3, [.int bu, .int ra, .int to, .ref qo, .int ks])), (qe, .inr (7, [.ref en, .int nl, .int fo, .int me, .int pk, .long zz, .int su, .int lp, .int pp, .int sa, .int to, .int 0]))] H := hP
    have hD : va_D A [(qa, .inr (3, [.int bu, .int ra, .int to, .ref qo, .int ks])), (qe, .inr (7, [.ref en, .int nl, .int fo, .int me, .int pk, .long zz, .int su, .int lp, .int pp, .int sa, .int to, .int 0]))] := hD
    refine lv_aload_n hx hb d_A_begin_13 rfl (lv_at hl 0 rfl) ?_
    refine lv_iconst (v := (-1)) hx hb d_A_begin_14 (by decide) ?_
    refine va_put (ci := 3) (v := .int (-1)) (ty := .int) (C := "ZipGuard$Target") (T := F_A) (N := 5) hx hb ht zi_A ty_A tk_A nm_A hown hK hP hD hS 0 rfl rfl 4 (by decide) (ht _ zm_213) (fun _ h9 => h9) rfl (by decide +kernel) rfl rfl (Nat.le_of_ble_eq_true rfl) d_A_begin_15 (fun H locs hP hD hS => ?_)
    have hP : va_P D zcl [(qa, .inr (3, [.int bu, .int ra, .int to, .ref qo, .int (-1)])), (qe, .inr (7, [.ref en, .int nl, .int fo, .int me, .int pk, .long zz, .int su, .int lp, .int pp, .int sa, .int to, .int 0]))] H := hP
    have hD : va_D A [(qa, .inr (3, [.int bu, .int ra, .int to, .ref qo, .int (-1)])), (qe, .inr (7, [.ref en, .int nl, .int fo, .int me, .int pk, .long zz, .int su, .int lp, .int pp, .int sa, .int to, .int 0]))] := hD
    exact zretv hx hb hr hlk hK hP hD hS () [0, 1] [] rfl (by decide) rfl (trivial) (Nat.le_of_ble_eq_true rfl) (Nat.le_of_ble_eq_true rfl) d_A_begin_18)
set_option maxHeartbeats 4000000 in
set_option maxRecDepth 100000 in
theorem c_A_put (l : Launch) (D : va_G) (sz : Nat) (qa : Nat) (qo : Nat) (qe : Nat) (cO : ClassId) (ft : Nat → Int32) (ks : Int32) (bu : Nat) (ra : Nat) (to : Nat) (b : Int32) (en : Nat) (nl : Int32) (fo : Int32) (me : Int32) (pk : Nat) (zz : Int64) (su : Int32) (lp : Int32) (pp : Int32) (sa : Int32) (op : Int32) (ol : Nat) (hbu : bu ≤ 40000) (hto : to ≤ 40000) : Met l y_A_put (Cond.code y_A_put prog_7_method_4_code 4 (Option.some Jvm.ClassFile.FieldType.int) :: zt) { frames := 0, cells := 0, slots := 0, locals := 0 } (zPc [.ref qa, .ref qe, .int b] D [(qa, .inr (3, [.int (nI bu), .int (nI ra), .int (nI to), .ref qo, .int ks])), (qo, .inl (cO, 40000, .inl ft)), (qe, .inr (7, [.ref en, .int nl, .int fo, .int me, .int (nI pk), .long zz, .int su, .int lp, .int pp, .int sa, .int op, .int (nI ol)]))] [(cO, .byte)] sz (zXT [(qa, .inr (3, [.int (nI bu), .int (nI ra), .int (nI to), .ref qo, .int ks])), (qo, .inl (cO, 40000, .inl ft)), (qe, .inr (7, [.ref en, .int nl, .int fo, .int me, .int (nI pk), .long zz, .int su, .int lp, .int pp, .int sa, .int op, .int (nI ol)]))])) (va_Qi (fun (r : Int32) => fun (u9 : Nat × Nat × Int32 × (Nat → Int32)) => match u9 with | (to1, ol1, ks1, ft1) => r = (zput bu ra pk zz (to, ol, ks, ft) b).1 ∧ (to1, ol1, ks1, ft1) = (zput bu ra pk zz (to, ol, ks, ft) b).2) (fun u9 t => zB D ((fun (u9 : Nat × Nat × Int32 × (Nat → Int32)) => match u9 with | (to1, ol1, ks1, ft1) => [(qa, .inr (3, [.int (nI bu), .int (nI ra), .int (nI to1), .ref qo, .int ks1])), (qo, .inl (cO, 40000, .inl ft1)), (qe, .inr (7, [.ref en, .int nl, .int fo, .int me, .int (nI pk), .long zz, .int su, .int lp, .int pp, .int sa, .int op, .int (nI ol1)]))]) u9) ((fun (u9 : Nat × Nat × Int32 × (Nat → Int32)) => match u9 with | (to1, ol1, ks1, ft1) => [(cO, .byte)]) u9) (va_A [(qa, .inr (3, [.int (nI bu), .int (nI ra), .int (nI to), .ref qo, .int ks])), (qo, .inl (cO, 40000, .inl ft)), (qe, .inr (7, [.ref en, .int nl, .int fo, .int me, .int (nI pk), .long zz, .int su, .int lp, .int pp, .int sa, .int op, .int (nI ol)]))] sz) t) (va_A [(qa, .inr (3, [.int (nI bu), .int (nI ra), .int (nI to), .ref qo, .int ks])), (qo, .inl (cO, 40000, .inl ft)), (qe, .inr (7, [.ref en, .int nl, .int fo, .int me, .int (nI pk), .long zz, .int su, .int lp, .int pp, .int sa, .int op, .int (nI ol)]))] sz)) 0 0 (va_A [(qa, .inr (3, [.int (nI bu), .int (nI ra), .int (nI to), .ref qo, .int ks])), (qo, .inl (cO, 40000, .inl ft)), (qe, .inr (7, [.ref en, .int nl, .int fo, .int me, .int (nI pk), .long zz, .int su, .int lp, .int pp, .int sa, .int op, .int (nI ol)]))] sz) :=
  zMetA (Qf := fun A => va_Qi (fun (r : Int32) => fun (u9 : Nat × Nat × Int32 × (Nat → Int32)) => match u9 with | (to1, ol1, ks1, ft1) => r = (zput bu ra pk zz (to, ol, ks, ft) b).1 ∧ (to1, ol1, ks1, ft1) = (zput bu ra pk zz (to, ol, ks, ft) b).2) (fun u9 t => zB D ((fun (u9 : Nat × Nat × Int32 × (Nat → Int32)) => match u9 with | (to1, ol1, ks1, ft1) => [(qa, .inr (3, [.int (nI bu), .int (nI ra), .int (nI to1), .ref qo, .int ks1])), (qo, .inl (cO, 40000, .inl ft1)), (qe, .inr (7, [.ref en, .int nl, .int fo, .int me, .int (nI pk), .long zz, .int su, .int lp, .int pp, .int sa, .int op, .int (nI ol1)]))]) u9) ((fun (u9 : Nat × Nat × Int32 × (Nat → Int32)) => match u9 with | (to1, ol1, ks1, ft1) => [(cO, .byte)]) u9) A t) A) (by decide) (Nat.le_of_ble_eq_true rfl) (fun p e s m below meth c A ls hx hb hr hml hown ht hlk hnm hA hK hP hD hX hl => by
    have hS : va_S A s.heap s.heap [] := va_S.rf
    have hl : lv_has ls 4 [(0, .ref qa), (1, .ref qe), (2, .int b)] := hl
    obtain ⟨t0, hz0, hT0⟩ := hX _ ztm_0
    have hz0 : va_Z "ZipGuard$Target" "HALF_BYTE_SUMS" "[I" (.ref t0) A s s.heap := hz0
    have hT0 : va_T .int t0 16 (fun j => .int (ztab_0.getD j 0)) A s s.heap := hT0
    refine lv_aload_n hx hb d_A_put_0 rfl (lv_at hl 1 rfl) ?_
    refine va_get (ci := 7) (C := "ZipGuard$Entry") (T := F_E) (N := 12) hx hb ht zi_E hown hK hP 2 rfl rfl 11 (by decide) (ht _ zm_151) (fun _ h9 => h9) rfl d_A_put_1 ?_
    refine lv_i2l hx hb d_A_put_4 rfl ?_
    refine lv_aload_n hx hb d_A_put_5 rfl (lv_at hl 1 rfl) ?_
    refine va_get (ci := 7) (C := "ZipGuard$Entry") (T := F_E) (N := 12) hx hb ht zi_E hown hK hP 2 rfl rfl 5 (by decide) (ht _ zm_133) (fun _ h9 => h9) rfl d_A_put_6 ?_
    refine W.lcmp hx hb d_A_put_9 ?_
    by_cases h1 : (nI ol).toInt64 < zz
    · skip
      refine lv_if_lt (tgt := 16) hx hb d_A_put_10 (by decide) (fun _ => ?_) (fun h => absurd ((zcmp_lt _ _).mpr h1) h)
      refine lv_aload_n hx hb d_A_put_16 rfl (lv_at hl 1 rfl) ?_
      refine va_get (ci := 7) (C := "ZipGuard$Entry") (T := F_E) (N := 12) hx hb ht zi_E hown hK hP 2 rfl rfl 11 (by decide) (ht _ zm_151) (fun _ h9 => h9) rfl d_A_put_17 ?_
      refine lv_i2l hx hb d_A_put_20 rfl ?_
      refine lv_aload_n hx hb d_A_put_21 rfl (lv_at hl 0 rfl) ?_
      refine va_get (ci := 3) (C := "ZipGuard$Target") (T := F_A) (N := 5) hx hb ht zi_A hown hK hP 0 rfl rfl 1 (by decide) (ht _ zm_208) (fun _ h9 => h9) rfl d_A_put_22 ?_
      refine lv_i2l hx hb d_A_put_25 rfl ?_
      refine lv_aload_n hx hb d_A_put_26 rfl (lv_at hl 1 rfl) ?_
      refine va_get (ci := 7) (C := "ZipGuard$Entry") (T := F_E) (N := 12) hx hb ht zi_E hown hK hP 2 rfl rfl 4 (by decide) (ht _ zm_129) (fun _ h9 => h9) rfl d_A_put_27 ?_
      refine lv_i2l hx hb d_A_put_30 rfl ?_
      refine lv_lmul hx hb d_A_put_31 ?_
      refine lv_ldc2 (v := 16) hx hb hown (ht _ zm_637) d_A_put_32 ?_
      refine lv_ladd hx hb d_A_put_35 ?_
      refine W.lcmp hx hb d_A_put_36 ?_
      by_cases h2 : (nI ol).toInt64 < (nI ra).toInt64 * (nI pk).toInt64 + 16
      · skip
        refine lv_if_lt (tgt := 43) hx hb d_A_put_37 (by decide) (fun _ => ?_) (fun h => absurd ((zcmp_lt _ _).mpr h2) h)
        refine lv_aload_n hx hb d_A_put_43 rfl (lv_at hl 0 rfl) ?_
        refine va_get (ci := 3) (C := "ZipGuard$Target") (T := F_A) (N := 5) hx hb ht zi_A hown hK hP 0 rfl rfl 2 (by decide) (ht _ zm_210) (fun _ h9 => h9) rfl d_A_put_44 ?_
        refine lv_aload_n hx hb d_A_put_47 rfl (lv_at hl 0 rfl) ?_
        refine va_get (ci := 3) (C := "ZipGuard$Target") (T := F_A) (N := 5) hx hb ht zi_A hown hK hP 0 rfl rfl 0 (by decide) (ht _ zm_206) (fun _ h9 => h9) rfl d_A_put_48 ?_
        by_cases h3 : bu ≤ to
        · skip
          refine lv_icmp_ge (tgt := 66) hx hb d_A_put_51 (by decide) (fun _ => ?_) (fun h => absurd (nI_le h3 (by omega)) h)
          refine lv_bipush (v := (-22)) hx hb d_A_put_66 (by decide) ?_
          exact zreti hx hb hr hlk hK hP hD hS (to, ol, ks, ft) [0, 1, 2] [0] rfl (by decide) rfl (by have h9 : zputR bu ra to ol pk zz = -22 := (by unfold zputR; rw [if_neg (not_not_intro h1), if_neg (not_not_intro h2), if_pos h3]); unfold zput; simp only [h9]; exact ⟨trivial, rfl⟩) (Nat.le_of_ble_eq_true rfl) (Nat.le_of_ble_eq_true rfl) d_A_put_68
        · skip
          refine lv_icmp_ge (tgt := 66) hx hb d_A_put_51 (by decide) (fun h => absurd h (nI_ge (by omega) (by omega))) (fun _ => ?_)
          refine lv_aload_n hx hb d_A_put_54 rfl (lv_at hl 0 rfl) ?_
          refine va_get (ci := 3) (C := "ZipGuard$Target") (T := F_A) (N := 5) hx hb ht zi_A hown hK hP 0 rfl rfl 2 (by decide) (ht _ zm_210) (fun _ h9 => h9) rfl d_A_put_55 ?_
          refine lv_aload_n hx hb d_A_put_58 rfl (lv_at hl 0 rfl) ?_
          refine va_get (ci := 3) (C := "ZipGuard$Target") (T := F_A) (N := 5) hx hb ht zi_A hown hK hP 0 rfl rfl 3 (by decide) (ht _ zm_212) (fun _ h9 => h9) rfl d_A_put_59 ?_
          refine va_alen (v := 40000) hx hb hK hP 1 0 rfl rfl rfl d_A_put_62 ?_
          refine lv_icmp_lt (tgt := 69) hx hb d_A_put_63 (by decide) (fun _ => ?_) (fun h => absurd (show nI to < nI 40000 from nI_lt (by omega) (by decide)) h)
          refine lv_aload_n hx hb d_A_put_69 rfl (lv_at hl 0 rfl) ?_
          refine va_get (ci := 3) (C := "ZipGuard$Target") (T := F_A) (N := 5) hx hb ht zi_A hown hK hP 0 rfl rfl 3 (by decide) (ht _ zm_212) (fun _ h9 => h9) rfl d_A_put_70 ?_
          refine lv_aload_n hx hb d_A_put_73 rfl (lv_at hl 0 rfl) ?_
          refine va_get (ci := 3) (C := "ZipGuard$Target") (T := F_A) (N := 5) hx hb ht zi_A hown hK hP 0 rfl rfl 2 (by decide) (ht _ zm_210) (fun _ h9 => h9) rfl d_A_put_74 ?_
          refine lv_iload_n hx hb d_A_put_77 rfl (lv_at hl 2 rfl) ?_
          refine lv_i2b hx hb d_A_put_78 rfl ?_
          refine va_bast hx hb hK hP hD hS 1 0 rfl rfl (vp_in_nI (by omega) (by decide)) d_A_put_79 (fun H locs hP hD hS => ?_)
          have hP : va_P D zcl [(qa, .inr (3, [.int (nI bu), .int (nI ra), .int (nI to), .ref qo, .int ks])), (qo, .inl (cO, 40000, .inl (upd ft (nI to).toNatClampNeg (vp_nar .byte b.toInt8.toInt32)))), (qe, .inr (7, [.ref en, .int nl, .int fo, .int me, .int (nI pk), .long zz, .int su, .int lp, .int pp, .int sa, .int op, .int (nI ol)]))] H := hP
          have hD : va_D A [(qa, .inr (3, [.int (nI bu), .int (nI ra), .int (nI to), .ref qo, .int ks])), (qo, .inl (cO, 40000, .inl (upd ft (nI to).toNatClampNeg (vp_nar .byte b.toInt8.toInt32)))), (qe, .inr (7, [.ref en, .int nl, .int fo, .int me, .int (nI pk), .long zz, .int su, .int lp, .int pp, .int sa, .int op, .int (nI ol)]))] := hD
          rw [nI_clamp (by omega)] at hP hD
          refine lv_aload_n hx hb d_A_put_80 rfl (lv_at hl 0 rfl) ?_
          refine lv_dup hx hb d_A_put_81 rfl ?_
          refine va_get (ci := 3) (C := "ZipGuard$Target") (T := F_A) (N := 5) hx hb ht zi_A hown hK hP 0 rfl rfl 2 (by decide) (ht _ zm_210) (fun _ h9 => h9) rfl d_A_put_82 ?_
          refine lv_iconst (v := 1) hx hb d_A_put_85 (by decide) ?_
          refine lv_iadd hx hb d_A_put_86 ?_
          refine lv_topi (fun x6 e_x6 => ?_)
          have e_x6 : x6 = nI (to + 1) := by rw [e_x6]; exact (nI_succ to).symm
          subst e_x6
          refine va_put (ci := 3) (v := .int (nI (to + 1))) (ty := .int) (C := "ZipGuard$Target") (T := F_A) (N := 5) hx hb ht zi_A ty_A tk_A nm_A hown hK hP hD hS 0 rfl rfl 2 (by decide) (ht _ zm_210) (fun _ h9 => h9) rfl (by decide +kernel) rfl rfl (Nat.le_of_ble_eq_true rfl) d_A_put_87 (fun H locs hP hD hS => ?_)
          have hP : va_P D zcl [(qa, .inr (3, [.int (nI bu), .int (nI ra), .int (nI (to + 1)), .ref qo, .int ks])), (qo, .inl (cO, 40000, .inl (upd ft to (vp_nar .byte b.toInt8.toInt32)))), (qe, .inr (7, [.ref en, .int nl, .int fo, .int me, .int (nI pk), .long zz, .int su, .int lp, .int pp, .int sa, .int op, .int (nI ol)]))] H := hP
          have hD : va_D A [(qa, .inr (3, [.int (nI bu), .int (nI ra), .int (nI (to + 1)), .ref qo, .int ks])), (qo, .inl (cO, 40000, .inl (upd ft to (vp_nar .byte b.toInt8.toInt32)))), (qe, .inr (7, [.ref en, .int nl, .int fo, .int me, .int (nI pk), .long zz, .int su, .int lp, .int pp, .int sa, .int op, .int (nI ol)]))] := hD
          refine lv_aload_n hx hb d_A_put_90 rfl (lv_at hl 1 rfl) ?_
          refine lv_dup hx hb d_A_put_91 rfl ?_
          refine va_get (ci := 7) (C := "ZipGuard$Entry") (T := F_E) (N := 12) hx hb ht zi_E hown hK hP 2 rfl rfl 11 (by decide) (ht _ zm_151) (fun _ h9 => h9) rfl d_A_put_92 ?_
          refine lv_iconst (v := 1) hx hb d_A_put_95 (by decide) ?_
          refine lv_iadd hx hb d_A_put_96 ?_
          refine lv_topi (fun x7 e_x7 => ?_)
          have e_x7 : x7 = nI (ol + 1) := by rw [e_x7]; exact (nI_succ ol).symm
          subst e_x7
          refine va_put (ci := 7) (v := .int (nI (ol + 1))) (ty := .int) (C := "ZipGuard$Entry") (T := F_E) (N := 12) hx hb ht zi_E ty_E tk_E nm_E hown hK hP hD hS 2 rfl rfl 11 (by decide) (ht _ zm_151) (fun _ h9 => h9) rfl (by decide +kernel) rfl rfl (Nat.le_of_ble_eq_true rfl) d_A_put_97 (fun H locs hP hD hS => ?_)
          have hP : va_P D zcl [(qa, .inr (3, [.int (nI bu), .int (nI ra), .int (nI (to + 1)), .ref qo, .int ks])), (qo, .inl (cO, 40000, .inl (upd ft to (vp_nar .byte b.toInt8.toInt32)))), (qe, .inr (7, [.ref en, .int nl, .int fo, .int me, .int (nI pk), .long zz, .int su, .int lp, .int pp, .int sa, .int op, .int (nI (ol + 1))]))] H := hP
          have hD : va_D A [(qa, .inr (3, [.int (nI bu), .int (nI ra), .int (nI (to + 1)), .ref qo, .int ks])), (qo, .inl (cO, 40000, .inl (upd ft to (vp_nar .byte b.toInt8.toInt32)))), (qe, .inr (7, [.ref en, .int nl, .int fo, .int me, .int (nI pk), .long zz, .int su, .int lp, .int pp, .int sa, .int op, .int (nI (ol + 1))]))] := hD
          refine lv_aload_n hx hb d_A_put_100 rfl (lv_at hl 0 rfl) ?_
          refine va_get (ci := 3) (C := "ZipGuard$Target") (T := F_A) (N := 5) hx hb ht zi_A hown hK hP 0 rfl rfl 4 (by decide) (ht _ zm_213) (fun _ h9 => h9) rfl d_A_put_101 ?_
          refine lv_iload_n hx hb d_A_put_104 rfl (lv_at hl 2 rfl) ?_
          refine lv_ixor hx hb d_A_put_105 ?_
          refine lv_istore_n (lv' := [(3, .int (ks ^^^ b)), (0, .ref qa), (1, .ref qe), (2, .int b)]) hx hb d_A_put_106 rfl hl (by decide) rfl (fun ls hl => ?_)
          refine lv_iload_n hx hb d_A_put_107 rfl (lv_at hl 0 rfl) ?_
          refine lv_iconst (v := 4) hx hb d_A_put_108 (by decide) ?_
          refine lv_iushr hx hb d_A_put_109 rfl ?_
          refine va_gets hx hb hz0 hS hown (ht _ zm_638) (fun _ h9 => h9) d_A_put_110 ?_
          refine lv_iload_n hx hb d_A_put_113 rfl (lv_at hl 0 rfl) ?_
          refine lv_bipush (v := 15) hx hb d_A_put_114 (by decide) ?_
          refine lv_iand hx hb d_A_put_116 ?_
          refine va_ti (v := .int (ztab_0.getD ((ks ^^^ b) &&& 15).toNatClampNeg 0)) hx hb hT0 hS (zand15 _) rfl d_A_put_117 ?_
          refine lv_ixor hx hb d_A_put_118 ?_
          refine lv_topi (fun x8 e_x8 => ?_)
          have e_x8 : x8 = zhalf (ks ^^^ b) := by exact e_x8
          subst e_x8
          refine lv_istore_n (lv' := [(3, .int (zhalf (ks ^^^ b))), (0, .ref qa), (1, .ref qe), (2, .int b)]) hx hb d_A_put_119 rfl hl (by decide) rfl (fun ls hl => ?_)
          refine lv_aload_n hx hb d_A_put_120 rfl (lv_at hl 1 rfl) ?_
          refine lv_iload_n hx hb d_A_put_121 rfl (lv_at hl 0 rfl) ?_
          refine lv_iconst (v := 4) hx hb d_A_put_122 (by decide) ?_
          refine lv_iushr hx hb d_A_put_123 rfl ?_
          refine va_gets hx hb hz0 hS hown (ht _ zm_638) (fun _ h9 => h9) d_A_put_124 ?_
          refine lv_iload_n hx hb d_A_put_127 rfl (lv_at hl 0 rfl) ?_
          refine lv_bipush (v := 15) hx hb d_A_put_128 (by decide) ?_
          refine lv_iand hx hb d_A_put_130 ?_
          refine va_ti (v := .int (ztab_0.getD ((zhalf (ks ^^^ b)) &&& 15).toNatClampNeg 0)) hx hb hT0 hS (zand15 _) rfl d_A_put_131 ?_
          refine lv_ixor hx hb d_A_put_132 ?_
          refine lv_topi (fun x9 e_x9 => ?_)
          have e_x9 : x9 = zcrc ks b := by exact e_x9
          subst e_x9
          refine va_put (ci := 3) (v := .int (zcrc ks b)) (ty := .int) (C := "ZipGuard$Target") (T := F_A) (N := 5) hx hb ht zi_A ty_A tk_A nm_A hown hK hP hD hS 0 rfl rfl 4 (by decide) (ht _ zm_213) (fun _ h9 => h9) rfl (by decide +kernel) rfl rfl (Nat.le_of_ble_eq_true rfl) d_A_put_133 (fun H locs hP hD hS => ?_)
          have hP : va_P D zcl [(qa, .inr (3, [.int (nI bu), .int (nI ra), .int (nI (to + 1)), .ref qo, .int (zcrc ks b)])), (qo, .inl (cO, 40000, .inl (upd ft to (vp_nar .byte b.toInt8.toInt32)))), (qe, .inr (7, [.ref en, .int nl, .int fo, .int me, .int (nI pk), .long zz, .int su, .int lp, .int pp, .int sa, .int op, .int (nI (ol + 1))]))] H := hP
          have hD : va_D A [(qa, .inr (3, [.int (nI bu), .int (nI ra), .int (nI (to + 1)), .ref qo, .int (zcrc ks b)])), (qo, .inl (cO, 40000, .inl (upd ft to (vp_nar .byte b.toInt8.toInt32)))), (qe, .inr (7, [.ref en, .int nl, .int fo, .int me, .int (nI pk), .long zz, .int su, .int lp, .int pp, .int sa, .int op, .int (nI (ol + 1))]))] := hD
          refine lv_iconst (v := 0) hx hb d_A_put_136 (by decide) ?_
          exact zreti hx hb hr hlk hK hP hD hS (to + 1, ol + 1, zcrc ks b, upd ft to (vp_nar .byte b.toInt8.toInt32)) [0, 1, 2] [0] rfl (by decide) rfl (by have h9 : zputR bu ra to ol pk zz = 0 := (by unfold zputR; rw [if_neg (not_not_intro h1), if_neg (not_not_intro h2), if_neg h3]); unfold zput; simp only [h9, if_true]; exact ⟨trivial, trivial⟩) (Nat.le_of_ble_eq_true rfl) (Nat.le_of_ble_eq_true rfl) d_A_put_137
      · skip
        refine lv_if_lt (tgt := 43) hx hb d_A_put_37 (by decide) (fun h => absurd h (fun h => h2 ((zcmp_lt _ _).mp h))) (fun _ => ?_)
        refine lv_bipush (v := (-21)) hx hb d_A_put_40 (by decide) ?_
        exact zreti hx hb hr hlk hK hP hD hS (to, ol, ks, ft) [0, 1, 2] [0] rfl (by decide) rfl (by have h9 : zputR bu ra to ol pk zz = -21 := (by unfold zputR; rw [if_neg (not_not_intro h1), if_pos h2]); unfold zput; simp only [h9]; exact ⟨trivial, rfl⟩) (Nat.le_of_ble_eq_true rfl) (Nat.le_of_ble_eq_true rfl) d_A_put_42
    · skip
      refine lv_if_lt (tgt := 16) hx hb d_A_put_10 (by decide) (fun h => absurd h (fun h => h1 ((zcmp_lt _ _).mp h))) (fun _ => ?_)
      refine lv_bipush (v := (-20)) hx hb d_A_put_13 (by decide) ?_
      exact zreti hx hb hr hlk hK hP hD hS (to, ol, ks, ft) [0, 1, 2] [0] rfl (by decide) rfl (by have h9 : zputR bu ra to ol pk zz = -20 := (by unfold zputR; rw [if_pos h1]); unfold zput; simp only [h9]; exact ⟨trivial, rfl⟩) (Nat.le_of_ble_eq_true rfl) (Nat.le_of_ble_eq_true rfl) d_A_put_15)
set_option maxHeartbeats 4000000 in
set_option maxRecDepth 100000 in
theorem r_A_byte (l : Launch) (D : va_G) (qa : Nat) (qo : Nat) (qe : Nat) (cO : ClassId) (ft : Nat → Int32) (ks : Int32) (bu : Int32) (ra : Int32) (to : Int32) (k : Int32) (en : Nat) (nl : Int32) (fo : Int32) (me : Int32) (pk : Int32) (zz : Int64) (su : Int32) (lp : Int32) (pp : Int32) (sa : Int32) (op : Int32) (ol : Int32)  : Met l y_A_byteOf (Cond.code y_A_byteOf prog_7_method_5_code 4 (Option.some Jvm.ClassFile.FieldType.int) :: zt) { frames := 0, cells := 0, slots := 0, locals := 0 } (zPcR [.ref qa, .ref qe, .int k] D [(qa, .inr (3, [.int bu, .int ra, .int to, .ref qo, .int ks])), (qo, .inl (cO, 40000, .inl ft)), (qe, .inr (7, [.ref en, .int nl, .int fo, .int me, .int pk, .long zz, .int su, .int lp, .int pp, .int sa, .int op, .int ol]))] [(cO, .byte)] (fun _ => True)) (zQR (fun (r : Int32) => r = if (0 : Int) ≤ (op + k).toInt ∧ (op + k).toInt < 40000 then ft (op + k).toNatClampNeg &&& 255 else 0)) 0 0 (fun _ => False) :=
  zMetR (by decide) (Nat.le_of_ble_eq_true rfl) (fun p e s m below meth c ls hx hb hr hml hown ht hlk hK hP hX hl => by
    have hl : lv_has ls 4 [(0, .ref qa), (1, .ref qe), (2, .int k)] := hl
    refine lv_aload_n hx hb d_A_byteOf_0 rfl (lv_at hl 1 rfl) ?_
    refine va_get (ci := 7) (C := "ZipGuard$Entry") (T := F_E) (N := 12) hx hb ht zi_E hown hK hP 2 rfl rfl 10 (by decide) (ht _ zm_149) (fun _ h9 => h9) rfl d_A_byteOf_1 ?_
    refine lv_iload_n hx hb d_A_byteOf_4 rfl (lv_at hl 2 rfl) ?_
    refine lv_iadd hx hb d_A_byteOf_5 ?_
    refine lv_istore_n (lv' := [(3, .int (op + k)), (0, .ref qa), (1, .ref qe), (2, .int k)]) hx hb d_A_byteOf_6 rfl hl (by decide) rfl (fun ls hl => ?_)
    refine lv_iload_n hx hb d_A_byteOf_7 rfl (lv_at hl 0 rfl) ?_
    by_cases h1 : op + k < 0
    · skip
      refine lv_if_lt (tgt := 33) hx hb d_A_byteOf_8 (by decide) (fun _ => ?_) (fun h => absurd (h1) h)
      refine lv_iconst (v := 0) hx hb d_A_byteOf_33 (by decide) ?_
      exact zretR hx hb hr hlk (by rw [if_neg (fun h => by have h3 := Int32.lt_iff_toInt_lt.mp h1; rw [show (0 : Int32).toInt = 0 by decide] at h3; omega)]) d_A_byteOf_34
    · skip
      refine lv_if_lt (tgt := 33) hx hb d_A_byteOf_8 (by decide) (fun h => absurd h (h1)) (fun _ => ?_)
      refine lv_iload_n hx hb d_A_byteOf_11 rfl (lv_at hl 0 rfl) ?_
      refine lv_aload_n hx hb d_A_byteOf_12 rfl (lv_at hl 1 rfl) ?_
      refine va_get (ci := 3) (C := "ZipGuard$Target") (T := F_A) (N := 5) hx hb ht zi_A hown hK hP 0 rfl rfl 3 (by decide) (ht _ zm_212) (fun _ h9 => h9) rfl d_A_byteOf_13 ?_
      refine va_alen (v := 40000) hx hb hK hP 1 0 rfl rfl rfl d_A_byteOf_16 ?_
      by_cases h2 : op + k ≥ 40000
      · skip
        refine lv_icmp_ge (tgt := 33) hx hb d_A_byteOf_17 (by decide) (fun _ => ?_) (fun h => absurd (h2) h)
        refine lv_iconst (v := 0) hx hb d_A_byteOf_33 (by decide) ?_
        exact zretR hx hb hr hlk (by rw [if_neg (fun h => by have h4 := Int32.le_iff_toInt_le.mp h2; rw [show (40000 : Int32).toInt = 40000 by decide] at h4; omega)]) d_A_byteOf_34
      · skip
        refine lv_icmp_ge (tgt := 33) hx hb d_A_byteOf_17 (by decide) (fun h => absurd h (h2)) (fun _ => ?_)
        have h8 : (0 : Int) ≤ (op + k).toInt ∧ (op + k).toInt < 40000 := by have h4 := mt Int32.lt_iff_toInt_lt.mpr h1; have h5 := mt Int32.le_iff_toInt_le.mpr h2; rw [show (0 : Int32).toInt = 0 by decide] at h4; rw [show (40000 : Int32).toInt = 40000 by decide] at h5; omega
        have h3 : vp_in (op + k) 40000 := vp_in_iff.mpr (by omega)
        refine lv_aload_n hx hb d_A_byteOf_20 rfl (lv_at hl 1 rfl) ?_
        refine va_get (ci := 3) (C := "ZipGuard$Target") (T := F_A) (N := 5) hx hb ht zi_A hown hK hP 0 rfl rfl 3 (by decide) (ht _ zm_212) (fun _ h9 => h9) rfl d_A_byteOf_21 ?_
        refine lv_iload_n hx hb d_A_byteOf_24 rfl (lv_at hl 0 rfl) ?_
        refine va_bald hx hb hK hP 1 0 rfl rfl h3 d_A_byteOf_25 ?_
        refine lv_sipush (v := 255) hx hb d_A_byteOf_26 (by decide) ?_
        refine lv_iand hx hb d_A_byteOf_29 ?_
        refine lv_goto (tgt := 34) hx hb d_A_byteOf_30 (by decide) ?_
        exact zretR hx hb hr hlk (by rw [if_pos h8]) d_A_byteOf_34)
set_option maxHeartbeats 4000000 in
set_option maxRecDepth 100000 in
theorem r_A_sum (l : Launch) (D : va_G) (qa : Nat) (qo : Nat) (ks : Int32) (bu : Int32) (ra : Int32) (to : Int32)  : Met l y_A_sumSinceBegin (Cond.code y_A_sumSinceBegin prog_7_method_6_code 1 (Option.some Jvm.ClassFile.FieldType.int) :: zt) { frames := 0, cells := 0, slots := 0, locals := 0 } (zPcR [.ref qa] D [(qa, .inr (3, [.int bu, .int ra, .int to, .ref qo, .int ks]))] [] (fun _ => True)) (zQR (fun (r : Int32) => r = ks ^^^ (-1))) 0 0 (fun _ => False) :=
  zMetR (by decide) (Nat.le_of_ble_eq_true rfl) (fun p e s m below meth c ls hx hb hr hml hown ht hlk hK hP hX hl => by
    have hl : lv_has ls 1 [(0, .ref qa)] := hl
    refine lv_aload_n hx hb d_A_sumSinceBegin_0 rfl (lv_at hl 0 rfl) ?_
    refine va_get (ci := 3) (C := "ZipGuard$Target") (T := F_A) (N := 5) hx hb ht zi_A hown hK hP 0 rfl rfl 4 (by decide) (ht _ zm_213) (fun _ h9 => h9) rfl d_A_sumSinceBegin_1 ?_
    refine lv_iconst (v := (-1)) hx hb d_A_sumSinceBegin_4 (by decide) ?_
    refine lv_ixor hx hb d_A_sumSinceBegin_5 ?_
    exact zretR hx hb hr hlk (rfl) d_A_sumSinceBegin_6)
