theorem zbyte {op ol to dd : Nat} (ks : Int32) (ft : Nat → Int32) (hol : op + ol = to) (hto : to ≤ 40000) (hd : 1 ≤ dd) (hdo : dd ≤ ol) : (if (0 : Int) ≤ (nI op + nI (ol - dd)).toInt ∧ (nI op + nI (ol - dd)).toInt < 40000 then ft (nI op + nI (ol - dd)).toNatClampNeg &&& 255 else 0) = zback (to, ol, ks, ft) op dd := by
  have h1 : op + (ol - dd) = op + ol - dd := by omega
  rw [nI_add, h1, nI_toInt (by omega), if_pos (by omega), nI_clamp (by omega)]
  rfl
theorem zagain_inv {bu ra pk c dd : Nat} {zz : Int64} (hb : bu ≤ 40000) : ∀ (j : Nat) (o : zO), o.1 ≤ 40000 → c + o.2.1 = o.1 → (zagain bu ra pk zz c dd j o).2.1 ≤ 40000 ∧ c + (zagain bu ra pk zz c dd j o).2.2.1 = (zagain bu ra pk zz c dd j o).2.1 ∧ (zagain bu ra pk zz c dd j o).1 ≠ -30
  | 0, o, h1, h2 => ⟨h1, h2, show (0 : Int32) ≠ -30 by decide⟩
  | j + 1, o, h1, h2 => by
    have h3 := zput_inv (ra := ra) (pk := pk) (zz := zz) (b := zback o c dd) hb h1 h2
    unfold zagain
    rcases zput_cases bu ra pk zz o (zback o c dd) with h | ⟨_, h, h4⟩
    · rw [if_pos h]; exact zagain_inv hb j _ h3.1 h3.2
    · rw [if_neg h]; exact ⟨h3.1, h3.2, h4⟩
/-- a length and a distance: what is written again -/
def zwr (bu ra pk : Nat) (zz : Int64) (c ln dd : Nat) (o : zO) : Int32 × zO := if o.2.1 < dd then (-36, o) else zagain bu ra pk zz c dd ln o
theorem zwr_inv {bu ra pk c ln dd : Nat} {zz : Int64} {o : zO} (hb : bu ≤ 40000) (h1 : o.1 ≤ 40000) (h2 : c + o.2.1 = o.1) : (zwr bu ra pk zz c ln dd o).2.1 ≤ 40000 ∧ c + (zwr bu ra pk zz c ln dd o).2.2.1 = (zwr bu ra pk zz c ln dd o).2.1 ∧ (zwr bu ra pk zz c ln dd o).1 ≠ -30 := by
  unfold zwr
  split
  · exact ⟨h1, h2, show (-36 : Int32) ≠ -30 by decide⟩
  · exact zagain_inv hb ln o h1 h2
def zstored (f : Nat → Int32) (bh bu ra pk : Nat) (zz : Int64) (q : Nat) (o : zO) : Int32 × Nat × zO := if 8 * bh < 8 * ((q + 7) / 8) + 32 then (-30, q, o) else if nI (zbits f (8 * ((q + 7) / 8)) 16) ^^^ nI (zbits f (8 * ((q + 7) / 8) + 16) 16) = 65535 then zcopy f bh bu ra pk zz (zbits f (8 * ((q + 7) / 8)) 16) (8 * ((q + 7) / 8) + 32) o else (-31, 8 * ((q + 7) / 8) + 32, o)
set_option maxRecDepth 100000 in
theorem zm_18 : Jvm.Cond.selects "ZipGuard$Unpacker" ({ cls := "ZipGuard$Unpacker", name := "copyBytes", desc := "(LZipGuard$Entry;I)I" } : Jvm.MethodName) ({ cls := "ZipGuard$Unpacker", name := "copyBytes", desc := "(LZipGuard$Entry;I)I" } : Jvm.MethodName) ∈ zt := zt_mp (List.mem_of_getElem? (i := 18) rfl)
set_option maxRecDepth 100000 in
theorem zm_70 : Jvm.Cond.initialized "ZipGuard$Unpacker" ∈ zt := zt_m1 (List.mem_of_getElem? (i := 6) rfl)
set_option maxRecDepth 100000 in
theorem zm_626 : Jvm.Cond.methodLink "ZipGuard$Unpacker" (88 : Nat) ({ cls := "ZipGuard$Unpacker", name := "copyBytes", desc := "(LZipGuard$Entry;I)I" } : Jvm.MethodName) ∈ zt := zt_m4 (List.mem_of_getElem? (i := 115) rfl)
set_option maxRecDepth 100000 in
theorem zm_627 : Jvm.Cond.instanceMethod ({ cls := "ZipGuard$Unpacker", name := "copyBytes", desc := "(LZipGuard$Entry;I)I" } : Jvm.MethodName) ∈ zt := zt_m4 (List.mem_of_getElem? (i := 116) rfl)
set_option maxRecDepth 100000 in
theorem zm_628 : Jvm.Cond.code ({ cls := "ZipGuard$Unpacker", name := "copyBytes", desc := "(LZipGuard$Entry;I)I" } : Jvm.MethodName) prog_8_method_5_code (6 : Nat) (Option.some Jvm.ClassFile.FieldType.int) ∈ zt := zt_m4 (List.mem_of_getElem? (i := 117) rfl)
set_option maxRecDepth 100000 in
theorem zm_645 : Jvm.Cond.methodLink "ZipGuard$Unpacker" (134 : Nat) ({ cls := "ZipGuard$BitReader", name := "skipToFullByte", desc := "()V" } : Jvm.MethodName) ∈ zt := zt_m4 (List.mem_of_getElem? (i := 134) rfl)
set_option maxRecDepth 100000 in
theorem zm_646 : Jvm.Cond.instanceMethod ({ cls := "ZipGuard$BitReader", name := "skipToFullByte", desc := "()V" } : Jvm.MethodName) ∈ zt := zt_m4 (List.mem_of_getElem? (i := 135) rfl)
set_option maxRecDepth 100000 in
theorem zm_647 : Jvm.Cond.selects "ZipGuard$BitReader" ({ cls := "ZipGuard$BitReader", name := "skipToFullByte", desc := "()V" } : Jvm.MethodName) ({ cls := "ZipGuard$BitReader", name := "skipToFullByte", desc := "()V" } : Jvm.MethodName) ∈ zt := zt_m4 (List.mem_of_getElem? (i := 136) rfl)
set_option maxRecDepth 100000 in
theorem zm_648 : Jvm.Cond.code ({ cls := "ZipGuard$BitReader", name := "skipToFullByte", desc := "()V" } : Jvm.MethodName) prog_2_method_4_code (1 : Nat) (Option.none : Option Jvm.ClassFile.FieldType) ∈ zt := zt_m4 (List.mem_of_getElem? (i := 137) rfl)
set_option maxRecDepth 100000 in
theorem zm_649 : Jvm.Cond.constant "ZipGuard$Unpacker" (137 : Nat) (65535 : Int32) ∈ zt := zt_m4 (List.mem_of_getElem? (i := 138) rfl)
set_option maxRecDepth 100000 in
theorem zm_668 : Jvm.Cond.methodLink "ZipGuard$Unpacker" (183 : Nat) ({ cls := "ZipGuard$Target", name := "byteOf", desc := "(LZipGuard$Entry;I)I" } : Jvm.MethodName) ∈ zt := zt_m4 (List.mem_of_getElem? (i := 157) rfl)
set_option maxRecDepth 100000 in
theorem zm_669 : Jvm.Cond.instanceMethod ({ cls := "ZipGuard$Target", name := "byteOf", desc := "(LZipGuard$Entry;I)I" } : Jvm.MethodName) ∈ zt := zt_m4 (List.mem_of_getElem? (i := 158) rfl)
set_option maxRecDepth 100000 in
theorem zm_670 : Jvm.Cond.selects "ZipGuard$Target" ({ cls := "ZipGuard$Target", name := "byteOf", desc := "(LZipGuard$Entry;I)I" } : Jvm.MethodName) ({ cls := "ZipGuard$Target", name := "byteOf", desc := "(LZipGuard$Entry;I)I" } : Jvm.MethodName) ∈ zt := zt_m4 (List.mem_of_getElem? (i := 159) rfl)
set_option maxRecDepth 100000 in
theorem zm_671 : Jvm.Cond.code ({ cls := "ZipGuard$Target", name := "byteOf", desc := "(LZipGuard$Entry;I)I" } : Jvm.MethodName) prog_7_method_5_code (4 : Nat) (Option.some Jvm.ClassFile.FieldType.int) ∈ zt := zt_m4 (List.mem_of_getElem? (i := 160) rfl)
theorem d_U_unpackStored_0 : decode prog_8_method_7_code 0 = .ok (.aload_n 0, 1) := by decide +kernel
theorem d_U_unpackStored_1 : decode prog_8_method_7_code 1 = .ok (.getfield 18, 3) := by decide +kernel
theorem d_U_unpackStored_4 : decode prog_8_method_7_code 4 = .ok (.invokevirtual 134, 3) := by decide +kernel
theorem d_U_unpackStored_7 : decode prog_8_method_7_code 7 = .ok (.aload_n 0, 1) := by decide +kernel
theorem d_U_unpackStored_8 : decode prog_8_method_7_code 8 = .ok (.getfield 18, 3) := by decide +kernel
theorem d_U_unpackStored_11 : decode prog_8_method_7_code 11 = .ok (.bipush 16, 2) := by decide +kernel
theorem d_U_unpackStored_13 : decode prog_8_method_7_code 13 = .ok (.invokevirtual 117, 3) := by decide +kernel
theorem d_U_unpackStored_16 : decode prog_8_method_7_code 16 = .ok (.istore_n 2, 1) := by decide +kernel
theorem d_U_unpackStored_17 : decode prog_8_method_7_code 17 = .ok (.aload_n 0, 1) := by decide +kernel
theorem d_U_unpackStored_18 : decode prog_8_method_7_code 18 = .ok (.getfield 18, 3) := by decide +kernel
theorem d_U_unpackStored_21 : decode prog_8_method_7_code 21 = .ok (.bipush 16, 2) := by decide +kernel
theorem d_U_unpackStored_23 : decode prog_8_method_7_code 23 = .ok (.invokevirtual 117, 3) := by decide +kernel
theorem d_U_unpackStored_26 : decode prog_8_method_7_code 26 = .ok (.istore_n 3, 1) := by decide +kernel
theorem d_U_unpackStored_27 : decode prog_8_method_7_code 27 = .ok (.iload_n 2, 1) := by decide +kernel
theorem d_U_unpackStored_28 : decode prog_8_method_7_code 28 = .ok (.ifCond .lt 7, 3) := by decide +kernel
theorem d_U_unpackStored_31 : decode prog_8_method_7_code 31 = .ok (.iload_n 3, 1) := by decide +kernel
theorem d_U_unpackStored_32 : decode prog_8_method_7_code 32 = .ok (.ifCond .ge 6, 3) := by decide +kernel
theorem d_U_unpackStored_35 : decode prog_8_method_7_code 35 = .ok (.bipush (-30), 2) := by decide +kernel
theorem d_U_unpackStored_37 : decode prog_8_method_7_code 37 = .ok (.ireturn, 1) := by decide +kernel
theorem d_U_unpackStored_38 : decode prog_8_method_7_code 38 = .ok (.iload_n 2, 1) := by decide +kernel
theorem d_U_unpackStored_39 : decode prog_8_method_7_code 39 = .ok (.iload_n 3, 1) := by decide +kernel
theorem d_U_unpackStored_40 : decode prog_8_method_7_code 40 = .ok (.ixor, 1) := by decide +kernel
theorem d_U_unpackStored_41 : decode prog_8_method_7_code 41 = .ok (.ldc 137, 2) := by decide +kernel
theorem d_U_unpackStored_43 : decode prog_8_method_7_code 43 = .ok (.if_icmp .ne 12, 3) := by decide +kernel
theorem d_U_unpackStored_46 : decode prog_8_method_7_code 46 = .ok (.aload_n 0, 1) := by decide +kernel
theorem d_U_unpackStored_47 : decode prog_8_method_7_code 47 = .ok (.aload_n 1, 1) := by decide +kernel
theorem d_U_unpackStored_48 : decode prog_8_method_7_code 48 = .ok (.iload_n 2, 1) := by decide +kernel
theorem d_U_unpackStored_49 : decode prog_8_method_7_code 49 = .ok (.invokevirtual 88, 3) := by decide +kernel
theorem d_U_unpackStored_52 : decode prog_8_method_7_code 52 = .ok (.goto 5, 3) := by decide +kernel
theorem d_U_unpackStored_55 : decode prog_8_method_7_code 55 = .ok (.bipush (-31), 2) := by decide +kernel
theorem d_U_unpackStored_57 : decode prog_8_method_7_code 57 = .ok (.ireturn, 1) := by decide +kernel
theorem d_U_writeAgain_0 : decode prog_8_method_15_code 0 = .ok (.iload_n 3, 1) := by decide +kernel
theorem d_U_writeAgain_1 : decode prog_8_method_15_code 1 = .ok (.aload_n 1, 1) := by decide +kernel
theorem d_U_writeAgain_2 : decode prog_8_method_15_code 2 = .ok (.getfield 99, 3) := by decide +kernel
theorem d_U_writeAgain_5 : decode prog_8_method_15_code 5 = .ok (.if_icmp .le 6, 3) := by decide +kernel
theorem d_U_writeAgain_8 : decode prog_8_method_15_code 8 = .ok (.bipush (-36), 2) := by decide +kernel
theorem d_U_writeAgain_10 : decode prog_8_method_15_code 10 = .ok (.ireturn, 1) := by decide +kernel
theorem d_U_writeAgain_11 : decode prog_8_method_15_code 11 = .ok (.iconst 0, 1) := by decide +kernel
theorem d_U_writeAgain_12 : decode prog_8_method_15_code 12 = .ok (.istore 4, 2) := by decide +kernel
theorem d_U_writeAgain_14 : decode prog_8_method_15_code 14 = .ok (.iload 4, 2) := by decide +kernel
theorem d_U_writeAgain_16 : decode prog_8_method_15_code 16 = .ok (.iload_n 2, 1) := by decide +kernel
theorem d_U_writeAgain_17 : decode prog_8_method_15_code 17 = .ok (.if_icmp .ge 45, 3) := by decide +kernel
theorem d_U_writeAgain_20 : decode prog_8_method_15_code 20 = .ok (.aload_n 0, 1) := by decide +kernel
theorem d_U_writeAgain_21 : decode prog_8_method_15_code 21 = .ok (.getfield 7, 3) := by decide +kernel
theorem d_U_writeAgain_24 : decode prog_8_method_15_code 24 = .ok (.aload_n 1, 1) := by decide +kernel
theorem d_U_writeAgain_25 : decode prog_8_method_15_code 25 = .ok (.aload_n 1, 1) := by decide +kernel
theorem d_U_writeAgain_26 : decode prog_8_method_15_code 26 = .ok (.getfield 99, 3) := by decide +kernel
theorem d_U_writeAgain_29 : decode prog_8_method_15_code 29 = .ok (.iload_n 3, 1) := by decide +kernel
theorem d_U_writeAgain_30 : decode prog_8_method_15_code 30 = .ok (.isub, 1) := by decide +kernel
theorem d_U_writeAgain_31 : decode prog_8_method_15_code 31 = .ok (.invokevirtual 183, 3) := by decide +kernel
theorem d_U_writeAgain_34 : decode prog_8_method_15_code 34 = .ok (.istore 5, 2) := by decide +kernel
theorem d_U_writeAgain_36 : decode prog_8_method_15_code 36 = .ok (.aload_n 0, 1) := by decide +kernel
theorem d_U_writeAgain_37 : decode prog_8_method_15_code 37 = .ok (.getfield 7, 3) := by decide +kernel
theorem d_U_writeAgain_40 : decode prog_8_method_15_code 40 = .ok (.aload_n 1, 1) := by decide +kernel
theorem d_U_writeAgain_41 : decode prog_8_method_15_code 41 = .ok (.iload 5, 2) := by decide +kernel
theorem d_U_writeAgain_43 : decode prog_8_method_15_code 43 = .ok (.invokevirtual 121, 3) := by decide +kernel
theorem d_U_writeAgain_46 : decode prog_8_method_15_code 46 = .ok (.istore 6, 2) := by decide +kernel
theorem d_U_writeAgain_48 : decode prog_8_method_15_code 48 = .ok (.iload 6, 2) := by decide +kernel
theorem d_U_writeAgain_50 : decode prog_8_method_15_code 50 = .ok (.ifCond .ge 6, 3) := by decide +kernel
theorem d_U_writeAgain_53 : decode prog_8_method_15_code 53 = .ok (.iload 6, 2) := by decide +kernel
theorem d_U_writeAgain_55 : decode prog_8_method_15_code 55 = .ok (.ireturn, 1) := by decide +kernel
theorem d_U_writeAgain_56 : decode prog_8_method_15_code 56 = .ok (.iinc 4 1, 3) := by decide +kernel
theorem d_U_writeAgain_59 : decode prog_8_method_15_code 59 = .ok (.goto (-45), 3) := by decide +kernel
theorem d_U_writeAgain_62 : decode prog_8_method_15_code 62 = .ok (.iconst 0, 1) := by decide +kernel
theorem d_U_writeAgain_63 : decode prog_8_method_15_code 63 = .ok (.ireturn, 1) := by decide +kernel
set_option maxHeartbeats 4000000 in
set_option maxRecDepth 100000 in
theorem lp_U_wr {p : Program} {l : Launch} {e : Env} {R : Room} {s : State} {m : MethodId} {args : Array Value} {below : List Frame} {meth : Method} {c : Code} {cells slots : Nat} {Q : State → Prop} {A : Nat → Prop} {D : va_G} (hx : p.tables.exec = Jvm.exec) (hb : c.code = prog_8_method_15_code) (hml : c.maxLocals = 7) (hown : s.vm.findClass "ZipGuard$Unpacker" = some m.cls) (ht : ∀ w ∈ zt, w.before args s = true) (hA : ∀ q, s.heap.size ≤ q → A q) (qu : Nat) (qw : Nat) (s1 : Nat) (s2 : Nat) (s3 : Nat) (s4 : Nat) (s5 : Nat) (qr : Nat) (qa : Nat) (qo : Nat) (qe : Nat) (cO : ClassId) (bu : Nat) (ra : Nat) (en : Nat) (nl : Int32) (fo : Int32) (me : Int32) (pk : Nat) (zz : Int64) (su : Int32) (lp : Int32) (pp : Int32) (sa : Int32) (op : Nat) (ln : Nat) (dd : Nat) (RES : Int32 × zO) (hbu : bu ≤ 40000) (hln : ln < 2 ^ 31) (hdd : 1 ≤ dd) (hd2 : dd < 2 ^ 31) (hX : zTab A s) (hF0 : 0 + 1 ≤ R.frames) (hL0 : 8 + (4 + 11) + 0 ≤ R.locals) (hF1 : 0 + 1 ≤ R.frames) (hL1 : 8 + (4 + 11) + 0 ≤ R.locals) (hcc : cells + 0 ≤ R.cells) (hss : slots + 0 ≤ R.slots) (hK : va_K D zcl [(cO, .byte)] s) (k55 : ∀ (to1 ol1 : Nat) (ks1 : Int32) (ft1 : Nat → Int32) (H : Heap) (locs : List Loc) (ls : Array Slot) (v : Int32), (v, to1, ol1, ks1, ft1) = RES → va_P D zcl [(qu, .inr (4, [.ref qa, .ref qr, .ref qw, .ref s1, .ref s2, .ref s3, .ref s4, .ref s5])), (qa, .inr (3, [.int (nI bu), .int (nI ra), .int (nI to1), .ref qo, .int ks1])), (qo, .inl (cO, 40000, .inl ft1)), (qe, .inr (7, [.ref en, .int nl, .int fo, .int me, .int (nI pk), .long zz, .int su, .int lp, .int pp, .int sa, .int (nI op), .int (nI ol1)]))] H → va_D A [(qu, .inr (4, [.ref qa, .ref qr, .ref qw, .ref s1, .ref s2, .ref s3, .ref s4, .ref s5])), (qa, .inr (3, [.int (nI bu), .int (nI ra), .int (nI to1), .ref qo, .int ks1])), (qo, .inl (cO, 40000, .inl ft1)), (qe, .inr (7, [.ref en, .int nl, .int fo, .int me, .int (nI pk), .long zz, .int su, .int lp, .int pp, .int sa, .int (nI op), .int (nI ol1)]))] → va_S A s.heap H locs → lv_has ls 7 [] → W p l e R s m args below meth c H locs cells slots Q (F0 m 55 ls [.int v]))
    (kk : ∀ (to1 : Nat) (ol1 : Nat) (ks1 : Int32) (ft1 : Nat → Int32) (v : Int32) (H : Heap) (locs : List Loc) (ls : Array Slot), (v, to1, ol1, ks1, ft1) = RES → va_P D zcl [(qu, .inr (4, [.ref qa, .ref qr, .ref qw, .ref s1, .ref s2, .ref s3, .ref s4, .ref s5])), (qa, .inr (3, [.int (nI bu), .int (nI ra), .int (nI to1), .ref qo, .int ks1])), (qo, .inl (cO, 40000, .inl ft1)), (qe, .inr (7, [.ref en, .int nl, .int fo, .int me, .int (nI pk), .long zz, .int su, .int lp, .int pp, .int sa, .int (nI op), .int (nI ol1)]))] H → va_D A [(qu, .inr (4, [.ref qa, .ref qr, .ref qw, .ref s1, .ref s2, .ref s3, .ref s4, .ref s5])), (qa, .inr (3, [.int (nI bu), .int (nI ra), .int (nI to1), .ref qo, .int ks1])), (qo, .inl (cO, 40000, .inl ft1)), (qe, .inr (7, [.ref en, .int nl, .int fo, .int me, .int (nI pk), .long zz, .int su, .int lp, .int pp, .int sa, .int (nI op), .int (nI ol1)]))] → va_S A s.heap H locs → lv_has ls 7 [] → W p l e R s m args below meth c H locs cells slots Q (F0 m 63 ls [.int v])) :
    ∀ (j : Nat) (k : Nat) (to : Nat) (ol : Nat) (ks : Int32) (ft : Nat → Int32) (H : Heap) (locs : List Loc) (ls : Array Slot), k + j = ln → to ≤ 40000 → op + ol = to → dd ≤ ol → zagain bu ra pk zz op dd j (to, ol, ks, ft) = RES → va_P D zcl [(qu, .inr (4, [.ref qa, .ref qr, .ref qw, .ref s1, .ref s2, .ref s3, .ref s4, .ref s5])), (qa, .inr (3, [.int (nI bu), .int (nI ra), .int (nI to), .ref qo, .int ks])), (qo, .inl (cO, 40000, .inl ft)), (qe, .inr (7, [.ref en, .int nl, .int fo, .int me, .int (nI pk), .long zz, .int su, .int lp, .int pp, .int sa, .int (nI op), .int (nI ol)]))] H → va_D A [(qu, .inr (4, [.ref qa, .ref qr, .ref qw, .ref s1, .ref s2, .ref s3, .ref s4, .ref s5])), (qa, .inr (3, [.int (nI bu), .int (nI ra), .int (nI to), .ref qo, .int ks])), (qo, .inl (cO, 40000, .inl ft)), (qe, .inr (7, [.ref en, .int nl, .int fo, .int me, .int (nI pk), .long zz, .int su, .int lp, .int pp, .int sa, .int (nI op), .int (nI ol)]))] → va_S A s.heap H locs → lv_has ls 7 [(4, .int (nI k)), (0, .ref qu), (1, .ref qe), (2, .int (nI ln)), (3, .int (nI dd))] → W p l e R s m args below meth c H locs cells slots Q (F0 m 14 ls []) := by
  intro j
  induction j with
  | zero =>
    intro k to ol ks ft H locs ls hk hto hol hdo hR hP hD hS hl
    have hk : k = ln := by omega
    subst hk
    refine lv_iload hx hb d_U_writeAgain_14 (lv_at hl 0 rfl) ?_
    refine lv_iload_n hx hb d_U_writeAgain_16 rfl (lv_at hl 3 rfl) ?_
    refine lv_icmp_ge (tgt := 62) hx hb d_U_writeAgain_17 (by decide) (fun _ => ?_) (fun h => absurd (nI_le (by omega) (by omega)) h)
    refine lv_iconst (v := 0) hx hb d_U_writeAgain_62 (by decide) ?_
    exact kk to ol ks ft 0 H locs ls hR hP hD hS (lv_sub hl [] rfl)
  | succ j ih =>
    intro k to ol ks ft H locs ls hk hto hol hdo hR hP hD hS hl
    refine lv_iload hx hb d_U_writeAgain_14 (lv_at hl 0 rfl) ?_
    refine lv_iload_n hx hb d_U_writeAgain_16 rfl (lv_at hl 3 rfl) ?_
    refine lv_icmp_ge (tgt := 62) hx hb d_U_writeAgain_17 (by decide) (fun h => absurd h (nI_ge (by omega) (by omega))) (fun _ => ?_)
    refine lv_aload_n hx hb d_U_writeAgain_20 rfl (lv_at hl 1 rfl) ?_
    refine va_get (ci := 4) (C := "ZipGuard$Unpacker") (T := F_U) (N := 8) hx hb ht zi_U hown hK hP 0 rfl rfl 0 (by decide) (ht _ zm_370) (fun _ h9 => h9) rfl d_U_writeAgain_21 ?_
    refine lv_aload_n hx hb d_U_writeAgain_24 rfl (lv_at hl 2 rfl) ?_
    refine lv_aload_n hx hb d_U_writeAgain_25 rfl (lv_at hl 2 rfl) ?_
    refine va_get (ci := 7) (C := "ZipGuard$Entry") (T := F_E) (N := 12) hx hb ht zi_E hown hK hP 3 rfl rfl 11 (by decide) (ht _ zm_152) (fun _ h9 => h9) rfl d_U_writeAgain_26 ?_
    refine lv_iload_n hx hb d_U_writeAgain_29 rfl (lv_at hl 4 rfl) ?_
    refine lv_isub hx hb d_U_writeAgain_30 ?_
    refine lv_topi (fun x3 e_x3 => ?_)
    have e_x3 : x3 = nI (ol - dd) := by rw [e_x3]; exact pk_sub hdo
    subst e_x3
    refine zjR (va_runV (As := [.ref qe, .int (nI (ol - dd))]) (rest := []) ⟨hx, hb, hml, hown, ht⟩ (r_A_byte l D qa qo qe cO ft ks (nI bu) (nI ra) (nI to) (nI (ol - dd)) en nl fo me (nI pk) zz su lp pp sa (nI op) (nI ol) ) (cwV 2 ht (zt_goodV zm_668 zm_669 zm_670 zm_69 zm_671) rfl rfl rfl (by decide +kernel) ⟨hF0, hL0⟩) (zpreRV zBlind_t hK hP [1, 2, 3] [0] rfl rfl (fun _ _ _ => trivial) (va_recv (q := ("ZipGuard$Target", F_A, 5)) hK hP rfl (q0 := 1) (ci := 3) rfl)) rfl rfl hl.1 rfl (lv_room (Nat.le_of_ble_eq_true rfl)) d_U_writeAgain_31 ⟨hcc, hss⟩) (fun r4 hp5 => ?_)
    rw [zbyte ks ft hol hto hdd hdo] at hp5
    have hp5 := hp5.symm
    subst hp5
    refine lv_istore (lv' := [(5, .int (zback (to, ol, ks, ft) op dd)), (4, .int (nI k)), (0, .ref qu), (1, .ref qe), (2, .int (nI ln)), (3, .int (nI dd))]) hx hb d_U_writeAgain_34 hl (by decide) rfl (fun ls hl => ?_)
    refine lv_aload_n hx hb d_U_writeAgain_36 rfl (lv_at hl 2 rfl) ?_
    refine va_get (ci := 4) (C := "ZipGuard$Unpacker") (T := F_U) (N := 8) hx hb ht zi_U hown hK hP 0 rfl rfl 0 (by decide) (ht _ zm_370) (fun _ h9 => h9) rfl d_U_writeAgain_37 ?_
    refine lv_aload_n hx hb d_U_writeAgain_40 rfl (lv_at hl 3 rfl) ?_
    refine lv_iload hx hb d_U_writeAgain_41 (lv_at hl 0 rfl) ?_
    refine zji (wr := [(qu, .inr (4, [.ref qa, .ref qr, .ref qw, .ref s1, .ref s2, .ref s3, .ref s4, .ref s5]))]) (va_runV (As := [.ref qe, .int (zback (to, ol, ks, ft) op dd)]) (rest := []) ⟨hx, hb, hml, hown, ht⟩ (c_A_put l D _ qa qo qe cO ft ks bu ra to (zback (to, ol, ks, ft) op dd) en nl fo me pk zz su lp pp sa (nI op) ol hbu hto) (cwV 2 ht (zt_goodV zm_633 zm_634 zm_635 zm_69 zm_636) rfl rfl rfl (by decide +kernel) ⟨hF1, hL1⟩) (zpreV (zBlind_XT _) hK hP hD [1, 2, 3] [0] rfl (by decide) rfl (zXT_call hX hD hS hA [1, 2, 3] rfl) (va_recv (q := ("ZipGuard$Target", F_A, 5)) hK hP rfl (q0 := 1) (ci := 3) rfl)) rfl rfl hl.1 rfl (lv_room (Nat.le_of_ble_eq_true rfl)) d_U_writeAgain_43 ⟨hcc, hss⟩) hK hP hD hS hA [1, 2, 3] [0] rfl rfl (by decide) (by decide) (fun r6 u9 H locs hp7 hP hD hK hS => ?_)
    obtain ⟨to1, ol1, ks1, ft1⟩ := u9
    dsimp only at hp7 hP hD hK
    have hP : va_P D zcl [(qu, .inr (4, [.ref qa, .ref qr, .ref qw, .ref s1, .ref s2, .ref s3, .ref s4, .ref s5])), (qa, .inr (3, [.int (nI bu), .int (nI ra), .int (nI to1), .ref qo, .int ks1])), (qo, .inl (cO, 40000, .inl ft1)), (qe, .inr (7, [.ref en, .int nl, .int fo, .int me, .int (nI pk), .long zz, .int su, .int lp, .int pp, .int sa, .int (nI op), .int (nI ol1)]))] H := hP
    have hD : va_D A [(qu, .inr (4, [.ref qa, .ref qr, .ref qw, .ref s1, .ref s2, .ref s3, .ref s4, .ref s5])), (qa, .inr (3, [.int (nI bu), .int (nI ra), .int (nI to1), .ref qo, .int ks1])), (qo, .inl (cO, 40000, .inl ft1)), (qe, .inr (7, [.ref en, .int nl, .int fo, .int me, .int (nI pk), .long zz, .int su, .int lp, .int pp, .int sa, .int (nI op), .int (nI ol1)]))] := hD
    have hK : va_K D zcl [(cO, .byte), (cO, .byte)] s := hK
    have hP := hP.sub (ws' := [(qu, .inr (4, [.ref qa, .ref qr, .ref qw, .ref s1, .ref s2, .ref s3, .ref s4, .ref s5])), (qa, .inr (3, [.int (nI bu), .int (nI ra), .int (nI to1), .ref qo, .int ks1])), (qo, .inl (cO, 40000, .inl ft1)), (qe, .inr (7, [.ref en, .int nl, .int fo, .int me, .int (nI pk), .long zz, .int su, .int lp, .int pp, .int sa, .int (nI op), .int (nI ol1)]))]) [0, 1, 2, 3] rfl
    have hD := hD.sub (ws' := [(qu, .inr (4, [.ref qa, .ref qr, .ref qw, .ref s1, .ref s2, .ref s3, .ref s4, .ref s5])), (qa, .inr (3, [.int (nI bu), .int (nI ra), .int (nI to1), .ref qo, .int ks1])), (qo, .inl (cO, 40000, .inl ft1)), (qe, .inr (7, [.ref en, .int nl, .int fo, .int me, .int (nI pk), .long zz, .int su, .int lp, .int pp, .int sa, .int (nI op), .int (nI ol1)]))]) [0, 1, 2, 3] (by decide) rfl
    have hK := hK.sub (tys' := [(cO, .byte)]) [0] rfl
    obtain ⟨hp7, hp9⟩ := hp7
    have hinv := zput_inv (bu := bu) (ra := ra) (pk := pk) (zz := zz) (o := (to, ol, ks, ft)) (b := zback (to, ol, ks, ft) op dd) (c := op) hbu hto hol
    unfold zagain at hR
    have hcs := zput_cases bu ra pk zz (to, ol, ks, ft) (zback (to, ol, ks, ft) op dd)
    have hup : ol ≤ ol1 := by have h9 : ol1 = (zput bu ra pk zz (to, ol, ks, ft) (zback (to, ol, ks, ft) op dd)).2.2.1 := (by rw [← hp9]); rw [h9]; unfold zput; split <;> simp
    rw [← hp9] at hinv
    rw [← hp7] at hcs
    dsimp only at hinv
    refine lv_istore (lv' := [(6, .int r6), (5, .int (zback (to, ol, ks, ft) op dd)), (4, .int (nI k)), (0, .ref qu), (1, .ref qe), (2, .int (nI ln)), (3, .int (nI dd))]) hx hb d_U_writeAgain_46 hl (by decide) rfl (fun ls hl => ?_)
    refine lv_iload hx hb d_U_writeAgain_48 (lv_at hl 0 rfl) ?_
    rcases hcs with h0 | ⟨h1, h2, h3⟩
    · skip
      rw [if_pos (by rw [← hp7]; exact h0), ← hp9] at hR
      refine lv_if_ge (tgt := 56) hx hb d_U_writeAgain_50 (by decide) (fun _ => ?_) (fun h => absurd (by rw [h0]; decide) h)
      refine lv_iinc (k := 2) (v := (nI k) + 1) (lv' := [(4, .int ((nI k) + 1)), (6, .int r6), (5, .int (zback (to, ol, ks, ft) op dd)), (0, .ref qu), (1, .ref qe), (2, .int (nI ln)), (3, .int (nI dd))]) hx hb d_U_writeAgain_56 hl rfl rfl (by decide) rfl (fun ls hl => ?_)
      refine lv_goto (tgt := 14) hx hb d_U_writeAgain_59 (by decide) ?_
      rw [nI_1] at hl
      exact ih (k + 1) to1 ol1 ks1 ft1 H locs ls (by omega) hinv.1 hinv.2 (by omega) hR hP hD hS (lv_sub hl [0, 3, 4, 5, 6] rfl)
    · skip
      rw [if_neg (by rw [← hp7]; exact h2)] at hR
      refine lv_if_ge (tgt := 56) hx hb d_U_writeAgain_50 (by decide) (fun h => absurd h (fun h => absurd h1 (by rw [Int32.lt_iff_toInt_lt]; have h9 := Int32.le_iff_toInt_le.mp h; omega))) (fun _ => ?_)
      refine lv_iload hx hb d_U_writeAgain_53 (lv_at hl 0 rfl) ?_
      exact k55 to1 ol1 ks1 ft1 H locs ls _ (by rw [← hR, hp9, hp7]) hP hD hS (lv_sub hl [] rfl)
set_option maxHeartbeats 4000000 in
set_option maxRecDepth 100000 in
theorem c_U_wr (l : Launch) (D : va_G) (sz : Nat) (qu : Nat) (qw : Nat) (s1 : Nat) (s2 : Nat) (s3 : Nat) (s4 : Nat) (s5 : Nat) (qr : Nat) (qa : Nat) (qo : Nat) (qe : Nat) (cO : ClassId) (bu : Nat) (ra : Nat) (en : Nat) (nl : Int32) (fo : Int32) (me : Int32) (pk : Nat) (zz : Int64) (su : Int32) (lp : Int32) (pp : Int32) (sa : Int32) (op : Nat) (ln : Nat) (dd : Nat) (to : Nat) (ol : Nat) (ks : Int32) (ft : Nat → Int32) (hbu : bu ≤ 40000) (hln : ln < 2 ^ 31) (hdd : 1 ≤ dd) (hd2 : dd < 2 ^ 31) (hto : to ≤ 40000) (hol : op + ol = to) : Met l y_U_writeAgain (Cond.code y_U_writeAgain prog_8_method_15_code 7 (Option.some Jvm.ClassFile.FieldType.int) :: zt) { frames := 1, cells := 0, slots := 0, locals := 23 } (zPc [.ref qu, .ref qe, .int (nI ln), .int (nI dd)] D [(qu, .inr (4, [.ref qa, .ref qr, .ref qw, .ref s1, .ref s2, .ref s3, .ref s4, .ref s5])), (qa, .inr (3, [.int (nI bu), .int (nI ra), .int (nI to), .ref qo, .int ks])), (qo, .inl (cO, 40000, .inl ft)), (qe, .inr (7, [.ref en, .int nl, .int fo, .int me, .int (nI pk), .long zz, .int su, .int lp, .int pp, .int sa, .int (nI op), .int (nI ol)]))] [(cO, .byte)] sz (zXT [(qu, .inr (4, [.ref qa, .ref qr, .ref qw, .ref s1, .ref s2, .ref s3, .ref s4, .ref s5])), (qa, .inr (3, [.int (nI bu), .int (nI ra), .int (nI to), .ref qo, .int ks])), (qo, .inl (cO, 40000, .inl ft)), (qe, .inr (7, [.ref en, .int nl, .int fo, .int me, .int (nI pk), .long zz, .int su, .int lp, .int pp, .int sa, .int (nI op), .int (nI ol)]))])) (va_Qi (fun (r : Int32) => fun (u9 : Nat × Nat × Int32 × (Nat → Int32)) => match u9 with | (to1, ol1, ks1, ft1) => (r, to1, ol1, ks1, ft1) = zwr bu ra pk zz op ln dd (to, ol, ks, ft)) (fun u9 t => zB D ((fun (u9 : Nat × Nat × Int32 × (Nat → Int32)) => match u9 with | (to1, ol1, ks1, ft1) => [(qu, .inr (4, [.ref qa, .ref qr, .ref qw, .ref s1, .ref s2, .ref s3, .ref s4, .ref s5])), (qa, .inr (3, [.int (nI bu), .int (nI ra), .int (nI to1), .ref qo, .int ks1])), (qo, .inl (cO, 40000, .inl ft1)), (qe, .inr (7, [.ref en, .int nl, .int fo, .int me, .int (nI pk), .long zz, .int su, .int lp, .int pp, .int sa, .int (nI op), .int (nI ol1)]))]) u9) ((fun (u9 : Nat × Nat × Int32 × (Nat → Int32)) => match u9 with | (to1, ol1, ks1, ft1) => [(cO, .byte)]) u9) (va_A [(qu, .inr (4, [.ref qa, .ref qr, .ref qw, .ref s1, .ref s2, .ref s3, .ref s4, .ref s5])), (qa, .inr (3, [.int (nI bu), .int (nI ra), .int (nI to), .ref qo, .int ks])), (qo, .inl (cO, 40000, .inl ft)), (qe, .inr (7, [.ref en, .int nl, .int fo, .int me, .int (nI pk), .long zz, .int su, .int lp, .int pp, .int sa, .int (nI op), .int (nI ol)]))] sz) t) (va_A [(qu, .inr (4, [.ref qa, .ref qr, .ref qw, .ref s1, .ref s2, .ref s3, .ref s4, .ref s5])), (qa, .inr (3, [.int (nI bu), .int (nI ra), .int (nI to), .ref qo, .int ks])), (qo, .inl (cO, 40000, .inl ft)), (qe, .inr (7, [.ref en, .int nl, .int fo, .int me, .int (nI pk), .long zz, .int su, .int lp, .int pp, .int sa, .int (nI op), .int (nI ol)]))] sz)) 0 0 (va_A [(qu, .inr (4, [.ref qa, .ref qr, .ref qw, .ref s1, .ref s2, .ref s3, .ref s4, .ref s5])), (qa, .inr (3, [.int (nI bu), .int (nI ra), .int (nI to), .ref qo, .int ks])), (qo, .inl (cO, 40000, .inl ft)), (qe, .inr (7, [.ref en, .int nl, .int fo, .int me, .int (nI pk), .long zz, .int su, .int lp, .int pp, .int sa, .int (nI op), .int (nI ol)]))] sz) :=
  zMetA (Qf := fun A => va_Qi (fun (r : Int32) => fun (u9 : Nat × Nat × Int32 × (Nat → Int32)) => match u9 with | (to1, ol1, ks1, ft1) => (r, to1, ol1, ks1, ft1) = zwr bu ra pk zz op ln dd (to, ol, ks, ft)) (fun u9 t => zB D ((fun (u9 : Nat × Nat × Int32 × (Nat → Int32)) => match u9 with | (to1, ol1, ks1, ft1) => [(qu, .inr (4, [.ref qa, .ref qr, .ref qw, .ref s1, .ref s2, .ref s3, .ref s4, .ref s5])), (qa, .inr (3, [.int (nI bu), .int (nI ra), .int (nI to1), .ref qo, .int ks1])), (qo, .inl (cO, 40000, .inl ft1)), (qe, .inr (7, [.ref en, .int nl, .int fo, .int me, .int (nI pk), .long zz, .int su, .int lp, .int pp, .int sa, .int (nI op), .int (nI ol1)]))]) u9) ((fun (u9 : Nat × Nat × Int32 × (Nat → Int32)) => match u9 with | (to1, ol1, ks1, ft1) => [(cO, .byte)]) u9) A t) A) (by decide) (Nat.le_of_ble_eq_true rfl) (fun p e s m below meth c A ls hx hb hr hml hown ht hlk hnm hA hK hP hD hX hl => by
    have hS : va_S A s.heap s.heap [] := va_S.rf
    have hl : lv_has ls 7 [(0, .ref qu), (1, .ref qe), (2, .int (nI ln)), (3, .int (nI dd))] := hl
    refine lv_iload_n hx hb d_U_writeAgain_0 rfl (lv_at hl 3 rfl) ?_
    refine lv_aload_n hx hb d_U_writeAgain_1 rfl (lv_at hl 1 rfl) ?_
    refine va_get (ci := 7) (C := "ZipGuard$Entry") (T := F_E) (N := 12) hx hb ht zi_E hown hK hP 3 rfl rfl 11 (by decide) (ht _ zm_152) (fun _ h9 => h9) rfl d_U_writeAgain_2 ?_
    by_cases h1 : ol < dd
    · skip
      refine lv_icmp_le (tgt := 11) hx hb d_U_writeAgain_5 (by decide) (fun h => absurd h (show ¬ nI dd ≤ nI ol from nI_ge h1 (by omega))) (fun _ => ?_)
      refine lv_bipush (v := (-36)) hx hb d_U_writeAgain_8 (by decide) ?_
      exact zreti hx hb hr hlk hK hP hD hS (to, ol, ks, ft) [0, 1, 2, 3] [0] rfl (by decide) rfl (by unfold zwr; rw [if_pos h1]) (Nat.le_of_ble_eq_true rfl) (Nat.le_of_ble_eq_true rfl) d_U_writeAgain_10
    · skip
      refine lv_icmp_le (tgt := 11) hx hb d_U_writeAgain_5 (by decide) (fun _ => ?_) (fun h => absurd (nI_le (by omega) (by omega)) h)
      refine lv_iconst (v := 0) hx hb d_U_writeAgain_11 (by decide) ?_
      refine lv_istore (lv' := [(4, .int 0), (0, .ref qu), (1, .ref qe), (2, .int (nI ln)), (3, .int (nI dd))]) hx hb d_U_writeAgain_12 hl (by decide) rfl (fun ls hl => ?_)
      have hl : lv_has ls 7 [(4, .int (nI 0)), (0, .ref qu), (1, .ref qe), (2, .int (nI ln)), (3, .int (nI dd))] := hl
      refine lp_U_wr hx hb hml hown ht hA qu qw s1 s2 s3 s4 s5 qr qa qo qe cO bu ra en nl fo me pk zz su lp pp sa op ln dd (zagain bu ra pk zz op dd ln (to, ol, ks, ft)) hbu hln hdd hd2 hX (Nat.le_of_ble_eq_true rfl) (Nat.le_of_ble_eq_true rfl) (Nat.le_of_ble_eq_true rfl) (Nat.le_of_ble_eq_true rfl) (Nat.le_of_ble_eq_true rfl) (Nat.le_of_ble_eq_true rfl) hK (fun to1 ol1 ks1 ft1 H locs ls v hout hP hD hS hl => ?_) (fun to1 ol1 ks1 ft1 v H locs ls hout hP hD hS hl => ?_) ln 0 to ol ks ft s.heap [] ls (by omega) hto hol (by omega) rfl hP hD hS hl
      · skip
        exact zreti hx hb hr hlk hK hP hD hS (to1, ol1, ks1, ft1) [0, 1, 2, 3] [0] rfl (by decide) rfl (by unfold zwr; rw [if_neg h1]; exact hout) (Nat.le_of_ble_eq_true rfl) (Nat.le_of_ble_eq_true rfl) d_U_writeAgain_55
      · skip
        exact zreti hx hb hr hlk hK hP hD hS (to1, ol1, ks1, ft1) [0, 1, 2, 3] [0] rfl (by decide) rfl (by unfold zwr; rw [if_neg h1]; exact hout) (Nat.le_of_ble_eq_true rfl) (Nat.le_of_ble_eq_true rfl) d_U_writeAgain_63)
set_option maxHeartbeats 4000000 in
set_option maxRecDepth 100000 in
theorem c_U_sto (l : Launch) (D : va_G) (sz : Nat) (qu : Nat) (qw : Nat) (s1 : Nat) (s2 : Nat) (s3 : Nat) (s4 : Nat) (s5 : Nat) (qr : Nat) (qb : Nat) (qa : Nat) (qo : Nat) (qe : Nat) (cB : ClassId) (cO : ClassId) (f : Nat → Int32) (bh : Nat) (bu : Nat) (ra : Nat) (en : Nat) (nl : Int32) (fo : Int32) (me : Int32) (pk : Nat) (zz : Int64) (su : Int32) (lp : Int32) (pp : Int32) (sa : Int32) (op : Nat) (a : Nat) (u : Nat) (to : Nat) (ol : Nat) (ks : Int32) (ft : Nat → Int32) (hbh : bh ≤ 20000) (hbu : bu ≤ 40000) (hu : u ≤ 7) (hau : 8 * a + u ≤ 8 * bh) (hto : to ≤ 40000) (hol : op + ol = to) : Met l y_U_unpackStored (Cond.code y_U_unpackStored prog_8_method_7_code 4 (Option.some Jvm.ClassFile.FieldType.int) :: zt) { frames := 2, cells := 0, slots := 0, locals := 50 } (zPc [.ref qu, .ref qe] D [(qu, .inr (4, [.ref qa, .ref qr, .ref qw, .ref s1, .ref s2, .ref s3, .ref s4, .ref s5])), (qr, .inr (5, [.ref qb, .int (nI a), .int (nI bh), .int (nI u)])), (qb, .inl (cB, 20000, .inl f)), (qa, .inr (3, [.int (nI bu), .int (nI ra), .int (nI to), .ref qo, .int ks])), (qo, .inl (cO, 40000, .inl ft)), (qe, .inr (7, [.ref en, .int nl, .int fo, .int me, .int (nI pk), .long zz, .int su, .int lp, .int pp, .int sa, .int (nI op), .int (nI ol)]))] [(cB, .byte), (cO, .byte)] sz (zXT [(qu, .inr (4, [.ref qa, .ref qr, .ref qw, .ref s1, .ref s2, .ref s3, .ref s4, .ref s5])), (qr, .inr (5, [.ref qb, .int (nI a), .int (nI bh), .int (nI u)])), (qb, .inl (cB, 20000, .inl f)), (qa, .inr (3, [.int (nI bu), .int (nI ra), .int (nI to), .ref qo, .int ks])), (qo, .inl (cO, 40000, .inl ft)), (qe, .inr (7, [.ref en, .int nl, .int fo, .int me, .int (nI pk), .long zz, .int su, .int lp, .int pp, .int sa, .int (nI op), .int (nI ol)]))])) (va_Qi (fun (r : Int32) => fun (u9 : Nat × Nat × Nat × Nat × Int32 × (Nat → Int32)) => match u9 with | (a1, u1, to1, ol1, ks1, ft1) => zOut (zstored f bh bu ra pk zz (8 * a + u) (to, ol, ks, ft)) bh op r a1 u1 to1 ol1 ks1 ft1) (fun u9 t => zB D ((fun (u9 : Nat × Nat × Nat × Nat × Int32 × (Nat → Int32)) => match u9 with | (a1, u1, to1, ol1, ks1, ft1) => [(qu, .inr (4, [.ref qa, .ref qr, .ref qw, .ref s1, .ref s2, .ref s3, .ref s4, .ref s5])), (qr, .inr (5, [.ref qb, .int (nI a1), .int (nI bh), .int (nI u1)])), (qb, .inl (cB, 20000, .inl f)), (qa, .inr (3, [.int (nI bu), .int (nI ra), .int (nI to1), .ref qo, .int ks1])), (qo, .inl (cO, 40000, .inl ft1)), (qe, .inr (7, [.ref en, .int nl, .int fo, .int me, .int (nI pk), .long zz, .int su, .int lp, .int pp, .int sa, .int (nI op), .int (nI ol1)]))]) u9) ((fun (u9 : Nat × Nat × Nat × Nat × Int32 × (Nat → Int32)) => match u9 with | (a1, u1, to1, ol1, ks1, ft1) => [(cB, .byte), (cO, .byte)]) u9) (va_A [(qu, .inr (4, [.ref qa, .ref qr, .ref qw, .ref s1, .ref s2, .ref s3, .ref s4, .ref s5])), (qr, .inr (5, [.ref qb, .int (nI a), .int (nI bh), .int (nI u)])), (qb, .inl (cB, 20000, .inl f)), (qa, .inr (3, [.int (nI bu), .int (nI ra), .int (nI to), .ref qo, .int ks])), (qo, .inl (cO, 40000, .inl ft)), (qe, .inr (7, [.ref en, .int nl, .int fo, .int me, .int (nI pk), .long zz, .int su, .int lp, .int pp, .int sa, .int (nI op), .int (nI ol)]))] sz) t) (va_A [(qu, .inr (4, [.ref qa, .ref qr, .ref qw, .ref s1, .ref s2, .ref s3, .ref s4, .ref s5])), (qr, .inr (5, [.ref qb, .int (nI a), .int (nI bh), .int (nI u)])), (qb, .inl (cB, 20000, .inl f)), (qa, .inr (3, [.int (nI bu), .int (nI ra), .int (nI to), .ref qo, .int ks])), (qo, .inl (cO, 40000, .inl ft)), (qe, .inr (7, [.ref en, .int nl, .int fo, .int me, .int (nI pk), .long zz, .int su, .int lp, .int pp, .int sa, .int (nI op), .int (nI ol)]))] sz)) 0 0 (va_A [(qu, .inr (4, [.ref qa, .ref qr, .ref qw, .ref s1, .ref s2, .ref s3, .ref s4, .ref s5])), (qr, .inr (5, [.ref qb, .int (nI a), .int (nI bh), .int (nI u)])), (qb, .inl (cB, 20000, .inl f)), (qa, .inr (3, [.int (nI bu), .int (nI ra), .int (nI to), .ref qo, .int ks])), (qo, .inl (cO, 40000, .inl ft)), (qe, .inr (7, [.ref en, .int nl, .int fo, .int me, .int (nI pk), .long zz, .int su, .int lp, .int pp, .int sa, .int (nI op), .int (nI ol)]))] sz) :=
  zMetA (Qf := fun A => va_Qi (fun (r : Int32) => fun (u9 : Nat × Nat × Nat × Nat × Int32 × (Nat → Int32)) => match u9 with | (a1, u1, to1, ol1, ks1, ft1) => zOut (zstored f bh bu ra pk zz (8 * a + u) (to, ol, ks, ft)) bh op r a1 u1 to1 ol1 ks1 ft1) (fun u9 t => zB D ((fun (u9 : Nat × Nat × Nat × Nat × Int32 × (Nat → Int32)) => match u9 with | (a1, u1, to1, ol1, ks1, ft1) => [(qu, .inr (4, [.ref qa, .ref qr, .ref qw, .ref s1, .ref s2, .ref s3, .ref s4, .ref s5])), (qr, .inr (5, [.ref qb, .int (nI a1), .int (nI bh), .int (nI u1)])), (qb, .inl (cB, 20000, .inl f)), (qa, .inr (3, [.int (nI bu), .int (nI ra), .int (nI to1), .ref qo, .int ks1])), (qo, .inl (cO, 40000, .inl ft1)), (qe, .inr (7, [.ref en, .int nl, .int fo, .int me, .int (nI pk), .long zz, .int su, .int lp, .int pp, .int sa, .int (nI op), .int (nI ol1)]))]) u9) ((fun (u9 : Nat × Nat × Nat × Nat × Int32 × (Nat → Int32)) => match u9 with | (a1, u1, to1, ol1, ks1, ft1) => [(cB, .byte), (cO, .byte)]) u9) A t) A) (by decide) (Nat.le_of_ble_eq_true rfl) (fun p e s m below meth c A ls hx hb hr hml hown ht hlk hnm hA hK hP hD hX hl => by
    have hS : va_S A s.heap s.heap [] := va_S.rf
    have hl : lv_has ls 4 [(0, .ref qu), (1, .ref qe)] := hl
    refine lv_aload_n hx hb d_U_unpackStored_0 rfl (lv_at hl 0 rfl) ?_
    refine va_get (ci := 4) (C := "ZipGuard$Unpacker") (T := F_U) (N := 8) hx hb ht zi_U hown hK hP 0 rfl rfl 1 (by decide) (ht _ zm_371) (fun _ h9 => h9) rfl d_U_unpackStored_1 ?_
    refine zjv (wr := [(qu, .inr (4, [.ref qa, .ref qr, .ref qw, .ref s1, .ref s2, .ref s3, .ref s4, .ref s5])), (qb, .inl (cB, 20000, .inl f)), (qa, .inr (3, [.int (nI bu), .int (nI ra), .int (nI to), .ref qo, .int ks])), (qo, .inl (cO, 40000, .inl ft)), (qe, .inr (7, [.ref en, .int nl, .int fo, .int me, .int (nI pk), .long zz, .int su, .int lp, .int pp, .int sa, .int (nI op), .int (nI ol)]))]) (va_runV (As := []) (rest := []) ⟨hx, hb, hml, hown, ht⟩ (c_B_skip l D _ qr qb bh a u hu) (cwV 0 ht (zt_goodV zm_645 zm_646 zm_647 zm_71 zm_648) rfl rfl rfl (by decide +kernel) ⟨Nat.le_of_ble_eq_true rfl, Nat.le_of_ble_eq_true rfl⟩) (zpreV zBlind_t hK hP hD [1] [] rfl (by decide) rfl (fun _ _ _ => trivial) (va_recv (q := ("ZipGuard$BitReader", F_B, 4)) hK hP rfl (q0 := 1) (ci := 5) rfl)) rfl rfl hl.1 rfl (lv_room (Nat.le_of_ble_eq_true rfl)) d_U_unpackStored_4 ⟨Nat.le_of_ble_eq_true rfl, Nat.le_of_ble_eq_true rfl⟩) hK hP hD hS hA [1] [0, 2, 3, 4, 5] rfl rfl (by decide) (by decide) (fun u9 H locs hp2 hP hD hK hS => ?_)
    obtain ⟨a2, rfl⟩ : ∃ z, z = u9 := ⟨u9, rfl⟩
    dsimp only at hp2 hP hD hK
    have hP : va_P D zcl [(qu, .inr (4, [.ref qa, .ref qr, .ref qw, .ref s1, .ref s2, .ref s3, .ref s4, .ref s5])), (qb, .inl (cB, 20000, .inl f)), (qa, .inr (3, [.int (nI bu), .int (nI ra), .int (nI to), .ref qo, .int ks])), (qo, .inl (cO, 40000, .inl ft)), (qe, .inr (7, [.ref en, .int nl, .int fo, .int me, .int (nI pk), .long zz, .int su, .int lp, .int pp, .int sa, .int (nI op), .int (nI ol)])), (qr, .inr (5, [.ref qb, .int (nI a2), .int (nI bh), .int 0]))] H := hP
    have hD : va_D A [(qu, .inr (4, [.ref qa, .ref qr, .ref qw, .ref s1, .ref s2, .ref s3, .ref s4, .ref s5])), (qb, .inl (cB, 20000, .inl f)), (qa, .inr (3, [.int (nI bu), .int (nI ra), .int (nI to), .ref qo, .int ks])), (qo, .inl (cO, 40000, .inl ft)), (qe, .inr (7, [.ref en, .int nl, .int fo, .int me, .int (nI pk), .long zz, .int su, .int lp, .int pp, .int sa, .int (nI op), .int (nI ol)])), (qr, .inr (5, [.ref qb, .int (nI a2), .int (nI bh), .int 0]))] := hD
    have hK : va_K D zcl [(cB, .byte), (cO, .byte)] s := hK
    have hP := hP.sub (ws' := [(qu, .inr (4, [.ref qa, .ref qr, .ref qw, .ref s1, .ref s2, .ref s3, .ref s4, .ref s5])), (qr, .inr (5, [.ref qb, .int (nI a2), .int (nI bh), .int 0])), (qb, .inl (cB, 20000, .inl f)), (qa, .inr (3, [.int (nI bu), .int (nI ra), .int (nI to), .ref qo, .int ks])), (qo, .inl (cO, 40000, .inl ft)), (qe, .inr (7, [.ref en, .int nl, .int fo, .int me, .int (nI pk), .long zz, .int su, .int lp, .int pp, .int sa, .int (nI op), .int (nI ol)]))]) [0, 5, 1, 2, 3, 4] rfl
    have hD := hD.sub (ws' := [(qu, .inr (4, [.ref qa, .ref qr, .ref qw, .ref s1, .ref s2, .ref s3, .ref s4, .ref s5])), (qr, .inr (5, [.ref qb, .int (nI a2), .int (nI bh), .int 0])), (qb, .inl (cB, 20000, .inl f)), (qa, .inr (3, [.int (nI bu), .int (nI ra), .int (nI to), .ref qo, .int ks])), (qo, .inl (cO, 40000, .inl ft)), (qe, .inr (7, [.ref en, .int nl, .int fo, .int me, .int (nI pk), .long zz, .int su, .int lp, .int pp, .int sa, .int (nI op), .int (nI ol)]))]) [0, 5, 1, 2, 3, 4] (by decide) rfl
    have hK := hK.sub (tys' := [(cB, .byte), (cO, .byte)]) [0, 1] rfl
    have ha2 : a2 ≤ 20000 := by omega
    refine lv_aload_n hx hb d_U_unpackStored_7 rfl (lv_at hl 0 rfl) ?_
    refine va_get (ci := 4) (C := "ZipGuard$Unpacker") (T := F_U) (N := 8) hx hb ht zi_U hown hK hP 0 rfl rfl 1 (by decide) (ht _ zm_371) (fun _ h9 => h9) rfl d_U_unpackStored_8 ?_
    refine lv_bipush (v := 16) hx hb d_U_unpackStored_11 (by decide) ?_
    refine zji (wr := [(qu, .inr (4, [.ref qa, .ref qr, .ref qw, .ref s1, .ref s2, .ref s3, .ref s4, .ref s5])), (qa, .inr (3, [.int (nI bu), .int (nI ra), .int (nI to), .ref qo, .int ks])), (qo, .inl (cO, 40000, .inl ft)), (qe, .inr (7, [.ref en, .int nl, .int fo, .int me, .int (nI pk), .long zz, .int su, .int lp, .int pp, .int sa, .int (nI op), .int (nI ol)]))]) (va_runV (As := [.int 16]) (rest := []) ⟨hx, hb, hml, hown, ht⟩ (c_B_read l D _ qr qb cB f bh 16 a2 0 hbh (by decide) (by decide) ha2) (cwV 1 ht (zt_goodV zm_629 zm_630 zm_631 zm_71 zm_632) rfl rfl rfl (by decide +kernel) ⟨Nat.le_of_ble_eq_true rfl, Nat.le_of_ble_eq_true rfl⟩) (zpreV zBlind_t hK hP hD [1, 2] [0] rfl (by decide) rfl (fun _ _ _ => trivial) (va_recv (q := ("ZipGuard$BitReader", F_B, 4)) hK hP rfl (q0 := 1) (ci := 5) rfl)) rfl rfl hl.1 rfl (lv_room (Nat.le_of_ble_eq_true rfl)) d_U_unpackStored_13 ⟨Nat.le_of_ble_eq_true rfl, Nat.le_of_ble_eq_true rfl⟩) hK hP hD hS hA [1, 2] [0, 3, 4, 5] rfl rfl (by decide) (by decide) (fun r3 u9 H locs hp4 hP hD hK hS => ?_)
    obtain ⟨a3, u3⟩ := u9
    dsimp only at hp4 hP hD hK
    have hP : va_P D zcl [(qu, .inr (4, [.ref qa, .ref qr, .ref qw, .ref s1, .ref s2, .ref s3, .ref s4, .ref s5])), (qa, .inr (3, [.int (nI bu), .int (nI ra), .int (nI to), .ref qo, .int ks])), (qo, .inl (cO, 40000, .inl ft)), (qe, .inr (7, [.ref en, .int nl, .int fo, .int me, .int (nI pk), .long zz, .int su, .int lp, .int pp, .int sa, .int (nI op), .int (nI ol)])), (qr, .inr (5, [.ref qb, .int (nI a3), .int (nI bh), .int (nI u3)])), (qb, .inl (cB, 20000, .inl f))] H := hP
    have hD : va_D A [(qu, .inr (4, [.ref qa, .ref qr, .ref qw, .ref s1, .ref s2, .ref s3, .ref s4, .ref s5])), (qa, .inr (3, [.int (nI bu), .int (nI ra), .int (nI to), .ref qo, .int ks])), (qo, .inl (cO, 40000, .inl ft)), (qe, .inr (7, [.ref en, .int nl, .int fo, .int me, .int (nI pk), .long zz, .int su, .int lp, .int pp, .int sa, .int (nI op), .int (nI ol)])), (qr, .inr (5, [.ref qb, .int (nI a3), .int (nI bh), .int (nI u3)])), (qb, .inl (cB, 20000, .inl f))] := hD
    have hK : va_K D zcl [(cB, .byte), (cO, .byte), (cB, .byte)] s := hK
    have hP := hP.sub (ws' := [(qu, .inr (4, [.ref qa, .ref qr, .ref qw, .ref s1, .ref s2, .ref s3, .ref s4, .ref s5])), (qr, .inr (5, [.ref qb, .int (nI a3), .int (nI bh), .int (nI u3)])), (qb, .inl (cB, 20000, .inl f)), (qa, .inr (3, [.int (nI bu), .int (nI ra), .int (nI to), .ref qo, .int ks])), (qo, .inl (cO, 40000, .inl ft)), (qe, .inr (7, [.ref en, .int nl, .int fo, .int me, .int (nI pk), .long zz, .int su, .int lp, .int pp, .int sa, .int (nI op), .int (nI ol)]))]) [0, 4, 5, 1, 2, 3] rfl
    have hD := hD.sub (ws' := [(qu, .inr (4, [.ref qa, .ref qr, .ref qw, .ref s1, .ref s2, .ref s3, .ref s4, .ref s5])), (qr, .inr (5, [.ref qb, .int (nI a3), .int (nI bh), .int (nI u3)])), (qb, .inl (cB, 20000, .inl f)), (qa, .inr (3, [.int (nI bu), .int (nI ra), .int (nI to), .ref qo, .int ks])), (qo, .inl (cO, 40000, .inl ft)), (qe, .inr (7, [.ref en, .int nl, .int fo, .int me, .int (nI pk), .long zz, .int su, .int lp, .int pp, .int sa, .int (nI op), .int (nI ol)]))]) [0, 4, 5, 1, 2, 3] (by decide) rfl
    have hK := hK.sub (tys' := [(cB, .byte), (cO, .byte)]) [0, 1] rfl
    obtain ⟨hu3, ha3, hp4⟩ := hp4
    refine lv_istore_n (lv' := [(2, .int r3), (0, .ref qu), (1, .ref qe)]) hx hb d_U_unpackStored_16 rfl hl (by decide) rfl (fun ls hl => ?_)
    refine lv_aload_n hx hb d_U_unpackStored_17 rfl (lv_at hl 1 rfl) ?_
    refine va_get (ci := 4) (C := "ZipGuard$Unpacker") (T := F_U) (N := 8) hx hb ht zi_U hown hK hP 0 rfl rfl 1 (by decide) (ht _ zm_371) (fun _ h9 => h9) rfl d_U_unpackStored_18 ?_
    refine lv_bipush (v := 16) hx hb d_U_unpackStored_21 (by decide) ?_
    refine zji (wr := [(qu, .inr (4, [.ref qa, .ref qr, .ref qw, .ref s1, .ref s2, .ref s3, .ref s4, .ref s5])), (qa, .inr (3, [.int (nI bu), .int (nI ra), .int (nI to), .ref qo, .int ks])), (qo, .inl (cO, 40000, .inl ft)), (qe, .inr (7, [.ref en, .int nl, .int fo, .int me, .int (nI pk), .long zz, .int su, .int lp, .int pp, .int sa, .int (nI op), .int (nI ol)]))]) (va_runV (As := [.int 16]) (rest := []) ⟨hx, hb, hml, hown, ht⟩ (c_B_read l D _ qr qb cB f bh 16 a3 u3 hbh (by decide) hu3 ha3) (cwV 1 ht (zt_goodV zm_629 zm_630 zm_631 zm_71 zm_632) rfl rfl rfl (by decide +kernel) ⟨Nat.le_of_ble_eq_true rfl, Nat.le_of_ble_eq_true rfl⟩) (zpreV zBlind_t hK hP hD [1, 2] [0] rfl (by decide) rfl (fun _ _ _ => trivial) (va_recv (q := ("ZipGuard$BitReader", F_B, 4)) hK hP rfl (q0 := 1) (ci := 5) rfl)) rfl rfl hl.1 rfl (lv_room (Nat.le_of_ble_eq_true rfl)) d_U_unpackStored_23 ⟨Nat.le_of_ble_eq_true rfl, Nat.le_of_ble_eq_true rfl⟩) hK hP hD hS hA [1, 2] [0, 3, 4, 5] rfl rfl (by decide) (by decide) (fun r5 u9 H locs hp6 hP hD hK hS => ?_)
    obtain ⟨a4, u4⟩ := u9
    dsimp only at hp6 hP hD hK
    have hP : va_P D zcl [(qu, .inr (4, [.ref qa, .ref qr, .ref qw, .ref s1, .ref s2, .ref s3, .ref s4, .ref s5])), (qa, .inr (3, [.int (nI bu), .int (nI ra), .int (nI to), .ref qo, .int ks])), (qo, .inl (cO, 40000, .inl ft)), (qe, .inr (7, [.ref en, .int nl, .int fo, .int me, .int (nI pk), .long zz, .int su, .int lp, .int pp, .int sa, .int (nI op), .int (nI ol)])), (qr, .inr (5, [.ref qb, .int (nI a4), .int (nI bh), .int (nI u4)])), (qb, .inl (cB, 20000, .inl f))] H := hP
    have hD : va_D A [(qu, .inr (4, [.ref qa, .ref qr, .ref qw, .ref s1, .ref s2, .ref s3, .ref s4, .ref s5])), (qa, .inr (3, [.int (nI bu), .int (nI ra), .int (nI to), .ref qo, .int ks])), (qo, .inl (cO, 40000, .inl ft)), (qe, .inr (7, [.ref en, .int nl, .int fo, .int me, .int (nI pk), .long zz, .int su, .int lp, .int pp, .int sa, .int (nI op), .int (nI ol)])), (qr, .inr (5, [.ref qb, .int (nI a4), .int (nI bh), .int (nI u4)])), (qb, .inl (cB, 20000, .inl f))] := hD
    have hK : va_K D zcl [(cB, .byte), (cO, .byte), (cB, .byte)] s := hK
    have hP := hP.sub (ws' := [(qu, .inr (4, [.ref qa, .ref qr, .ref qw, .ref s1, .ref s2, .ref s3, .ref s4, .ref s5])), (qr, .inr (5, [.ref qb, .int (nI a4), .int (nI bh), .int (nI u4)])), (qb, .inl (cB, 20000, .inl f)), (qa, .inr (3, [.int (nI bu), .int (nI ra), .int (nI to), .ref qo, .int ks])), (qo, .inl (cO, 40000, .inl ft)), (qe, .inr (7, [.ref en, .int nl, .int fo, .int me, .int (nI pk), .long zz, .int su, .int lp, .int pp, .int sa, .int (nI op), .int (nI ol)]))]) [0, 4, 5, 1, 2, 3] rfl
    have hD := hD.sub (ws' := [(qu, .inr (4, [.ref qa, .ref qr, .ref qw, .ref s1, .ref s2, .ref s3, .ref s4, .ref s5])), (qr, .inr (5, [.ref qb, .int (nI a4), .int (nI bh), .int (nI u4)])), (qb, .inl (cB, 20000, .inl f)), (qa, .inr (3, [.int (nI bu), .int (nI ra), .int (nI to), .ref qo, .int ks])), (qo, .inl (cO, 40000, .inl ft)), (qe, .inr (7, [.ref en, .int nl, .int fo, .int me, .int (nI pk), .long zz, .int su, .int lp, .int pp, .int sa, .int (nI op), .int (nI ol)]))]) [0, 4, 5, 1, 2, 3] (by decide) rfl
    have hK := hK.sub (tys' := [(cB, .byte), (cO, .byte)]) [0, 1] rfl
    obtain ⟨hu4, ha4, hp6⟩ := hp6
    have hq : 8 * ((8 * a + u + 7) / 8) = 8 * a2 := by rw [hp2]
    have hz1 := zbits_lt f (8 * a2) 16
    have hz2 := zbits_lt f (8 * a2 + 16) 16
    refine lv_istore_n (lv' := [(3, .int r5), (2, .int r3), (0, .ref qu), (1, .ref qe)]) hx hb d_U_unpackStored_26 rfl hl (by decide) rfl (fun ls hl => ?_)
    refine lv_iload_n hx hb d_U_unpackStored_27 rfl (lv_at hl 1 rfl) ?_
    simp only [Nat.add_zero] at hp4
    rcases hp4 with ⟨hp4, hpos1, hle1⟩ | ⟨hp4, hend1⟩
    · skip
      refine lv_if_lt (tgt := 35) hx hb d_U_unpackStored_28 (by decide) (fun h => absurd h (by rw [hp4]; exact nI_pos (by omega))) (fun _ => ?_)
      refine lv_iload_n hx hb d_U_unpackStored_31 rfl (lv_at hl 0 rfl) ?_
      rw [hpos1] at hp6
      rcases hp6 with ⟨hp6, hpos2, hle2⟩ | ⟨hp6, hend2⟩
      · skip
        refine lv_if_ge (tgt := 38) hx hb d_U_unpackStored_32 (by decide) (fun _ => ?_) (fun h => absurd (by rw [hp6]; exact nI_pos' (by omega)) h)
        refine lv_iload_n hx hb d_U_unpackStored_38 rfl (lv_at hl 1 rfl) ?_
        refine lv_iload_n hx hb d_U_unpackStored_39 rfl (lv_at hl 0 rfl) ?_
        refine lv_ixor hx hb d_U_unpackStored_40 ?_
        refine lv_ldc (v := 65535) hx hb hown (ht _ zm_649) d_U_unpackStored_41 ?_
        have hp4 := hp4.symm
        have hp6 := hp6.symm
        subst hp4
        subst hp6
        by_cases h1 : nI (zbits f (8 * a2) 16) ^^^ nI (zbits f (8 * a2 + 16) 16) = 65535
        · skip
          refine lv_icmp_ne (tgt := 55) hx hb d_U_unpackStored_43 (by decide) (fun h => absurd (h1) h) (fun _ => ?_)
          refine lv_aload_n hx hb d_U_unpackStored_46 rfl (lv_at hl 2 rfl) ?_
          refine lv_aload_n hx hb d_U_unpackStored_47 rfl (lv_at hl 3 rfl) ?_
          refine lv_iload_n hx hb d_U_unpackStored_48 rfl (lv_at hl 1 rfl) ?_
          refine zji (wr := []) (va_runV (As := [.ref qe, .int (nI (zbits f (8 * a2) 16))]) (rest := []) ⟨hx, hb, hml, hown, ht⟩ (c_U_copy l D _ qu qw s1 s2 s3 s4 s5 qr qb qa qo qe cB cO f bh bu ra en nl fo me pk zz su lp pp sa op (zbits f (8 * a2) 16) a4 u4 to ol ks ft hbh hbu hu4 (by omega) hto hol (by omega)) (cwV 2 ht (zt_goodV zm_626 zm_627 zm_18 zm_70 zm_628) rfl rfl rfl (by decide +kernel) ⟨Nat.le_of_ble_eq_true rfl, Nat.le_of_ble_eq_true rfl⟩) (zpreV (zBlind_XT _) hK hP hD [0, 1, 2, 3, 4, 5] [0, 1] rfl (by decide) rfl (zXT_call hX hD hS hA [0, 1, 2, 3, 4, 5] rfl) (va_recv (q := ("ZipGuard$Unpacker", F_U, 8)) hK hP rfl (q0 := 0) (ci := 4) rfl)) rfl rfl hl.1 rfl (lv_room (Nat.le_of_ble_eq_true rfl)) d_U_unpackStored_49 ⟨Nat.le_of_ble_eq_true rfl, Nat.le_of_ble_eq_true rfl⟩) hK hP hD hS hA [0, 1, 2, 3, 4, 5] [] rfl rfl (by decide) (by decide) (fun r10 u9 H locs hp11 hP hD hK hS => ?_)
          obtain ⟨a1, u1, to1, ol1, ks1, ft1⟩ := u9
          dsimp only at hp11 hP hD hK
          have hP : va_P D zcl [(qu, .inr (4, [.ref qa, .ref qr, .ref qw, .ref s1, .ref s2, .ref s3, .ref s4, .ref s5])), (qr, .inr (5, [.ref qb, .int (nI a1), .int (nI bh), .int (nI u1)])), (qb, .inl (cB, 20000, .inl f)), (qa, .inr (3, [.int (nI bu), .int (nI ra), .int (nI to1), .ref qo, .int ks1])), (qo, .inl (cO, 40000, .inl ft1)), (qe, .inr (7, [.ref en, .int nl, .int fo, .int me, .int (nI pk), .long zz, .int su, .int lp, .int pp, .int sa, .int (nI op), .int (nI ol1)]))] H := hP
          have hD : va_D A [(qu, .inr (4, [.ref qa, .ref qr, .ref qw, .ref s1, .ref s2, .ref s3, .ref s4, .ref s5])), (qr, .inr (5, [.ref qb, .int (nI a1), .int (nI bh), .int (nI u1)])), (qb, .inl (cB, 20000, .inl f)), (qa, .inr (3, [.int (nI bu), .int (nI ra), .int (nI to1), .ref qo, .int ks1])), (qo, .inl (cO, 40000, .inl ft1)), (qe, .inr (7, [.ref en, .int nl, .int fo, .int me, .int (nI pk), .long zz, .int su, .int lp, .int pp, .int sa, .int (nI op), .int (nI ol1)]))] := hD
          have hK : va_K D zcl [(cB, .byte), (cO, .byte), (cB, .byte), (cO, .byte)] s := hK
          have hP := hP.sub (ws' := [(qu, .inr (4, [.ref qa, .ref qr, .ref qw, .ref s1, .ref s2, .ref s3, .ref s4, .ref s5])), (qr, .inr (5, [.ref qb, .int (nI a1), .int (nI bh), .int (nI u1)])), (qb, .inl (cB, 20000, .inl f)), (qa, .inr (3, [.int (nI bu), .int (nI ra), .int (nI to1), .ref qo, .int ks1])), (qo, .inl (cO, 40000, .inl ft1)), (qe, .inr (7, [.ref en, .int nl, .int fo, .int me, .int (nI pk), .long zz, .int su, .int lp, .int pp, .int sa, .int (nI op), .int (nI ol1)]))]) [0, 1, 2, 3, 4, 5] rfl
          have hD := hD.sub (ws' := [(qu, .inr (4, [.ref qa, .ref qr, .ref qw, .ref s1, .ref s2, .ref s3, .ref s4, .ref s5])), (qr, .inr (5, [.ref qb, .int (nI a1), .int (nI bh), .int (nI u1)])), (qb, .inl (cB, 20000, .inl f)), (qa, .inr (3, [.int (nI bu), .int (nI ra), .int (nI to1), .ref qo, .int ks1])), (qo, .inl (cO, 40000, .inl ft1)), (qe, .inr (7, [.ref en, .int nl, .int fo, .int me, .int (nI pk), .long zz, .int su, .int lp, .int pp, .int sa, .int (nI op), .int (nI ol1)]))]) [0, 1, 2, 3, 4, 5] (by decide) rfl
          have hK := hK.sub (tys' := [(cB, .byte), (cO, .byte)]) [0, 1] rfl
          refine lv_goto (tgt := 57) hx hb d_U_unpackStored_52 (by decide) ?_
          exact zreti hx hb hr hlk hK hP hD hS (a1, u1, to1, ol1, ks1, ft1) [0, 1, 2, 3, 4, 5] [0, 1] rfl (by decide) rfl (by unfold zstored; rw [hq, if_neg (by omega), if_pos h1]; rw [hpos2] at hp11; exact hp11) (Nat.le_of_ble_eq_true rfl) (Nat.le_of_ble_eq_true rfl) d_U_unpackStored_57
        · skip
          refine lv_icmp_ne (tgt := 55) hx hb d_U_unpackStored_43 (by decide) (fun _ => ?_) (fun h => absurd h (h1))
          refine lv_bipush (v := (-31)) hx hb d_U_unpackStored_55 (by decide) ?_
          exact zreti hx hb hr hlk hK hP hD hS (a4, u4, to, ol, ks, ft) [0, 1, 2, 3, 4, 5] [0, 1] rfl (by decide) rfl (by unfold zstored; rw [hq, if_neg (by omega), if_neg h1]; exact ⟨rfl, hu4, ha4, fun _ => ⟨by rw [hpos2], by omega⟩, rfl, hto, hol⟩) (Nat.le_of_ble_eq_true rfl) (Nat.le_of_ble_eq_true rfl) d_U_unpackStored_57
      · skip
        refine lv_if_ge (tgt := 38) hx hb d_U_unpackStored_32 (by decide) (fun h => absurd h (by rw [hp6]; decide)) (fun _ => ?_)
        refine lv_bipush (v := (-30)) hx hb d_U_unpackStored_35 (by decide) ?_
        exact zreti hx hb hr hlk hK hP hD hS (a4, u4, to, ol, ks, ft) [0, 1, 2, 3, 4, 5] [0, 1] rfl (by decide) rfl (by unfold zstored; rw [hq, if_pos (by omega)]; exact ⟨rfl, hu4, ha4, fun h => absurd rfl h, rfl, hto, hol⟩) (Nat.le_of_ble_eq_true rfl) (Nat.le_of_ble_eq_true rfl) d_U_unpackStored_37
    · skip
      refine lv_if_lt (tgt := 35) hx hb d_U_unpackStored_28 (by decide) (fun _ => ?_) (fun h => absurd (by rw [hp4]; decide) h)
      refine lv_bipush (v := (-30)) hx hb d_U_unpackStored_35 (by decide) ?_
      exact zreti hx hb hr hlk hK hP hD hS (a4, u4, to, ol, ks, ft) [0, 1, 2, 3, 4, 5] [0, 1] rfl (by decide) rfl (by unfold zstored; rw [hq, if_pos (by omega)]; exact ⟨rfl, hu4, ha4, fun h => absurd rfl h, rfl, hto, hol⟩) (Nat.le_of_ble_eq_true rfl) (Nat.le_of_ble_eq_true rfl) d_U_unpackStored_37)
