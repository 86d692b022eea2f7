/-- what comes of a stretch of taking out: RES, told by the cells -/
def zOut (RES : Int32 × Nat × zO) (bh c : Nat) (v : Int32) (a u to ol : Nat) (ks : Int32) (ft : Nat → Int32) : Prop := v = RES.1 ∧ u ≤ 7 ∧ a ≤ 20000 ∧ (v ≠ -30 → 8 * a + u = RES.2.1 ∧ 8 * a + u ≤ 8 * bh) ∧ (to, ol, ks, ft) = RES.2.2 ∧ to ≤ 40000 ∧ c + ol = to
def zcopy (f : Nat → Int32) (bh bu ra pk : Nat) (zz : Int64) : Nat → Nat → zO → Int32 × Nat × zO
  | 0, q, o => (0, q, o)
  | j + 1, q, o => if 8 * bh < q + 8 then (-30, q, o) else if (zput bu ra pk zz o (nI (zbits f q 8))).1 = 0 then zcopy f bh bu ra pk zz j (q + 8) (zput bu ra pk zz o (nI (zbits f q 8))).2 else ((zput bu ra pk zz o (nI (zbits f q 8))).1, q + 8, (zput bu ra pk zz o (nI (zbits f q 8))).2)
/-- a byte of what came out, back from its end -/
def zback (o : zO) (c dd : Nat) : Int32 := o.2.2.2 (c + o.2.1 - dd) &&& 255
def zagain (bu ra pk : Nat) (zz : Int64) (c dd : Nat) : Nat → zO → Int32 × zO
  | 0, o => (0, o)
  | j + 1, o => if (zput bu ra pk zz o (zback o c dd)).1 = 0 then zagain bu ra pk zz c dd j (zput bu ra pk zz o (zback o c dd)).2 else zput bu ra pk zz o (zback o c dd)
def zrep (y : Nat) : Nat := if y = 16 then 2 else if y = 17 then 3 else if y = 18 then 7 else 0
def zlst (y : Nat) : Nat := if y < 16 then 1 else if y < 18 then 3 else 11
theorem zput_cases (bu ra pk : Nat) (zz : Int64) (o : zO) (b : Int32) : (zput bu ra pk zz o b).1 = 0 ∨ (zput bu ra pk zz o b).1 < 0 ∧ (zput bu ra pk zz o b).1 ≠ 0 ∧ (zput bu ra pk zz o b).1 ≠ -30 := (zputR_cases bu ra o.1 o.2.1 pk zz).imp (fun h => h.1) (fun h => h)
set_option maxRecDepth 100000 in
theorem zm_69 : Jvm.Cond.initialized "ZipGuard$Target" ∈ zt := zt_m1 (List.mem_of_getElem? (i := 5) rfl)
set_option maxRecDepth 100000 in
theorem zm_134 : Jvm.Cond.fieldLink "ZipGuard$Unpacker" (102 : Nat) "ZipGuard$Entry" "size" "J" ∈ zt := zt_m1 (List.mem_of_getElem? (i := 70) rfl)
set_option maxRecDepth 100000 in
theorem zm_137 : Jvm.Cond.fieldLink "ZipGuard$Unpacker" (114 : Nat) "ZipGuard$Entry" "sum" "I" ∈ zt := zt_m1 (List.mem_of_getElem? (i := 73) rfl)
set_option maxRecDepth 100000 in
theorem zm_152 : Jvm.Cond.fieldLink "ZipGuard$Unpacker" (99 : Nat) "ZipGuard$Entry" "outLength" "I" ∈ zt := zt_m1 (List.mem_of_getElem? (i := 88) rfl)
set_option maxRecDepth 100000 in
theorem zm_370 : Jvm.Cond.fieldLink "ZipGuard$Unpacker" (7 : Nat) "ZipGuard$Unpacker" "target" "LZipGuard$Target;" ∈ zt := zt_m3 (List.mem_of_getElem? (i := 42) rfl)
set_option maxRecDepth 100000 in
theorem zm_371 : Jvm.Cond.fieldLink "ZipGuard$Unpacker" (18 : Nat) "ZipGuard$Unpacker" "bits" "LZipGuard$BitReader;" ∈ zt := zt_m3 (List.mem_of_getElem? (i := 43) rfl)
set_option maxRecDepth 100000 in
theorem zm_701 : Jvm.Cond.methodLink "ZipGuard$Unpacker" (106 : Nat) ({ cls := "ZipGuard$BitReader", name := "hasWholeByteLeft", desc := "()Z" } : Jvm.MethodName) ∈ zt := zt_m4 (List.mem_of_getElem? (i := 190) rfl)
set_option maxRecDepth 100000 in
theorem zm_702 : Jvm.Cond.instanceMethod ({ cls := "ZipGuard$BitReader", name := "hasWholeByteLeft", desc := "()Z" } : Jvm.MethodName) ∈ zt := zt_m4 (List.mem_of_getElem? (i := 191) rfl)
set_option maxRecDepth 100000 in
theorem zm_703 : Jvm.Cond.selects "ZipGuard$BitReader" ({ cls := "ZipGuard$BitReader", name := "hasWholeByteLeft", desc := "()Z" } : Jvm.MethodName) ({ cls := "ZipGuard$BitReader", name := "hasWholeByteLeft", desc := "()Z" } : Jvm.MethodName) ∈ zt := zt_m4 (List.mem_of_getElem? (i := 192) rfl)
set_option maxRecDepth 100000 in
theorem zm_704 : Jvm.Cond.code ({ cls := "ZipGuard$BitReader", name := "hasWholeByteLeft", desc := "()Z" } : Jvm.MethodName) prog_2_method_5_code (1 : Nat) (Option.some Jvm.ClassFile.FieldType.boolean) ∈ zt := zt_m4 (List.mem_of_getElem? (i := 193) rfl)
set_option maxRecDepth 100000 in
theorem zm_705 : Jvm.Cond.methodLink "ZipGuard$Unpacker" (110 : Nat) ({ cls := "ZipGuard$Target", name := "sumSinceBegin", desc := "()I" } : Jvm.MethodName) ∈ zt := zt_m4 (List.mem_of_getElem? (i := 194) rfl)
set_option maxRecDepth 100000 in
theorem zm_706 : Jvm.Cond.instanceMethod ({ cls := "ZipGuard$Target", name := "sumSinceBegin", desc := "()I" } : Jvm.MethodName) ∈ zt := zt_m4 (List.mem_of_getElem? (i := 195) rfl)
set_option maxRecDepth 100000 in
theorem zm_707 : Jvm.Cond.selects "ZipGuard$Target" ({ cls := "ZipGuard$Target", name := "sumSinceBegin", desc := "()I" } : Jvm.MethodName) ({ cls := "ZipGuard$Target", name := "sumSinceBegin", desc := "()I" } : Jvm.MethodName) ∈ zt := zt_m4 (List.mem_of_getElem? (i := 196) rfl)
set_option maxRecDepth 100000 in
theorem zm_708 : Jvm.Cond.code ({ cls := "ZipGuard$Target", name := "sumSinceBegin", desc := "()I" } : Jvm.MethodName) prog_7_method_6_code (1 : Nat) (Option.some Jvm.ClassFile.FieldType.int) ∈ zt := zt_m4 (List.mem_of_getElem? (i := 197) rfl)
theorem d_B_hasWholeByteLeft_0 : decode prog_2_method_5_code 0 = .ok (.aload_n 0, 1) := by decide +kernel
theorem d_B_hasWholeByteLeft_1 : decode prog_2_method_5_code 1 = .ok (.getfield 23, 3) := by decide +kernel
theorem d_B_hasWholeByteLeft_4 : decode prog_2_method_5_code 4 = .ok (.ifCond .le 24, 3) := by decide +kernel
theorem d_B_hasWholeByteLeft_7 : decode prog_2_method_5_code 7 = .ok (.aload_n 0, 1) := by decide +kernel
theorem d_B_hasWholeByteLeft_8 : decode prog_2_method_5_code 8 = .ok (.getfield 16, 3) := by decide +kernel
theorem d_B_hasWholeByteLeft_11 : decode prog_2_method_5_code 11 = .ok (.iconst 1, 1) := by decide +kernel
theorem d_B_hasWholeByteLeft_12 : decode prog_2_method_5_code 12 = .ok (.iadd, 1) := by decide +kernel
theorem d_B_hasWholeByteLeft_13 : decode prog_2_method_5_code 13 = .ok (.aload_n 0, 1) := by decide +kernel
theorem d_B_hasWholeByteLeft_14 : decode prog_2_method_5_code 14 = .ok (.getfield 20, 3) := by decide +kernel
theorem d_B_hasWholeByteLeft_17 : decode prog_2_method_5_code 17 = .ok (.if_icmp .ge 7, 3) := by decide +kernel
theorem d_B_hasWholeByteLeft_20 : decode prog_2_method_5_code 20 = .ok (.iconst 1, 1) := by decide +kernel
theorem d_B_hasWholeByteLeft_21 : decode prog_2_method_5_code 21 = .ok (.goto 23, 3) := by decide +kernel
theorem d_B_hasWholeByteLeft_24 : decode prog_2_method_5_code 24 = .ok (.iconst 0, 1) := by decide +kernel
theorem d_B_hasWholeByteLeft_25 : decode prog_2_method_5_code 25 = .ok (.goto 19, 3) := by decide +kernel
theorem d_B_hasWholeByteLeft_28 : decode prog_2_method_5_code 28 = .ok (.aload_n 0, 1) := by decide +kernel
theorem d_B_hasWholeByteLeft_29 : decode prog_2_method_5_code 29 = .ok (.getfield 16, 3) := by decide +kernel
theorem d_B_hasWholeByteLeft_32 : decode prog_2_method_5_code 32 = .ok (.aload_n 0, 1) := by decide +kernel
theorem d_B_hasWholeByteLeft_33 : decode prog_2_method_5_code 33 = .ok (.getfield 20, 3) := by decide +kernel
theorem d_B_hasWholeByteLeft_36 : decode prog_2_method_5_code 36 = .ok (.if_icmp .ge 7, 3) := by decide +kernel
theorem d_B_hasWholeByteLeft_39 : decode prog_2_method_5_code 39 = .ok (.iconst 1, 1) := by decide +kernel
theorem d_B_hasWholeByteLeft_40 : decode prog_2_method_5_code 40 = .ok (.goto 4, 3) := by decide +kernel
theorem d_B_hasWholeByteLeft_43 : decode prog_2_method_5_code 43 = .ok (.iconst 0, 1) := by decide +kernel
theorem d_B_hasWholeByteLeft_44 : decode prog_2_method_5_code 44 = .ok (.ireturn, 1) := by decide +kernel
theorem d_U_checkWhole_0 : decode prog_8_method_4_code 0 = .ok (.aload_n 1, 1) := by decide +kernel
theorem d_U_checkWhole_1 : decode prog_8_method_4_code 1 = .ok (.getfield 99, 3) := by decide +kernel
theorem d_U_checkWhole_4 : decode prog_8_method_4_code 4 = .ok (.i2l, 1) := by decide +kernel
theorem d_U_checkWhole_5 : decode prog_8_method_4_code 5 = .ok (.aload_n 1, 1) := by decide +kernel
theorem d_U_checkWhole_6 : decode prog_8_method_4_code 6 = .ok (.getfield 102, 3) := by decide +kernel
theorem d_U_checkWhole_9 : decode prog_8_method_4_code 9 = .ok (.lcmp, 1) := by decide +kernel
theorem d_U_checkWhole_10 : decode prog_8_method_4_code 10 = .ok (.ifCond .ge 6, 3) := by decide +kernel
theorem d_U_checkWhole_13 : decode prog_8_method_4_code 13 = .ok (.bipush (-23), 2) := by decide +kernel
theorem d_U_checkWhole_15 : decode prog_8_method_4_code 15 = .ok (.ireturn, 1) := by decide +kernel
theorem d_U_checkWhole_16 : decode prog_8_method_4_code 16 = .ok (.aload_n 0, 1) := by decide +kernel
theorem d_U_checkWhole_17 : decode prog_8_method_4_code 17 = .ok (.getfield 18, 3) := by decide +kernel
theorem d_U_checkWhole_20 : decode prog_8_method_4_code 20 = .ok (.invokevirtual 106, 3) := by decide +kernel
theorem d_U_checkWhole_23 : decode prog_8_method_4_code 23 = .ok (.ifCond .eq 6, 3) := by decide +kernel
theorem d_U_checkWhole_26 : decode prog_8_method_4_code 26 = .ok (.bipush (-24), 2) := by decide +kernel
theorem d_U_checkWhole_28 : decode prog_8_method_4_code 28 = .ok (.ireturn, 1) := by decide +kernel
theorem d_U_checkWhole_29 : decode prog_8_method_4_code 29 = .ok (.aload_n 0, 1) := by decide +kernel
theorem d_U_checkWhole_30 : decode prog_8_method_4_code 30 = .ok (.getfield 7, 3) := by decide +kernel
theorem d_U_checkWhole_33 : decode prog_8_method_4_code 33 = .ok (.invokevirtual 110, 3) := by decide +kernel
theorem d_U_checkWhole_36 : decode prog_8_method_4_code 36 = .ok (.aload_n 1, 1) := by decide +kernel
theorem d_U_checkWhole_37 : decode prog_8_method_4_code 37 = .ok (.getfield 114, 3) := by decide +kernel
theorem d_U_checkWhole_40 : decode prog_8_method_4_code 40 = .ok (.if_icmp .ne 7, 3) := by decide +kernel
theorem d_U_checkWhole_43 : decode prog_8_method_4_code 43 = .ok (.iconst 0, 1) := by decide +kernel
theorem d_U_checkWhole_44 : decode prog_8_method_4_code 44 = .ok (.goto 5, 3) := by decide +kernel
theorem d_U_checkWhole_47 : decode prog_8_method_4_code 47 = .ok (.bipush (-25), 2) := by decide +kernel
theorem d_U_checkWhole_49 : decode prog_8_method_4_code 49 = .ok (.ireturn, 1) := by decide +kernel
theorem d_U_leastTimes_0 : decode prog_8_method_12_code 0 = .ok (.iload_n 1, 1) := by decide +kernel
theorem d_U_leastTimes_1 : decode prog_8_method_12_code 1 = .ok (.bipush 16, 2) := by decide +kernel
theorem d_U_leastTimes_3 : decode prog_8_method_12_code 3 = .ok (.if_icmp .ge 7, 3) := by decide +kernel
theorem d_U_leastTimes_6 : decode prog_8_method_12_code 6 = .ok (.iconst 1, 1) := by decide +kernel
theorem d_U_leastTimes_7 : decode prog_8_method_12_code 7 = .ok (.goto 15, 3) := by decide +kernel
theorem d_U_leastTimes_10 : decode prog_8_method_12_code 10 = .ok (.iload_n 1, 1) := by decide +kernel
theorem d_U_leastTimes_11 : decode prog_8_method_12_code 11 = .ok (.bipush 18, 2) := by decide +kernel
theorem d_U_leastTimes_13 : decode prog_8_method_12_code 13 = .ok (.if_icmp .ge 7, 3) := by decide +kernel
theorem d_U_leastTimes_16 : decode prog_8_method_12_code 16 = .ok (.iconst 3, 1) := by decide +kernel
theorem d_U_leastTimes_17 : decode prog_8_method_12_code 17 = .ok (.goto 5, 3) := by decide +kernel
theorem d_U_leastTimes_20 : decode prog_8_method_12_code 20 = .ok (.bipush 11, 2) := by decide +kernel
theorem d_U_leastTimes_22 : decode prog_8_method_12_code 22 = .ok (.ireturn, 1) := by decide +kernel
theorem d_U_repeatBits_0 : decode prog_8_method_11_code 0 = .ok (.iload_n 1, 1) := by decide +kernel
theorem d_U_repeatBits_1 : decode prog_8_method_11_code 1 = .ok (.tableswitch 34 16 18 #[27, 29, 31], 27) := by decide +kernel
theorem d_U_repeatBits_28 : decode prog_8_method_11_code 28 = .ok (.iconst 2, 1) := by decide +kernel
theorem d_U_repeatBits_29 : decode prog_8_method_11_code 29 = .ok (.ireturn, 1) := by decide +kernel
theorem d_U_repeatBits_30 : decode prog_8_method_11_code 30 = .ok (.iconst 3, 1) := by decide +kernel
theorem d_U_repeatBits_31 : decode prog_8_method_11_code 31 = .ok (.ireturn, 1) := by decide +kernel
theorem d_U_repeatBits_32 : decode prog_8_method_11_code 32 = .ok (.bipush 7, 2) := by decide +kernel
theorem d_U_repeatBits_34 : decode prog_8_method_11_code 34 = .ok (.ireturn, 1) := by decide +kernel
theorem d_U_repeatBits_35 : decode prog_8_method_11_code 35 = .ok (.iconst 0, 1) := by decide +kernel
theorem d_U_repeatBits_36 : decode prog_8_method_11_code 36 = .ok (.ireturn, 1) := by decide +kernel
set_option maxHeartbeats 4000000 in
set_option maxRecDepth 100000 in
theorem r_B_has (l : Launch) (D : va_G) (qr : Nat) (qb : Nat) (bh : Nat) (a : Nat) (u : Nat) (hu : u ≤ 7) (ha : a ≤ 20000) (hbh : bh ≤ 20000) : Met l y_B_hasWholeByteLeft (Cond.code y_B_hasWholeByteLeft prog_2_method_5_code 1 (Option.some Jvm.ClassFile.FieldType.boolean) :: zt) { frames := 0, cells := 0, slots := 0, locals := 0 } (zPcR [.ref qr] D [(qr, .inr (5, [.ref qb, .int (nI a), .int (nI bh), .int (nI u)]))] [] (fun _ => True)) (zQR (fun (r : Int32) => (r = 1 ∧ (8 * a + u + 7) / 8 < bh) ∨ (r = 0 ∧ ¬ (8 * a + u + 7) / 8 < bh))) 0 0 (fun _ => False) :=
  zMetR (by decide) (Nat.le_of_ble_eq_true rfl) (fun p e s m below meth c ls hx hb hr hml hown ht hlk hK hP hX hl => by
    have hl : lv_has ls 1 [(0, .ref qr)] := hl
    refine lv_aload_n hx hb d_B_hasWholeByteLeft_0 rfl (lv_at hl 0 rfl) ?_
    refine va_get (ci := 5) (C := "ZipGuard$BitReader") (T := F_B) (N := 4) hx hb ht zi_B hown hK hP 0 rfl rfl 3 (by decide) (ht _ zm_240) (fun _ h9 => h9) rfl d_B_hasWholeByteLeft_1 ?_
    by_cases h0 : u = 0
    · skip
      refine lv_if_le (tgt := 28) hx hb d_B_hasWholeByteLeft_4 (by decide) (fun _ => ?_) (fun h => absurd (by rw [h0]; decide) h)
      subst h0
      refine lv_aload_n hx hb d_B_hasWholeByteLeft_28 rfl (lv_at hl 0 rfl) ?_
      refine va_get (ci := 5) (C := "ZipGuard$BitReader") (T := F_B) (N := 4) hx hb ht zi_B hown hK hP 0 rfl rfl 1 (by decide) (ht _ zm_238) (fun _ h9 => h9) rfl d_B_hasWholeByteLeft_29 ?_
      refine lv_aload_n hx hb d_B_hasWholeByteLeft_32 rfl (lv_at hl 0 rfl) ?_
      refine va_get (ci := 5) (C := "ZipGuard$BitReader") (T := F_B) (N := 4) hx hb ht zi_B hown hK hP 0 rfl rfl 2 (by decide) (ht _ zm_239) (fun _ h9 => h9) rfl d_B_hasWholeByteLeft_33 ?_
      by_cases h1 : bh ≤ a
      · skip
        refine lv_icmp_ge (tgt := 43) hx hb d_B_hasWholeByteLeft_36 (by decide) (fun _ => ?_) (fun h => absurd (nI_le h1 (by omega)) h)
        refine lv_iconst (v := 0) hx hb d_B_hasWholeByteLeft_43 (by decide) ?_
        exact zretRz hx hb hr hlk (Or.inr ⟨rfl, by omega⟩) rfl d_B_hasWholeByteLeft_44
      · skip
        refine lv_icmp_ge (tgt := 43) hx hb d_B_hasWholeByteLeft_36 (by decide) (fun h => absurd h (nI_ge (by omega) (by omega))) (fun _ => ?_)
        refine lv_iconst (v := 1) hx hb d_B_hasWholeByteLeft_39 (by decide) ?_
        refine lv_goto (tgt := 44) hx hb d_B_hasWholeByteLeft_40 (by decide) ?_
        exact zretRz hx hb hr hlk (Or.inl ⟨rfl, by omega⟩) rfl d_B_hasWholeByteLeft_44
    · skip
      refine lv_if_le (tgt := 28) hx hb d_B_hasWholeByteLeft_4 (by decide) (fun h => absurd h (nI_nle (by omega) (by omega))) (fun _ => ?_)
      refine lv_aload_n hx hb d_B_hasWholeByteLeft_7 rfl (lv_at hl 0 rfl) ?_
      refine va_get (ci := 5) (C := "ZipGuard$BitReader") (T := F_B) (N := 4) hx hb ht zi_B hown hK hP 0 rfl rfl 1 (by decide) (ht _ zm_238) (fun _ h9 => h9) rfl d_B_hasWholeByteLeft_8 ?_
      refine lv_iconst (v := 1) hx hb d_B_hasWholeByteLeft_11 (by decide) ?_
      refine lv_iadd hx hb d_B_hasWholeByteLeft_12 ?_
      refine lv_topi (fun x5 e_x5 => ?_)
      have e_x5 : x5 = nI (a + 1) := by rw [e_x5]; exact nI_1 a
      subst e_x5
      refine lv_aload_n hx hb d_B_hasWholeByteLeft_13 rfl (lv_at hl 0 rfl) ?_
      refine va_get (ci := 5) (C := "ZipGuard$BitReader") (T := F_B) (N := 4) hx hb ht zi_B hown hK hP 0 rfl rfl 2 (by decide) (ht _ zm_239) (fun _ h9 => h9) rfl d_B_hasWholeByteLeft_14 ?_
      by_cases h1 : bh ≤ a + 1
      · skip
        refine lv_icmp_ge (tgt := 24) hx hb d_B_hasWholeByteLeft_17 (by decide) (fun _ => ?_) (fun h => absurd (nI_le h1 (by omega)) h)
        refine lv_iconst (v := 0) hx hb d_B_hasWholeByteLeft_24 (by decide) ?_
        refine lv_goto (tgt := 44) hx hb d_B_hasWholeByteLeft_25 (by decide) ?_
        exact zretRz hx hb hr hlk (Or.inr ⟨rfl, by omega⟩) rfl d_B_hasWholeByteLeft_44
      · skip
        refine lv_icmp_ge (tgt := 24) hx hb d_B_hasWholeByteLeft_17 (by decide) (fun h => absurd h (nI_ge (by omega) (by omega))) (fun _ => ?_)
        refine lv_iconst (v := 1) hx hb d_B_hasWholeByteLeft_20 (by decide) ?_
        refine lv_goto (tgt := 44) hx hb d_B_hasWholeByteLeft_21 (by decide) ?_
        exact zretRz hx hb hr hlk (Or.inl ⟨rfl, by omega⟩) rfl d_B_hasWholeByteLeft_44)
set_option maxHeartbeats 4000000 in
set_option maxRecDepth 100000 in
theorem r_U_chk (l : Launch) (D : va_G) (qu : Nat) (qw : Nat) (s1 : Nat) (s2 : Nat) (s3 : Nat) (s4 : Nat) (s5 : Nat) (qr : Nat) (qb : Nat) (qa : Nat) (qo : Nat) (qe : Nat) (bh : Nat) (a : Nat) (u : Nat) (ks : Int32) (bu : Int32) (ra : Int32) (to : Int32) (en : Nat) (nl : Int32) (fo : Int32) (me : Int32) (pk : Int32) (zz : Int64) (su : Int32) (lp : Int32) (pp : Int32) (sa : Int32) (op : Int32) (ol : Nat) (hu : u ≤ 7) (ha : a ≤ 20000) (hbh : bh ≤ 20000) : Met l y_U_checkWhole (Cond.code y_U_checkWhole prog_8_method_4_code 2 (Option.some Jvm.ClassFile.FieldType.int) :: zt) { frames := 1, cells := 0, slots := 0, locals := 20 } (zPcR [.ref qu, .ref qe] D [(qu, .inr (4, [.ref qa, .ref qr, .ref qw, .ref s1, .ref s2, .ref s3, .ref s4, .ref s5])), (qr, .inr (5, [.ref qb, .int (nI a), .int (nI bh), .int (nI u)])), (qa, .inr (3, [.int bu, .int ra, .int to, .ref qo, .int ks])), (qe, .inr (7, [.ref en, .int nl, .int fo, .int me, .int pk, .long zz, .int su, .int lp, .int pp, .int sa, .int op, .int (nI ol)]))] [] (fun _ => True)) (zQR (fun (r : Int32) => r = if (nI ol).toInt64 < zz then -23 else if (8 * a + u + 7) / 8 < bh then -24 else if ks ^^^ (-1) = su then 0 else -25)) 0 0 (fun _ => False) :=
  zMetR (by decide) (Nat.le_of_ble_eq_true rfl) (fun p e s m below meth c ls hx hb hr hml hown ht hlk hK hP hX hl => by
    have hl : lv_has ls 2 [(0, .ref qu), (1, .ref qe)] := hl
    refine lv_aload_n hx hb d_U_checkWhole_0 rfl (lv_at hl 1 rfl) ?_
    refine va_get (ci := 7) (C := "ZipGuard$Entry") (T := F_E) (N := 12) hx hb ht zi_E hown hK hP 3 rfl rfl 11 (by decide) (ht _ zm_152) (fun _ h9 => h9) rfl d_U_checkWhole_1 ?_
    refine lv_i2l hx hb d_U_checkWhole_4 rfl ?_
    refine lv_aload_n hx hb d_U_checkWhole_5 rfl (lv_at hl 1 rfl) ?_
    refine va_get (ci := 7) (C := "ZipGuard$Entry") (T := F_E) (N := 12) hx hb ht zi_E hown hK hP 3 rfl rfl 5 (by decide) (ht _ zm_134) (fun _ h9 => h9) rfl d_U_checkWhole_6 ?_
    refine W.lcmp hx hb d_U_checkWhole_9 ?_
    by_cases h1 : (nI ol).toInt64 < zz
    · skip
      refine lv_if_ge (tgt := 16) hx hb d_U_checkWhole_10 (by decide) (fun h => absurd h (show ¬ 0 ≤ lg_cmp (nI ol).toInt64 zz from fun h => absurd ((zcmp_lt _ _).mpr h1) (by have h2 := Int32.le_iff_toInt_le.mp h; rw [Int32.lt_iff_toInt_lt]; omega))) (fun _ => ?_)
      refine lv_bipush (v := (-23)) hx hb d_U_checkWhole_13 (by decide) ?_
      exact zretR hx hb hr hlk (by rw [if_pos h1]) d_U_checkWhole_15
    · skip
      refine lv_if_ge (tgt := 16) hx hb d_U_checkWhole_10 (by decide) (fun _ => ?_) (fun h => absurd (show 0 ≤ lg_cmp (nI ol).toInt64 zz from by have h2 := mt (zcmp_lt _ _).mp h1; rw [Int32.lt_iff_toInt_lt] at h2; rw [Int32.le_iff_toInt_le]; omega) h)
      refine lv_aload_n hx hb d_U_checkWhole_16 rfl (lv_at hl 0 rfl) ?_
      refine va_get (ci := 4) (C := "ZipGuard$Unpacker") (T := F_U) (N := 8) hx hb ht zi_U hown hK hP 0 rfl rfl 1 (by decide) (ht _ zm_371) (fun _ h9 => h9) rfl d_U_checkWhole_17 ?_
      refine zjR (va_runV (As := []) (rest := []) ⟨hx, hb, hml, hown, ht⟩ (r_B_has l D qr qb bh a u hu ha hbh) (cwV 0 ht (zt_goodV zm_701 zm_702 zm_703 zm_71 zm_704) rfl rfl rfl (by decide +kernel) ⟨Nat.le_of_ble_eq_true rfl, Nat.le_of_ble_eq_true rfl⟩) (zpreRV zBlind_t hK hP [1] [] rfl rfl (fun _ _ _ => trivial) (va_recv (q := ("ZipGuard$BitReader", F_B, 4)) hK hP rfl (q0 := 1) (ci := 5) rfl)) rfl rfl hl.1 rfl (lv_room (Nat.le_of_ble_eq_true rfl)) d_U_checkWhole_20 ⟨Nat.le_of_ble_eq_true rfl, Nat.le_of_ble_eq_true rfl⟩) (fun r3 hp4 => ?_)
      rcases hp4 with ⟨hp4, h2⟩ | ⟨hp4, h2⟩
      · skip
        have hp4 := hp4.symm
        subst hp4
        refine lv_if_eq (tgt := 29) hx hb d_U_checkWhole_23 (by decide) (fun h => absurd h (by decide)) (fun _ => ?_)
        refine lv_bipush (v := (-24)) hx hb d_U_checkWhole_26 (by decide) ?_
        exact zretR hx hb hr hlk (by rw [if_neg h1, if_pos h2]) d_U_checkWhole_28
      · skip
        have hp4 := hp4.symm
        subst hp4
        refine lv_if_eq (tgt := 29) hx hb d_U_checkWhole_23 (by decide) (fun _ => ?_) (fun h => absurd (by decide) h)
        refine lv_aload_n hx hb d_U_checkWhole_29 rfl (lv_at hl 0 rfl) ?_
        refine va_get (ci := 4) (C := "ZipGuard$Unpacker") (T := F_U) (N := 8) hx hb ht zi_U hown hK hP 0 rfl rfl 0 (by decide) (ht _ zm_370) (fun _ h9 => h9) rfl d_U_checkWhole_30 ?_
        refine zjR (va_runV (As := []) (rest := []) ⟨hx, hb, hml, hown, ht⟩ (r_A_sum l D qa qo ks bu ra to ) (cwV 0 ht (zt_goodV zm_705 zm_706 zm_707 zm_69 zm_708) rfl rfl rfl (by decide +kernel) ⟨Nat.le_of_ble_eq_true rfl, Nat.le_of_ble_eq_true rfl⟩) (zpreRV zBlind_t hK hP [2] [] rfl rfl (fun _ _ _ => trivial) (va_recv (q := ("ZipGuard$Target", F_A, 5)) hK hP rfl (q0 := 2) (ci := 3) rfl)) rfl rfl hl.1 rfl (lv_room (Nat.le_of_ble_eq_true rfl)) d_U_checkWhole_33 ⟨Nat.le_of_ble_eq_true rfl, Nat.le_of_ble_eq_true rfl⟩) (fun r7 hp8 => ?_)
        have hp8 := hp8.symm
        subst hp8
        refine lv_aload_n hx hb d_U_checkWhole_36 rfl (lv_at hl 1 rfl) ?_
        refine va_get (ci := 7) (C := "ZipGuard$Entry") (T := F_E) (N := 12) hx hb ht zi_E hown hK hP 3 rfl rfl 6 (by decide) (ht _ zm_137) (fun _ h9 => h9) rfl d_U_checkWhole_37 ?_
        by_cases h3 : ks ^^^ (-1) = su
        · skip
          refine lv_icmp_ne (tgt := 47) hx hb d_U_checkWhole_40 (by decide) (fun h => absurd (h3) h) (fun _ => ?_)
          refine lv_iconst (v := 0) hx hb d_U_checkWhole_43 (by decide) ?_
          refine lv_goto (tgt := 49) hx hb d_U_checkWhole_44 (by decide) ?_
          exact zretR hx hb hr hlk (by rw [if_neg h1, if_neg h2, if_pos h3]) d_U_checkWhole_49
        · skip
          refine lv_icmp_ne (tgt := 47) hx hb d_U_checkWhole_40 (by decide) (fun _ => ?_) (fun h => absurd h (h3))
          refine lv_bipush (v := (-25)) hx hb d_U_checkWhole_47 (by decide) ?_
          exact zretR hx hb hr hlk (by rw [if_neg h1, if_neg h2, if_neg h3]) d_U_checkWhole_49)
set_option maxHeartbeats 4000000 in
set_option maxRecDepth 100000 in
theorem r_U_rep (l : Launch) (D : va_G) (qu : Nat) (qw : Nat) (s1 : Nat) (s2 : Nat) (s3 : Nat) (s4 : Nat) (s5 : Nat) (qr : Nat) (qa : Nat) (y : Nat) (hy : y ≤ 18) : Met l y_U_repeatBits (Cond.code y_U_repeatBits prog_8_method_11_code 2 (Option.some Jvm.ClassFile.FieldType.int) :: zt) { frames := 0, cells := 0, slots := 0, locals := 0 } (zPcR [.ref qu, .int (nI y)] D [(qu, .inr (4, [.ref qa, .ref qr, .ref qw, .ref s1, .ref s2, .ref s3, .ref s4, .ref s5]))] [] (fun _ => True)) (zQR (fun (r : Int32) => r = nI (zrep y))) 0 0 (fun _ => False) :=
  zMetR (by decide) (Nat.le_of_ble_eq_true rfl) (fun p e s m below meth c ls hx hb hr hml hown ht hlk hK hP hX hl => by
    have hl : lv_has ls 2 [(0, .ref qu), (1, .int (nI y))] := hl
    refine lv_iload_n hx hb d_U_repeatBits_0 rfl (lv_at hl 1 rfl) ?_
    by_cases h16 : y = 16
    · skip
      subst h16
      refine lv_tableIn (off := 27) (tgt := 28) hx hb d_U_repeatBits_1 (by decide) (by decide) (by decide) (by decide) ?_
      refine lv_iconst (v := 2) hx hb d_U_repeatBits_28 (by decide) ?_
      exact zretR hx hb hr hlk (rfl) d_U_repeatBits_29
    · skip
      by_cases h17 : y = 17
      · skip
        subst h17
        refine lv_tableIn (off := 29) (tgt := 30) hx hb d_U_repeatBits_1 (by decide) (by decide) (by decide) (by decide) ?_
        refine lv_iconst (v := 3) hx hb d_U_repeatBits_30 (by decide) ?_
        exact zretR hx hb hr hlk (rfl) d_U_repeatBits_31
      · skip
        by_cases h18 : y = 18
        · skip
          subst h18
          refine lv_tableIn (off := 31) (tgt := 32) hx hb d_U_repeatBits_1 (by decide) (by decide) (by decide) (by decide) ?_
          refine lv_bipush (v := 7) hx hb d_U_repeatBits_32 (by decide) ?_
          exact zretR hx hb hr hlk (rfl) d_U_repeatBits_34
        · skip
          refine lv_tableOut (tgt := 35) hx hb d_U_repeatBits_1 (Or.inl (by rw [nI_toInt (by omega)]; omega)) (by decide) ?_
          refine lv_iconst (v := 0) hx hb d_U_repeatBits_35 (by decide) ?_
          exact zretR hx hb hr hlk (by unfold zrep; rw [if_neg h16, if_neg h17, if_neg h18]; rfl) d_U_repeatBits_36)
set_option maxHeartbeats 4000000 in
set_option maxRecDepth 100000 in
theorem r_U_lst (l : Launch) (D : va_G) (qu : Nat) (qw : Nat) (s1 : Nat) (s2 : Nat) (s3 : Nat) (s4 : Nat) (s5 : Nat) (qr : Nat) (qa : Nat) (y : Nat) (hy : y ≤ 18) : Met l y_U_leastTimes (Cond.code y_U_leastTimes prog_8_method_12_code 2 (Option.some Jvm.ClassFile.FieldType.int) :: zt) { frames := 0, cells := 0, slots := 0, locals := 0 } (zPcR [.ref qu, .int (nI y)] D [(qu, .inr (4, [.ref qa, .ref qr, .ref qw, .ref s1, .ref s2, .ref s3, .ref s4, .ref s5]))] [] (fun _ => True)) (zQR (fun (r : Int32) => r = nI (zlst y))) 0 0 (fun _ => False) :=
  zMetR (by decide) (Nat.le_of_ble_eq_true rfl) (fun p e s m below meth c ls hx hb hr hml hown ht hlk hK hP hX hl => by
    have hl : lv_has ls 2 [(0, .ref qu), (1, .int (nI y))] := hl
    refine lv_iload_n hx hb d_U_leastTimes_0 rfl (lv_at hl 1 rfl) ?_
    refine lv_bipush (v := 16) hx hb d_U_leastTimes_1 (by decide) ?_
    by_cases h1 : y < 16
    · skip
      refine lv_icmp_ge (tgt := 10) hx hb d_U_leastTimes_3 (by decide) (fun h => absurd h (show ¬ nI 16 ≤ nI y from nI_ge h1 (by decide))) (fun _ => ?_)
      refine lv_iconst (v := 1) hx hb d_U_leastTimes_6 (by decide) ?_
      refine lv_goto (tgt := 22) hx hb d_U_leastTimes_7 (by decide) ?_
      exact zretR hx hb hr hlk (by unfold zlst; rw [if_pos h1]; rfl) d_U_leastTimes_22
    · skip
      refine lv_icmp_ge (tgt := 10) hx hb d_U_leastTimes_3 (by decide) (fun _ => ?_) (fun h => absurd (show nI 16 ≤ nI y from nI_le (by omega) (by omega)) h)
      refine lv_iload_n hx hb d_U_leastTimes_10 rfl (lv_at hl 1 rfl) ?_
      refine lv_bipush (v := 18) hx hb d_U_leastTimes_11 (by decide) ?_
      by_cases h2 : y < 18
      · skip
        refine lv_icmp_ge (tgt := 20) hx hb d_U_leastTimes_13 (by decide) (fun h => absurd h (show ¬ nI 18 ≤ nI y from nI_ge h2 (by decide))) (fun _ => ?_)
        refine lv_iconst (v := 3) hx hb d_U_leastTimes_16 (by decide) ?_
        refine lv_goto (tgt := 22) hx hb d_U_leastTimes_17 (by decide) ?_
        exact zretR hx hb hr hlk (by unfold zlst; rw [if_neg h1, if_pos h2]; rfl) d_U_leastTimes_22
      · skip
        refine lv_icmp_ge (tgt := 20) hx hb d_U_leastTimes_13 (by decide) (fun _ => ?_) (fun h => absurd (show nI 18 ≤ nI y from nI_le (by omega) (by omega)) h)
        refine lv_bipush (v := 11) hx hb d_U_leastTimes_20 (by decide) ?_
        exact zretR hx hb hr hlk (by unfold zlst; rw [if_neg h1, if_neg h2]; rfl) d_U_leastTimes_22)
