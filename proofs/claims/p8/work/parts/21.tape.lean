set_option maxRecDepth 100000 in
theorem zm_66 : Jvm.Cond.initialized "ZipGuard$Tape" ∈ zt := zt_m1 (List.mem_of_getElem? (i := 2) rfl)
set_option maxRecDepth 100000 in
theorem zm_427 : Jvm.Cond.methodLink "ZipGuard$Tape" (21 : Nat) ({ cls := "ZipGuard$Tape", name := "byteAt", desc := "(I)I" } : Jvm.MethodName) ∈ zt := zt_m3 (List.mem_of_getElem? (i := 99) rfl)
set_option maxRecDepth 100000 in
theorem zm_428 : Jvm.Cond.instanceMethod ({ cls := "ZipGuard$Tape", name := "byteAt", desc := "(I)I" } : Jvm.MethodName) ∈ zt := zt_m3 (List.mem_of_getElem? (i := 100) rfl)
set_option maxRecDepth 100000 in
theorem zm_429 : Jvm.Cond.selects "ZipGuard$Tape" ({ cls := "ZipGuard$Tape", name := "byteAt", desc := "(I)I" } : Jvm.MethodName) ({ cls := "ZipGuard$Tape", name := "byteAt", desc := "(I)I" } : Jvm.MethodName) ∈ zt := zt_m3 (List.mem_of_getElem? (i := 101) rfl)
set_option maxRecDepth 100000 in
theorem zm_430 : Jvm.Cond.code ({ cls := "ZipGuard$Tape", name := "byteAt", desc := "(I)I" } : Jvm.MethodName) prog_6_method_6_code (2 : Nat) (Option.some Jvm.ClassFile.FieldType.int) ∈ zt := zt_m3 (List.mem_of_getElem? (i := 102) rfl)
theorem d_T_byteAt_0 : decode prog_6_method_6_code 0 = .ok (.iload_n 1, 1) := by decide +kernel
theorem d_T_byteAt_1 : decode prog_6_method_6_code 1 = .ok (.ifCond .lt 24, 3) := by decide +kernel
theorem d_T_byteAt_4 : decode prog_6_method_6_code 4 = .ok (.iload_n 1, 1) := by decide +kernel
theorem d_T_byteAt_5 : decode prog_6_method_6_code 5 = .ok (.aload_n 0, 1) := by decide +kernel
theorem d_T_byteAt_6 : decode prog_6_method_6_code 6 = .ok (.getfield 13, 3) := by decide +kernel
theorem d_T_byteAt_9 : decode prog_6_method_6_code 9 = .ok (.if_icmp .ge 16, 3) := by decide +kernel
theorem d_T_byteAt_12 : decode prog_6_method_6_code 12 = .ok (.aload_n 0, 1) := by decide +kernel
theorem d_T_byteAt_13 : decode prog_6_method_6_code 13 = .ok (.getfield 9, 3) := by decide +kernel
theorem d_T_byteAt_16 : decode prog_6_method_6_code 16 = .ok (.iload_n 1, 1) := by decide +kernel
theorem d_T_byteAt_17 : decode prog_6_method_6_code 17 = .ok (.baload, 1) := by decide +kernel
theorem d_T_byteAt_18 : decode prog_6_method_6_code 18 = .ok (.sipush 255, 3) := by decide +kernel
theorem d_T_byteAt_21 : decode prog_6_method_6_code 21 = .ok (.iand, 1) := by decide +kernel
theorem d_T_byteAt_22 : decode prog_6_method_6_code 22 = .ok (.goto 4, 3) := by decide +kernel
theorem d_T_byteAt_25 : decode prog_6_method_6_code 25 = .ok (.iconst 0, 1) := by decide +kernel
theorem d_T_byteAt_26 : decode prog_6_method_6_code 26 = .ok (.ireturn, 1) := by decide +kernel
theorem d_T_fourAt_0 : decode prog_6_method_8_code 0 = .ok (.aload_n 0, 1) := by decide +kernel
theorem d_T_fourAt_1 : decode prog_6_method_8_code 1 = .ok (.iload_n 1, 1) := by decide +kernel
theorem d_T_fourAt_2 : decode prog_6_method_8_code 2 = .ok (.invokevirtual 21, 3) := by decide +kernel
theorem d_T_fourAt_5 : decode prog_6_method_8_code 5 = .ok (.aload_n 0, 1) := by decide +kernel
theorem d_T_fourAt_6 : decode prog_6_method_8_code 6 = .ok (.iload_n 1, 1) := by decide +kernel
theorem d_T_fourAt_7 : decode prog_6_method_8_code 7 = .ok (.iconst 1, 1) := by decide +kernel
theorem d_T_fourAt_8 : decode prog_6_method_8_code 8 = .ok (.iadd, 1) := by decide +kernel
theorem d_T_fourAt_9 : decode prog_6_method_8_code 9 = .ok (.invokevirtual 21, 3) := by decide +kernel
theorem d_T_fourAt_12 : decode prog_6_method_8_code 12 = .ok (.bipush 8, 2) := by decide +kernel
theorem d_T_fourAt_14 : decode prog_6_method_8_code 14 = .ok (.ishl, 1) := by decide +kernel
theorem d_T_fourAt_15 : decode prog_6_method_8_code 15 = .ok (.ior, 1) := by decide +kernel
theorem d_T_fourAt_16 : decode prog_6_method_8_code 16 = .ok (.aload_n 0, 1) := by decide +kernel
theorem d_T_fourAt_17 : decode prog_6_method_8_code 17 = .ok (.iload_n 1, 1) := by decide +kernel
theorem d_T_fourAt_18 : decode prog_6_method_8_code 18 = .ok (.iconst 2, 1) := by decide +kernel
theorem d_T_fourAt_19 : decode prog_6_method_8_code 19 = .ok (.iadd, 1) := by decide +kernel
theorem d_T_fourAt_20 : decode prog_6_method_8_code 20 = .ok (.invokevirtual 21, 3) := by decide +kernel
theorem d_T_fourAt_23 : decode prog_6_method_8_code 23 = .ok (.bipush 16, 2) := by decide +kernel
theorem d_T_fourAt_25 : decode prog_6_method_8_code 25 = .ok (.ishl, 1) := by decide +kernel
theorem d_T_fourAt_26 : decode prog_6_method_8_code 26 = .ok (.ior, 1) := by decide +kernel
theorem d_T_fourAt_27 : decode prog_6_method_8_code 27 = .ok (.i2l, 1) := by decide +kernel
theorem d_T_fourAt_28 : decode prog_6_method_8_code 28 = .ok (.aload_n 0, 1) := by decide +kernel
theorem d_T_fourAt_29 : decode prog_6_method_8_code 29 = .ok (.iload_n 1, 1) := by decide +kernel
theorem d_T_fourAt_30 : decode prog_6_method_8_code 30 = .ok (.iconst 3, 1) := by decide +kernel
theorem d_T_fourAt_31 : decode prog_6_method_8_code 31 = .ok (.iadd, 1) := by decide +kernel
theorem d_T_fourAt_32 : decode prog_6_method_8_code 32 = .ok (.invokevirtual 21, 3) := by decide +kernel
theorem d_T_fourAt_35 : decode prog_6_method_8_code 35 = .ok (.i2l, 1) := by decide +kernel
theorem d_T_fourAt_36 : decode prog_6_method_8_code 36 = .ok (.bipush 24, 2) := by decide +kernel
theorem d_T_fourAt_38 : decode prog_6_method_8_code 38 = .ok (.lshl, 1) := by decide +kernel
theorem d_T_fourAt_39 : decode prog_6_method_8_code 39 = .ok (.lor, 1) := by decide +kernel
theorem d_T_fourAt_40 : decode prog_6_method_8_code 40 = .ok (.lreturn, 1) := by decide +kernel
theorem d_T_hasMarkAt_0 : decode prog_6_method_9_code 0 = .ok (.aload_n 0, 1) := by decide +kernel
theorem d_T_hasMarkAt_1 : decode prog_6_method_9_code 1 = .ok (.iload_n 1, 1) := by decide +kernel
theorem d_T_hasMarkAt_2 : decode prog_6_method_9_code 2 = .ok (.invokevirtual 21, 3) := by decide +kernel
theorem d_T_hasMarkAt_5 : decode prog_6_method_9_code 5 = .ok (.bipush 80, 2) := by decide +kernel
theorem d_T_hasMarkAt_7 : decode prog_6_method_9_code 7 = .ok (.if_icmp .ne 41, 3) := by decide +kernel
theorem d_T_hasMarkAt_10 : decode prog_6_method_9_code 10 = .ok (.aload_n 0, 1) := by decide +kernel
theorem d_T_hasMarkAt_11 : decode prog_6_method_9_code 11 = .ok (.iload_n 1, 1) := by decide +kernel
theorem d_T_hasMarkAt_12 : decode prog_6_method_9_code 12 = .ok (.iconst 1, 1) := by decide +kernel
theorem d_T_hasMarkAt_13 : decode prog_6_method_9_code 13 = .ok (.iadd, 1) := by decide +kernel
theorem d_T_hasMarkAt_14 : decode prog_6_method_9_code 14 = .ok (.invokevirtual 21, 3) := by decide +kernel
theorem d_T_hasMarkAt_17 : decode prog_6_method_9_code 17 = .ok (.bipush 75, 2) := by decide +kernel
theorem d_T_hasMarkAt_19 : decode prog_6_method_9_code 19 = .ok (.if_icmp .ne 29, 3) := by decide +kernel
theorem d_T_hasMarkAt_22 : decode prog_6_method_9_code 22 = .ok (.aload_n 0, 1) := by decide +kernel
theorem d_T_hasMarkAt_23 : decode prog_6_method_9_code 23 = .ok (.iload_n 1, 1) := by decide +kernel
theorem d_T_hasMarkAt_24 : decode prog_6_method_9_code 24 = .ok (.iconst 2, 1) := by decide +kernel
theorem d_T_hasMarkAt_25 : decode prog_6_method_9_code 25 = .ok (.iadd, 1) := by decide +kernel
theorem d_T_hasMarkAt_26 : decode prog_6_method_9_code 26 = .ok (.invokevirtual 21, 3) := by decide +kernel
theorem d_T_hasMarkAt_29 : decode prog_6_method_9_code 29 = .ok (.iload_n 2, 1) := by decide +kernel
theorem d_T_hasMarkAt_30 : decode prog_6_method_9_code 30 = .ok (.if_icmp .ne 18, 3) := by decide +kernel
theorem d_T_hasMarkAt_33 : decode prog_6_method_9_code 33 = .ok (.aload_n 0, 1) := by decide +kernel
theorem d_T_hasMarkAt_34 : decode prog_6_method_9_code 34 = .ok (.iload_n 1, 1) := by decide +kernel
theorem d_T_hasMarkAt_35 : decode prog_6_method_9_code 35 = .ok (.iconst 3, 1) := by decide +kernel
theorem d_T_hasMarkAt_36 : decode prog_6_method_9_code 36 = .ok (.iadd, 1) := by decide +kernel
theorem d_T_hasMarkAt_37 : decode prog_6_method_9_code 37 = .ok (.invokevirtual 21, 3) := by decide +kernel
theorem d_T_hasMarkAt_40 : decode prog_6_method_9_code 40 = .ok (.iload_n 3, 1) := by decide +kernel
theorem d_T_hasMarkAt_41 : decode prog_6_method_9_code 41 = .ok (.if_icmp .ne 7, 3) := by decide +kernel
theorem d_T_hasMarkAt_44 : decode prog_6_method_9_code 44 = .ok (.iconst 1, 1) := by decide +kernel
theorem d_T_hasMarkAt_45 : decode prog_6_method_9_code 45 = .ok (.goto 4, 3) := by decide +kernel
theorem d_T_hasMarkAt_48 : decode prog_6_method_9_code 48 = .ok (.iconst 0, 1) := by decide +kernel
theorem d_T_hasMarkAt_49 : decode prog_6_method_9_code 49 = .ok (.ireturn, 1) := by decide +kernel
theorem d_T_isSame_0 : decode prog_6_method_10_code 0 = .ok (.iconst 0, 1) := by decide +kernel
theorem d_T_isSame_1 : decode prog_6_method_10_code 1 = .ok (.istore 4, 2) := by decide +kernel
theorem d_T_isSame_3 : decode prog_6_method_10_code 3 = .ok (.iload 4, 2) := by decide +kernel
theorem d_T_isSame_5 : decode prog_6_method_10_code 5 = .ok (.iload_n 3, 1) := by decide +kernel
theorem d_T_isSame_6 : decode prog_6_method_10_code 6 = .ok (.if_icmp .ge 30, 3) := by decide +kernel
theorem d_T_isSame_9 : decode prog_6_method_10_code 9 = .ok (.aload_n 0, 1) := by decide +kernel
theorem d_T_isSame_10 : decode prog_6_method_10_code 10 = .ok (.iload_n 1, 1) := by decide +kernel
theorem d_T_isSame_11 : decode prog_6_method_10_code 11 = .ok (.iload 4, 2) := by decide +kernel
theorem d_T_isSame_13 : decode prog_6_method_10_code 13 = .ok (.iadd, 1) := by decide +kernel
theorem d_T_isSame_14 : decode prog_6_method_10_code 14 = .ok (.invokevirtual 21, 3) := by decide +kernel
theorem d_T_isSame_17 : decode prog_6_method_10_code 17 = .ok (.aload_n 0, 1) := by decide +kernel
theorem d_T_isSame_18 : decode prog_6_method_10_code 18 = .ok (.iload_n 2, 1) := by decide +kernel
theorem d_T_isSame_19 : decode prog_6_method_10_code 19 = .ok (.iload 4, 2) := by decide +kernel
theorem d_T_isSame_21 : decode prog_6_method_10_code 21 = .ok (.iadd, 1) := by decide +kernel
theorem d_T_isSame_22 : decode prog_6_method_10_code 22 = .ok (.invokevirtual 21, 3) := by decide +kernel
theorem d_T_isSame_25 : decode prog_6_method_10_code 25 = .ok (.if_icmp .eq 5, 3) := by decide +kernel
theorem d_T_isSame_28 : decode prog_6_method_10_code 28 = .ok (.iconst 0, 1) := by decide +kernel
theorem d_T_isSame_29 : decode prog_6_method_10_code 29 = .ok (.ireturn, 1) := by decide +kernel
theorem d_T_isSame_30 : decode prog_6_method_10_code 30 = .ok (.iinc 4 1, 3) := by decide +kernel
theorem d_T_isSame_33 : decode prog_6_method_10_code 33 = .ok (.goto (-30), 3) := by decide +kernel
theorem d_T_isSame_36 : decode prog_6_method_10_code 36 = .ok (.iconst 1, 1) := by decide +kernel
theorem d_T_isSame_37 : decode prog_6_method_10_code 37 = .ok (.ireturn, 1) := by decide +kernel
theorem d_T_replace_0 : decode prog_6_method_5_code 0 = .ok (.aload_n 0, 1) := by decide +kernel
theorem d_T_replace_1 : decode prog_6_method_5_code 1 = .ok (.iload_n 1, 1) := by decide +kernel
theorem d_T_replace_2 : decode prog_6_method_5_code 2 = .ok (.invokevirtual 21, 3) := by decide +kernel
theorem d_T_replace_5 : decode prog_6_method_5_code 5 = .ok (.istore_n 3, 1) := by decide +kernel
theorem d_T_replace_6 : decode prog_6_method_5_code 6 = .ok (.iload_n 1, 1) := by decide +kernel
theorem d_T_replace_7 : decode prog_6_method_5_code 7 = .ok (.ifCond .lt 19, 3) := by decide +kernel
theorem d_T_replace_10 : decode prog_6_method_5_code 10 = .ok (.iload_n 1, 1) := by decide +kernel
theorem d_T_replace_11 : decode prog_6_method_5_code 11 = .ok (.aload_n 0, 1) := by decide +kernel
theorem d_T_replace_12 : decode prog_6_method_5_code 12 = .ok (.getfield 13, 3) := by decide +kernel
theorem d_T_replace_15 : decode prog_6_method_5_code 15 = .ok (.if_icmp .ge 11, 3) := by decide +kernel
theorem d_T_replace_18 : decode prog_6_method_5_code 18 = .ok (.aload_n 0, 1) := by decide +kernel
theorem d_T_replace_19 : decode prog_6_method_5_code 19 = .ok (.getfield 9, 3) := by decide +kernel
theorem d_T_replace_22 : decode prog_6_method_5_code 22 = .ok (.iload_n 1, 1) := by decide +kernel
theorem d_T_replace_23 : decode prog_6_method_5_code 23 = .ok (.iload_n 2, 1) := by decide +kernel
theorem d_T_replace_24 : decode prog_6_method_5_code 24 = .ok (.i2b, 1) := by decide +kernel
theorem d_T_replace_25 : decode prog_6_method_5_code 25 = .ok (.bastore, 1) := by decide +kernel
theorem d_T_replace_26 : decode prog_6_method_5_code 26 = .ok (.iload_n 3, 1) := by decide +kernel
theorem d_T_replace_27 : decode prog_6_method_5_code 27 = .ok (.ireturn, 1) := by decide +kernel
theorem d_T_twoAt_0 : decode prog_6_method_7_code 0 = .ok (.aload_n 0, 1) := by decide +kernel
theorem d_T_twoAt_1 : decode prog_6_method_7_code 1 = .ok (.iload_n 1, 1) := by decide +kernel
theorem d_T_twoAt_2 : decode prog_6_method_7_code 2 = .ok (.invokevirtual 21, 3) := by decide +kernel
theorem d_T_twoAt_5 : decode prog_6_method_7_code 5 = .ok (.aload_n 0, 1) := by decide +kernel
theorem d_T_twoAt_6 : decode prog_6_method_7_code 6 = .ok (.iload_n 1, 1) := by decide +kernel
theorem d_T_twoAt_7 : decode prog_6_method_7_code 7 = .ok (.iconst 1, 1) := by decide +kernel
theorem d_T_twoAt_8 : decode prog_6_method_7_code 8 = .ok (.iadd, 1) := by decide +kernel
theorem d_T_twoAt_9 : decode prog_6_method_7_code 9 = .ok (.invokevirtual 21, 3) := by decide +kernel
theorem d_T_twoAt_12 : decode prog_6_method_7_code 12 = .ok (.bipush 8, 2) := by decide +kernel
theorem d_T_twoAt_14 : decode prog_6_method_7_code 14 = .ok (.ishl, 1) := by decide +kernel
theorem d_T_twoAt_15 : decode prog_6_method_7_code 15 = .ok (.ior, 1) := by decide +kernel
theorem d_T_twoAt_16 : decode prog_6_method_7_code 16 = .ok (.ireturn, 1) := by decide +kernel
/-- the byte at i of a tape of L bytes, 0 where there is none -/
def zby (f : Nat → Int32) (L : Nat) (i : Int32) : Int32 := if i < 0 then 0 else if nI L ≤ i then 0 else f i.toNatClampNeg &&& 255
theorem zin {x : Int32} {n N : Nat} (h0 : ¬ x < 0) (h1 : ¬ nI n ≤ x) (hn : n ≤ N) (hN : N < 2 ^ 31) : vp_in x N := by
  obtain ⟨j, hj, e⟩ := nI_of h0
  subst e
  have h2 : ¬ n ≤ j := fun h => h1 (nI_le h hj)
  exact vp_in_nI (by omega) hN
set_option maxHeartbeats 4000000 in
set_option maxRecDepth 100000 in
theorem r_T_by (l : Launch) (D : va_G) (qt : Nat) (qb : Nat) (cB : ClassId) (f : Nat → Int32) (L : Nat) (i : Int32) (hL : L ≤ 20000) : Met l y_T_byteAt (Cond.code y_T_byteAt prog_6_method_6_code 2 (Option.some Jvm.ClassFile.FieldType.int) :: zt) { frames := 0, cells := 0, slots := 0, locals := 0 } (zPcR [.ref qt, .int i] D [(qt, .inr (1, [.ref qb, .int (nI L)])), (qb, .inl (cB, 20000, .inl f))] [(cB, .byte)] (fun _ => True)) (zQR (fun (r : Int32) => r = zby f L i)) 0 0 (fun _ => False) :=
  zMetR (by decide) (Nat.le_of_ble_eq_true rfl) (fun p e s m below meth c ls hx hb hr hml hown ht hlk hK hP hX hl => by
    have hl : lv_has ls 2 [(0, .ref qt), (1, .int i)] := hl
    refine lv_iload_n hx hb d_T_byteAt_0 rfl (lv_at hl 1 rfl) ?_
    refine lv_if_lt (tgt := 25) hx hb d_T_byteAt_1 (by decide) (fun hc1 => ?_) (fun hc1 => ?_)
    · skip
      refine lv_iconst (v := 0) hx hb d_T_byteAt_25 (by decide) ?_
      exact zretR hx hb hr hlk (by unfold zby; rw [if_pos hc1]) d_T_byteAt_26
    · skip
      refine lv_iload_n hx hb d_T_byteAt_4 rfl (lv_at hl 1 rfl) ?_
      refine lv_aload_n hx hb d_T_byteAt_5 rfl (lv_at hl 0 rfl) ?_
      refine va_get (ci := 1) (C := "ZipGuard$Tape") (T := F_T) (N := 2) hx hb ht zi_T hown hK hP 0 rfl rfl 1 (by decide) (ht _ zm_97) (fun _ h9 => h9) rfl d_T_byteAt_6 ?_
      refine lv_icmp_ge (tgt := 25) hx hb d_T_byteAt_9 (by decide) (fun hc2 => ?_) (fun hc2 => ?_)
      · skip
        refine lv_iconst (v := 0) hx hb d_T_byteAt_25 (by decide) ?_
        exact zretR hx hb hr hlk (by unfold zby; rw [if_neg hc1, if_pos hc2]) d_T_byteAt_26
      · skip
        refine lv_aload_n hx hb d_T_byteAt_12 rfl (lv_at hl 0 rfl) ?_
        refine va_get (ci := 1) (C := "ZipGuard$Tape") (T := F_T) (N := 2) hx hb ht zi_T hown hK hP 0 rfl rfl 0 (by decide) (ht _ zm_96) (fun _ h9 => h9) rfl d_T_byteAt_13 ?_
        refine lv_iload_n hx hb d_T_byteAt_16 rfl (lv_at hl 1 rfl) ?_
        refine va_bald hx hb hK hP 1 0 rfl rfl (zin hc1 hc2 hL (by decide)) d_T_byteAt_17 ?_
        refine lv_sipush (v := 255) hx hb d_T_byteAt_18 (by decide) ?_
        refine lv_iand hx hb d_T_byteAt_21 ?_
        refine lv_goto (tgt := 26) hx hb d_T_byteAt_22 (by decide) ?_
        exact zretR hx hb hr hlk (by unfold zby; rw [if_neg hc1, if_neg hc2]) d_T_byteAt_26)
def zto (f : Nat → Int32) (L : Nat) (i : Int32) : Int32 := zby f L i ||| (zby f L (i + 1) <<< (8 &&& 31))
def zfr (f : Nat → Int32) (L : Nat) (i : Int32) : Int64 := (zby f L i ||| (zby f L (i + 1) <<< (8 &&& 31)) ||| (zby f L (i + 2) <<< (16 &&& 31))).toInt64 ||| ((zby f L (i + 3)).toInt64 <<< ((24 : Int32).toInt64 &&& 63))
set_option maxHeartbeats 4000000 in
set_option maxRecDepth 100000 in
theorem r_T_two (l : Launch) (D : va_G) (qt : Nat) (qb : Nat) (cB : ClassId) (f : Nat → Int32) (L : Nat) (i : Int32) (hL : L ≤ 20000) : Met l y_T_twoAt (Cond.code y_T_twoAt prog_6_method_7_code 2 (Option.some Jvm.ClassFile.FieldType.int) :: zt) { frames := 1, cells := 0, slots := 0, locals := 21 } (zPcR [.ref qt, .int i] D [(qt, .inr (1, [.ref qb, .int (nI L)])), (qb, .inl (cB, 20000, .inl f))] [(cB, .byte)] (fun _ => True)) (zQR (fun (r : Int32) => r = zto f L i)) 0 0 (fun _ => False) :=
  zMetR (by decide) (Nat.le_of_ble_eq_true rfl) (fun p e s m below meth c ls hx hb hr hml hown ht hlk hK hP hX hl => by
    have hl : lv_has ls 2 [(0, .ref qt), (1, .int i)] := hl
    refine lv_aload_n hx hb d_T_twoAt_0 rfl (lv_at hl 0 rfl) ?_
    refine lv_iload_n hx hb d_T_twoAt_1 rfl (lv_at hl 1 rfl) ?_
    refine zjR (va_runV (As := [.int i]) (rest := []) ⟨hx, hb, hml, hown, ht⟩ (r_T_by l D qt qb cB f L i hL) (cwV 1 ht (zt_goodV zm_427 zm_428 zm_429 zm_66 zm_430) rfl rfl rfl (by decide +kernel) ⟨Nat.le_of_ble_eq_true rfl, Nat.le_of_ble_eq_true rfl⟩) (zpreRV zBlind_t hK hP [0, 1] [0] rfl rfl (fun _ _ _ => trivial) (va_recv (q := ("ZipGuard$Tape", F_T, 2)) hK hP rfl (q0 := 0) (ci := 1) rfl)) rfl rfl hl.1 rfl (lv_room (Nat.le_of_ble_eq_true rfl)) d_T_twoAt_2 ⟨Nat.le_of_ble_eq_true rfl, Nat.le_of_ble_eq_true rfl⟩) (fun r1 hp2 => ?_)
    have hp2 := hp2.symm
    subst hp2
    refine lv_aload_n hx hb d_T_twoAt_5 rfl (lv_at hl 0 rfl) ?_
    refine lv_iload_n hx hb d_T_twoAt_6 rfl (lv_at hl 1 rfl) ?_
    refine lv_iconst (v := 1) hx hb d_T_twoAt_7 (by decide) ?_
    refine lv_iadd hx hb d_T_twoAt_8 ?_
    refine zjR (va_runV (As := [.int (i + 1)]) (rest := [.int (zby f L i)]) ⟨hx, hb, hml, hown, ht⟩ (r_T_by l D qt qb cB f L (i + 1) hL) (cwV 1 ht (zt_goodV zm_427 zm_428 zm_429 zm_66 zm_430) rfl rfl rfl (by decide +kernel) ⟨Nat.le_of_ble_eq_true rfl, Nat.le_of_ble_eq_true rfl⟩) (zpreRV zBlind_t hK hP [0, 1] [0] rfl rfl (fun _ _ _ => trivial) (va_recv (q := ("ZipGuard$Tape", F_T, 2)) hK hP rfl (q0 := 0) (ci := 1) rfl)) rfl rfl hl.1 rfl (lv_room (Nat.le_of_ble_eq_true rfl)) d_T_twoAt_9 ⟨Nat.le_of_ble_eq_true rfl, Nat.le_of_ble_eq_true rfl⟩) (fun r3 hp4 => ?_)
    have hp4 := hp4.symm
    subst hp4
    refine lv_bipush (v := 8) hx hb d_T_twoAt_12 (by decide) ?_
    refine lv_ishl hx hb d_T_twoAt_14 ?_
    refine lv_ior hx hb d_T_twoAt_15 ?_
    exact zretR hx hb hr hlk (rfl) d_T_twoAt_16)
set_option maxHeartbeats 4000000 in
set_option maxRecDepth 100000 in
theorem r_T_mark (l : Launch) (D : va_G) (qt : Nat) (qb : Nat) (cB : ClassId) (f : Nat → Int32) (L : Nat) (i : Int32) (x : Int32) (y : Int32) (hL : L ≤ 20000) : Met l y_T_hasMarkAt (Cond.code y_T_hasMarkAt prog_6_method_9_code 4 (Option.some Jvm.ClassFile.FieldType.boolean) :: zt) { frames := 1, cells := 0, slots := 0, locals := 21 } (zPcR [.ref qt, .int i, .int x, .int y] D [(qt, .inr (1, [.ref qb, .int (nI L)])), (qb, .inl (cB, 20000, .inl f))] [(cB, .byte)] (fun _ => True)) (zQR (fun (r : Int32) => (r = 1 ∧ (zby f L i = 80 ∧ zby f L (i + 1) = 75 ∧ zby f L (i + 2) = x ∧ zby f L (i + 3) = y)) ∨ (r = 0 ∧ ¬ (zby f L i = 80 ∧ zby f L (i + 1) = 75 ∧ zby f L (i + 2) = x ∧ zby f L (i + 3) = y)))) 0 0 (fun _ => False) :=
  zMetR (by decide) (Nat.le_of_ble_eq_true rfl) (fun p e s m below meth c ls hx hb hr hml hown ht hlk hK hP hX hl => by
    have hl : lv_has ls 4 [(0, .ref qt), (1, .int i), (2, .int x), (3, .int y)] := hl
    refine lv_aload_n hx hb d_T_hasMarkAt_0 rfl (lv_at hl 0 rfl) ?_
    refine lv_iload_n hx hb d_T_hasMarkAt_1 rfl (lv_at hl 1 rfl) ?_
    refine zjR (va_runV (As := [.int i]) (rest := []) ⟨hx, hb, hml, hown, ht⟩ (r_T_by l D qt qb cB f L i hL) (cwV 1 ht (zt_goodV zm_427 zm_428 zm_429 zm_66 zm_430) rfl rfl rfl (by decide +kernel) ⟨Nat.le_of_ble_eq_true rfl, Nat.le_of_ble_eq_true rfl⟩) (zpreRV zBlind_t hK hP [0, 1] [0] rfl rfl (fun _ _ _ => trivial) (va_recv (q := ("ZipGuard$Tape", F_T, 2)) hK hP rfl (q0 := 0) (ci := 1) rfl)) rfl rfl hl.1 rfl (lv_room (Nat.le_of_ble_eq_true rfl)) d_T_hasMarkAt_2 ⟨Nat.le_of_ble_eq_true rfl, Nat.le_of_ble_eq_true rfl⟩) (fun r1 hp2 => ?_)
    have hp2 := hp2.symm
    subst hp2
    refine lv_bipush (v := 80) hx hb d_T_hasMarkAt_5 (by decide) ?_
    refine lv_icmp_ne (tgt := 48) hx hb d_T_hasMarkAt_7 (by decide) (fun hc3 => ?_) (fun hc3 => ?_)
    · skip
      refine lv_iconst (v := 0) hx hb d_T_hasMarkAt_48 (by decide) ?_
      exact zretRz hx hb hr hlk (Or.inr ⟨rfl, fun ⟨q0, q1, q2, q3⟩ => hc3 q0⟩) rfl d_T_hasMarkAt_49
    · skip
      refine lv_aload_n hx hb d_T_hasMarkAt_10 rfl (lv_at hl 0 rfl) ?_
      refine lv_iload_n hx hb d_T_hasMarkAt_11 rfl (lv_at hl 1 rfl) ?_
      refine lv_iconst (v := 1) hx hb d_T_hasMarkAt_12 (by decide) ?_
      refine lv_iadd hx hb d_T_hasMarkAt_13 ?_
      refine zjR (va_runV (As := [.int (i + 1)]) (rest := []) ⟨hx, hb, hml, hown, ht⟩ (r_T_by l D qt qb cB f L (i + 1) hL) (cwV 1 ht (zt_goodV zm_427 zm_428 zm_429 zm_66 zm_430) rfl rfl rfl (by decide +kernel) ⟨Nat.le_of_ble_eq_true rfl, Nat.le_of_ble_eq_true rfl⟩) (zpreRV zBlind_t hK hP [0, 1] [0] rfl rfl (fun _ _ _ => trivial) (va_recv (q := ("ZipGuard$Tape", F_T, 2)) hK hP rfl (q0 := 0) (ci := 1) rfl)) rfl rfl hl.1 rfl (lv_room (Nat.le_of_ble_eq_true rfl)) d_T_hasMarkAt_14 ⟨Nat.le_of_ble_eq_true rfl, Nat.le_of_ble_eq_true rfl⟩) (fun r4 hp5 => ?_)
      have hp5 := hp5.symm
      subst hp5
      refine lv_bipush (v := 75) hx hb d_T_hasMarkAt_17 (by decide) ?_
      refine lv_icmp_ne (tgt := 48) hx hb d_T_hasMarkAt_19 (by decide) (fun hc6 => ?_) (fun hc6 => ?_)
      · skip
        refine lv_iconst (v := 0) hx hb d_T_hasMarkAt_48 (by decide) ?_
        exact zretRz hx hb hr hlk (Or.inr ⟨rfl, fun ⟨q0, q1, q2, q3⟩ => hc6 q1⟩) rfl d_T_hasMarkAt_49
      · skip
        refine lv_aload_n hx hb d_T_hasMarkAt_22 rfl (lv_at hl 0 rfl) ?_
        refine lv_iload_n hx hb d_T_hasMarkAt_23 rfl (lv_at hl 1 rfl) ?_
        refine lv_iconst (v := 2) hx hb d_T_hasMarkAt_24 (by decide) ?_
        refine lv_iadd hx hb d_T_hasMarkAt_25 ?_
        refine zjR (va_runV (As := [.int (i + 2)]) (rest := []) ⟨hx, hb, hml, hown, ht⟩ (r_T_by l D qt qb cB f L (i + 2) hL) (cwV 1 ht (zt_goodV zm_427 zm_428 zm_429 zm_66 zm_430) rfl rfl rfl (by decide +kernel) ⟨Nat.le_of_ble_eq_true rfl, Nat.le_of_ble_eq_true rfl⟩) (zpreRV zBlind_t hK hP [0, 1] [0] rfl rfl (fun _ _ _ => trivial) (va_recv (q := ("ZipGuard$Tape", F_T, 2)) hK hP rfl (q0 := 0) (ci := 1) rfl)) rfl rfl hl.1 rfl (lv_room (Nat.le_of_ble_eq_true rfl)) d_T_hasMarkAt_26 ⟨Nat.le_of_ble_eq_true rfl, Nat.le_of_ble_eq_true rfl⟩) (fun r7 hp8 => ?_)
        have hp8 := hp8.symm
        subst hp8
        refine lv_iload_n hx hb d_T_hasMarkAt_29 rfl (lv_at hl 2 rfl) ?_
        refine lv_icmp_ne (tgt := 48) hx hb d_T_hasMarkAt_30 (by decide) (fun hc9 => ?_) (fun hc9 => ?_)
        · skip
          refine lv_iconst (v := 0) hx hb d_T_hasMarkAt_48 (by decide) ?_
          exact zretRz hx hb hr hlk (Or.inr ⟨rfl, fun ⟨q0, q1, q2, q3⟩ => hc9 q2⟩) rfl d_T_hasMarkAt_49
        · skip
          refine lv_aload_n hx hb d_T_hasMarkAt_33 rfl (lv_at hl 0 rfl) ?_
          refine lv_iload_n hx hb d_T_hasMarkAt_34 rfl (lv_at hl 1 rfl) ?_
          refine lv_iconst (v := 3) hx hb d_T_hasMarkAt_35 (by decide) ?_
          refine lv_iadd hx hb d_T_hasMarkAt_36 ?_
          refine zjR (va_runV (As := [.int (i + 3)]) (rest := []) ⟨hx, hb, hml, hown, ht⟩ (r_T_by l D qt qb cB f L (i + 3) hL) (cwV 1 ht (zt_goodV zm_427 zm_428 zm_429 zm_66 zm_430) rfl rfl rfl (by decide +kernel) ⟨Nat.le_of_ble_eq_true rfl, Nat.le_of_ble_eq_true rfl⟩) (zpreRV zBlind_t hK hP [0, 1] [0] rfl rfl (fun _ _ _ => trivial) (va_recv (q := ("ZipGuard$Tape", F_T, 2)) hK hP rfl (q0 := 0) (ci := 1) rfl)) rfl rfl hl.1 rfl (lv_room (Nat.le_of_ble_eq_true rfl)) d_T_hasMarkAt_37 ⟨Nat.le_of_ble_eq_true rfl, Nat.le_of_ble_eq_true rfl⟩) (fun r10 hp11 => ?_)
          have hp11 := hp11.symm
          subst hp11
          refine lv_iload_n hx hb d_T_hasMarkAt_40 rfl (lv_at hl 3 rfl) ?_
          refine lv_icmp_ne (tgt := 48) hx hb d_T_hasMarkAt_41 (by decide) (fun hc12 => ?_) (fun hc12 => ?_)
          · skip
            refine lv_iconst (v := 0) hx hb d_T_hasMarkAt_48 (by decide) ?_
            exact zretRz hx hb hr hlk (Or.inr ⟨rfl, fun ⟨q0, q1, q2, q3⟩ => hc12 q3⟩) rfl d_T_hasMarkAt_49
          · skip
            refine lv_iconst (v := 1) hx hb d_T_hasMarkAt_44 (by decide) ?_
            refine lv_goto (tgt := 49) hx hb d_T_hasMarkAt_45 (by decide) ?_
            exact zretRz hx hb hr hlk (Or.inl ⟨rfl, hc3, hc6, hc9, hc12⟩) rfl d_T_hasMarkAt_49)
set_option maxHeartbeats 4000000 in
set_option maxRecDepth 100000 in
theorem r_T_four (l : Launch) (D : va_G) (qt : Nat) (qb : Nat) (cB : ClassId) (f : Nat → Int32) (L : Nat) (i : Int32) (hL : L ≤ 20000) : Met l y_T_fourAt (Cond.code y_T_fourAt prog_6_method_8_code 2 (Option.some Jvm.ClassFile.FieldType.long) :: zt) { frames := 1, cells := 0, slots := 0, locals := 21 } (zPcR [.ref qt, .int i] D [(qt, .inr (1, [.ref qb, .int (nI L)])), (qb, .inl (cB, 20000, .inl f))] [(cB, .byte)] (fun _ => True)) (zQRl (fun (r : Int64) => r = zfr f L i)) 0 0 (fun _ => False) :=
  zMetR (by decide) (Nat.le_of_ble_eq_true rfl) (fun p e s m below meth c ls hx hb hr hml hown ht hlk hK hP hX hl => by
    have hl : lv_has ls 2 [(0, .ref qt), (1, .int i)] := hl
    refine lv_aload_n hx hb d_T_fourAt_0 rfl (lv_at hl 0 rfl) ?_
    refine lv_iload_n hx hb d_T_fourAt_1 rfl (lv_at hl 1 rfl) ?_
    refine zjR (va_runV (As := [.int i]) (rest := []) ⟨hx, hb, hml, hown, ht⟩ (r_T_by l D qt qb cB f L i hL) (cwV 1 ht (zt_goodV zm_427 zm_428 zm_429 zm_66 zm_430) rfl rfl rfl (by decide +kernel) ⟨Nat.le_of_ble_eq_true rfl, Nat.le_of_ble_eq_true rfl⟩) (zpreRV zBlind_t hK hP [0, 1] [0] rfl rfl (fun _ _ _ => trivial) (va_recv (q := ("ZipGuard$Tape", F_T, 2)) hK hP rfl (q0 := 0) (ci := 1) rfl)) rfl rfl hl.1 rfl (lv_room (Nat.le_of_ble_eq_true rfl)) d_T_fourAt_2 ⟨Nat.le_of_ble_eq_true rfl, Nat.le_of_ble_eq_true rfl⟩) (fun r1 hp2 => ?_)
    have hp2 := hp2.symm
    subst hp2
    refine lv_aload_n hx hb d_T_fourAt_5 rfl (lv_at hl 0 rfl) ?_
    refine lv_iload_n hx hb d_T_fourAt_6 rfl (lv_at hl 1 rfl) ?_
    refine lv_iconst (v := 1) hx hb d_T_fourAt_7 (by decide) ?_
    refine lv_iadd hx hb d_T_fourAt_8 ?_
    refine zjR (va_runV (As := [.int (i + 1)]) (rest := [.int (zby f L i)]) ⟨hx, hb, hml, hown, ht⟩ (r_T_by l D qt qb cB f L (i + 1) hL) (cwV 1 ht (zt_goodV zm_427 zm_428 zm_429 zm_66 zm_430) rfl rfl rfl (by decide +kernel) ⟨Nat.le_of_ble_eq_true rfl, Nat.le_of_ble_eq_true rfl⟩) (zpreRV zBlind_t hK hP [0, 1] [0] rfl rfl (fun _ _ _ => trivial) (va_recv (q := ("ZipGuard$Tape", F_T, 2)) hK hP rfl (q0 := 0) (ci := 1) rfl)) rfl rfl hl.1 rfl (lv_room (Nat.le_of_ble_eq_true rfl)) d_T_fourAt_9 ⟨Nat.le_of_ble_eq_true rfl, Nat.le_of_ble_eq_true rfl⟩) (fun r3 hp4 => ?_)
    have hp4 := hp4.symm
    subst hp4
    refine lv_bipush (v := 8) hx hb d_T_fourAt_12 (by decide) ?_
    refine lv_ishl hx hb d_T_fourAt_14 ?_
    refine lv_ior hx hb d_T_fourAt_15 ?_
    refine lv_aload_n hx hb d_T_fourAt_16 rfl (lv_at hl 0 rfl) ?_
    refine lv_iload_n hx hb d_T_fourAt_17 rfl (lv_at hl 1 rfl) ?_
    refine lv_iconst (v := 2) hx hb d_T_fourAt_18 (by decide) ?_
    refine lv_iadd hx hb d_T_fourAt_19 ?_
    refine zjR (va_runV (As := [.int (i + 2)]) (rest := [.int ((zby f L i) ||| ((zby f L (i + 1)) <<< (8 &&& 31)))]) ⟨hx, hb, hml, hown, ht⟩ (r_T_by l D qt qb cB f L (i + 2) hL) (cwV 1 ht (zt_goodV zm_427 zm_428 zm_429 zm_66 zm_430) rfl rfl rfl (by decide +kernel) ⟨Nat.le_of_ble_eq_true rfl, Nat.le_of_ble_eq_true rfl⟩) (zpreRV zBlind_t hK hP [0, 1] [0] rfl rfl (fun _ _ _ => trivial) (va_recv (q := ("ZipGuard$Tape", F_T, 2)) hK hP rfl (q0 := 0) (ci := 1) rfl)) rfl rfl hl.1 rfl (lv_room (Nat.le_of_ble_eq_true rfl)) d_T_fourAt_20 ⟨Nat.le_of_ble_eq_true rfl, Nat.le_of_ble_eq_true rfl⟩) (fun r5 hp6 => ?_)
    have hp6 := hp6.symm
    subst hp6
    refine lv_bipush (v := 16) hx hb d_T_fourAt_23 (by decide) ?_
    refine lv_ishl hx hb d_T_fourAt_25 ?_
    refine lv_ior hx hb d_T_fourAt_26 ?_
    refine lv_i2l hx hb d_T_fourAt_27 rfl ?_
    refine lv_aload_n hx hb d_T_fourAt_28 rfl (lv_at hl 0 rfl) ?_
    refine lv_iload_n hx hb d_T_fourAt_29 rfl (lv_at hl 1 rfl) ?_
    refine lv_iconst (v := 3) hx hb d_T_fourAt_30 (by decide) ?_
    refine lv_iadd hx hb d_T_fourAt_31 ?_
    refine zjR (va_runV (As := [.int (i + 3)]) (rest := [.long ((((zby f L i) ||| ((zby f L (i + 1)) <<< (8 &&& 31))) ||| ((zby f L (i + 2)) <<< (16 &&& 31))).toInt64)]) ⟨hx, hb, hml, hown, ht⟩ (r_T_by l D qt qb cB f L (i + 3) hL) (cwV 1 ht (zt_goodV zm_427 zm_428 zm_429 zm_66 zm_430) rfl rfl rfl (by decide +kernel) ⟨Nat.le_of_ble_eq_true rfl, Nat.le_of_ble_eq_true rfl⟩) (zpreRV zBlind_t hK hP [0, 1] [0] rfl rfl (fun _ _ _ => trivial) (va_recv (q := ("ZipGuard$Tape", F_T, 2)) hK hP rfl (q0 := 0) (ci := 1) rfl)) rfl rfl hl.1 rfl (lv_room (Nat.le_of_ble_eq_true rfl)) d_T_fourAt_32 ⟨Nat.le_of_ble_eq_true rfl, Nat.le_of_ble_eq_true rfl⟩) (fun r7 hp8 => ?_)
    have hp8 := hp8.symm
    subst hp8
    refine lv_i2l hx hb d_T_fourAt_35 rfl ?_
    refine lv_bipush (v := 24) hx hb d_T_fourAt_36 (by decide) ?_
    refine lv_lshl hx hb d_T_fourAt_38 rfl ?_
    refine lv_lor hx hb d_T_fourAt_39 ?_
    exact zretRl hx hb hr hlk (rfl) d_T_fourAt_40)
set_option maxHeartbeats 4000000 in
set_option maxRecDepth 100000 in
theorem rl_T_same {p : Program} {l : Launch} {e : Env} {R : Room} {s : State} {m : MethodId} {args : Array Value} {below : List Frame} {meth : Method} {c : Code} {cells slots : Nat} {Q : State → Prop} {D : va_G} {H : Heap} {locs : List Loc} (hx : p.tables.exec = Jvm.exec) (hb : c.code = prog_6_method_10_code) (hml : c.maxLocals = 5) (hown : s.vm.findClass "ZipGuard$Tape" = some m.cls) (ht : ∀ w ∈ zt, w.before args s = true) (hcc : cells + 0 ≤ R.cells) (hss : slots + 0 ≤ R.slots) (qt : Nat) (qb : Nat) (cB : ClassId) (f : Nat → Int32) (L : Nat) (i : Int32) (i2 : Int32) (nn : Nat) (hL : L ≤ 20000) (hn : nn < 2 ^ 31) (hRf : 1 ≤ R.frames) (hRl : 8 + (2 + 11) + 0 ≤ R.locals) (hK : va_K D zcl [(cB, .byte)] s) (hP : va_P D zcl [(qt, .inr (1, [.ref qb, .int (nI L)])), (qb, .inl (cB, 20000, .inl f))] H)
    (k1 : ∀  (ls : Array Slot), (∀ z, z < nn → zby f L (i + nI z) = zby f L (i2 + nI z)) → lv_has ls 5 [] → W p l e R s m args below meth c H locs cells slots Q (F0 m 36 ls []))
    (k0 : ∀  (ls : Array Slot), (¬ ∀ z, z < nn → zby f L (i + nI z) = zby f L (i2 + nI z)) → lv_has ls 5 [] → W p l e R s m args below meth c H locs cells slots Q (F0 m 28 ls [])) :
    ∀ (j : Nat) (k : Nat) (ls : Array Slot), (k + j = nn) → (∀ z, z < k → zby f L (i + nI z) = zby f L (i2 + nI z)) → lv_has ls 5 [(4, .int (nI k)), (0, .ref qt), (1, .int i), (2, .int i2), (3, .int (nI nn))] → W p l e R s m args below meth c H locs cells slots Q (F0 m 3 ls []) := by
  intro j
  induction j with
  | zero =>
    intro k ls hk hI hl
    have hk : k = nn := by omega
    subst hk
    refine lv_iload hx hb d_T_isSame_3 (lv_at hl 0 rfl) ?_
    refine lv_iload_n hx hb d_T_isSame_5 rfl (lv_at hl 4 rfl) ?_
    refine lv_icmp_ge (tgt := 36) hx hb d_T_isSame_6 (by decide) (fun _ => ?_) (fun h => absurd (nI_le (by omega) (by omega)) h)
    exact k1 ls hI (lv_sub hl [] rfl)
  | succ j ih =>
    intro k ls hk hI hl
    refine lv_iload hx hb d_T_isSame_3 (lv_at hl 0 rfl) ?_
    refine lv_iload_n hx hb d_T_isSame_5 rfl (lv_at hl 4 rfl) ?_
    refine lv_icmp_ge (tgt := 36) hx hb d_T_isSame_6 (by decide) (fun h => absurd h (nI_ge (by omega) (by omega))) (fun _ => ?_)
    refine lv_aload_n hx hb d_T_isSame_9 rfl (lv_at hl 1 rfl) ?_
    refine lv_iload_n hx hb d_T_isSame_10 rfl (lv_at hl 2 rfl) ?_
    refine lv_iload hx hb d_T_isSame_11 (lv_at hl 0 rfl) ?_
    refine lv_iadd hx hb d_T_isSame_13 ?_
    refine zjR (va_runV (As := [.int (i + (nI k))]) (rest := []) ⟨hx, hb, hml, hown, ht⟩ (r_T_by l D qt qb cB f L (i + nI k) hL) (cwV 1 ht (zt_goodV zm_427 zm_428 zm_429 zm_66 zm_430) rfl rfl rfl (by decide +kernel) ⟨hRf, hRl⟩) (zpreRV zBlind_t hK hP [0, 1] [0] rfl rfl (fun _ _ _ => trivial) (va_recv (q := ("ZipGuard$Tape", F_T, 2)) hK hP rfl (q0 := 0) (ci := 1) rfl)) rfl rfl hl.1 rfl (lv_room (Nat.le_of_ble_eq_true rfl)) d_T_isSame_14 ⟨hcc, hss⟩) (fun r3 hp4 => ?_)
    have hp4 := hp4.symm
    subst hp4
    refine lv_aload_n hx hb d_T_isSame_17 rfl (lv_at hl 1 rfl) ?_
    refine lv_iload_n hx hb d_T_isSame_18 rfl (lv_at hl 3 rfl) ?_
    refine lv_iload hx hb d_T_isSame_19 (lv_at hl 0 rfl) ?_
    refine lv_iadd hx hb d_T_isSame_21 ?_
    refine zjR (va_runV (As := [.int (i2 + (nI k))]) (rest := [.int (zby f L (i + nI k))]) ⟨hx, hb, hml, hown, ht⟩ (r_T_by l D qt qb cB f L (i2 + nI k) hL) (cwV 1 ht (zt_goodV zm_427 zm_428 zm_429 zm_66 zm_430) rfl rfl rfl (by decide +kernel) ⟨hRf, hRl⟩) (zpreRV zBlind_t hK hP [0, 1] [0] rfl rfl (fun _ _ _ => trivial) (va_recv (q := ("ZipGuard$Tape", F_T, 2)) hK hP rfl (q0 := 0) (ci := 1) rfl)) rfl rfl hl.1 rfl (lv_room (Nat.le_of_ble_eq_true rfl)) d_T_isSame_22 ⟨hcc, hss⟩) (fun r5 hp6 => ?_)
    have hp6 := hp6.symm
    subst hp6
    refine lv_icmp_eq (tgt := 30) hx hb d_T_isSame_25 (by decide) (fun hc7 => ?_) (fun hc7 => ?_)
    · skip
      refine lv_iinc (k := 0) (v := (nI k) + 1) (lv' := [(4, .int ((nI k) + 1)), (0, .ref qt), (1, .int i), (2, .int i2), (3, .int (nI nn))]) hx hb d_T_isSame_30 hl rfl rfl (by decide) rfl (fun ls hl => ?_)
      refine lv_goto (tgt := 3) hx hb d_T_isSame_33 (by decide) ?_
      rw [nI_1] at hl
      refine ih (k + 1) ls (by omega) (fun z hz => ?_) hl
      by_cases hzk : z = k
      · rw [hzk]; exact hc7
      · exact hI z (by omega)
    · skip
      exact k0 ls (fun h9 => hc7 (h9 k (by omega))) (lv_sub hl [] rfl)
set_option maxHeartbeats 4000000 in
set_option maxRecDepth 100000 in
theorem r_T_same (l : Launch) (D : va_G) (qt : Nat) (qb : Nat) (cB : ClassId) (f : Nat → Int32) (L : Nat) (i : Int32) (i2 : Int32) (nn : Nat) (hL : L ≤ 20000) (hn : nn < 2 ^ 31) : Met l y_T_isSame (Cond.code y_T_isSame prog_6_method_10_code 5 (Option.some Jvm.ClassFile.FieldType.boolean) :: zt) { frames := 1, cells := 0, slots := 0, locals := 21 } (zPcR [.ref qt, .int i, .int i2, .int (nI nn)] D [(qt, .inr (1, [.ref qb, .int (nI L)])), (qb, .inl (cB, 20000, .inl f))] [(cB, .byte)] (fun _ => True)) (zQR (fun (r : Int32) => (r = 1 ∧ ∀ z, z < nn → zby f L (i + nI z) = zby f L (i2 + nI z)) ∨ (r = 0 ∧ ¬ ∀ z, z < nn → zby f L (i + nI z) = zby f L (i2 + nI z)))) 0 0 (fun _ => False) :=
  zMetR (by decide) (Nat.le_of_ble_eq_true rfl) (fun p e s m below meth c ls hx hb hr hml hown ht hlk hK hP hX hl => by
    have hl : lv_has ls 5 [(0, .ref qt), (1, .int i), (2, .int i2), (3, .int (nI nn))] := hl
    refine lv_iconst (v := 0) hx hb d_T_isSame_0 (by decide) ?_
    refine lv_istore (lv' := [(4, .int 0), (0, .ref qt), (1, .int i), (2, .int i2), (3, .int (nI nn))]) hx hb d_T_isSame_1 hl (by decide) rfl (fun ls hl => ?_)
    refine rl_T_same hx hb hml hown ht (Nat.le_of_ble_eq_true rfl) (Nat.le_of_ble_eq_true rfl) qt qb cB f L i i2 nn hL hn (Nat.le_of_ble_eq_true rfl) (Nat.le_of_ble_eq_true rfl) hK hP (fun ls h hl => ?_) (fun ls h hl => ?_) nn 0 ls (by omega) (fun z hz => by omega) hl
    · skip
      refine lv_iconst (v := 1) hx hb d_T_isSame_36 (by decide) ?_
      exact zretRz hx hb hr hlk (Or.inl ⟨rfl, h⟩) rfl d_T_isSame_37
    · skip
      refine lv_iconst (v := 0) hx hb d_T_isSame_28 (by decide) ?_
      exact zretRz hx hb hr hlk (Or.inr ⟨rfl, h⟩) rfl d_T_isSame_29)
set_option maxHeartbeats 4000000 in
set_option maxRecDepth 100000 in
theorem c_T_rep (l : Launch) (D : va_G) (sz : Nat) (qt : Nat) (qb : Nat) (cB : ClassId) (f : Nat → Int32) (L : Nat) (k : Nat) (x : Int32) (hL : L ≤ 20000) (hk : k < L) : Met l y_T_replace (Cond.code y_T_replace prog_6_method_5_code 4 (Option.some Jvm.ClassFile.FieldType.int) :: zt) { frames := 1, cells := 0, slots := 0, locals := 21 } (zPc [.ref qt, .int (nI k), .int x] D [(qt, .inr (1, [.ref qb, .int (nI L)])), (qb, .inl (cB, 20000, .inl f))] [(cB, .byte)] sz (fun _ => True)) (va_Qi (fun (r : Int32) => fun (_ : Unit) => r = f k &&& 255) (fun u9 t => zB D ((fun (_ : Unit) => [(qt, .inr (1, [.ref qb, .int (nI L)])), (qb, .inl (cB, 20000, .inl (upd f k x.toInt8.toInt32)))]) u9) ((fun (_ : Unit) => [(cB, .byte)]) u9) (va_A [(qt, .inr (1, [.ref qb, .int (nI L)])), (qb, .inl (cB, 20000, .inl f))] sz) t) (va_A [(qt, .inr (1, [.ref qb, .int (nI L)])), (qb, .inl (cB, 20000, .inl f))] sz)) 0 0 (va_A [(qt, .inr (1, [.ref qb, .int (nI L)])), (qb, .inl (cB, 20000, .inl f))] sz) :=
  zMet (Qf := fun A => va_Qi (fun (r : Int32) => fun (_ : Unit) => r = f k &&& 255) (fun u9 t => zB D ((fun (_ : Unit) => [(qt, .inr (1, [.ref qb, .int (nI L)])), (qb, .inl (cB, 20000, .inl (upd f k x.toInt8.toInt32)))]) u9) ((fun (_ : Unit) => [(cB, .byte)]) u9) A t) A) (by decide) (Nat.le_of_ble_eq_true rfl) (fun p e s m below meth c A ls hx hb hr hml hown ht hlk hnm hA hK hP hD hX hl => by
    have hS : va_S A s.heap s.heap [] := va_S.rf
    have hl : lv_has ls 4 [(0, .ref qt), (1, .int (nI k)), (2, .int x)] := hl
    refine lv_aload_n hx hb d_T_replace_0 rfl (lv_at hl 0 rfl) ?_
    refine lv_iload_n hx hb d_T_replace_1 rfl (lv_at hl 1 rfl) ?_
    refine zjR (va_runV (As := [.int (nI k)]) (rest := []) ⟨hx, hb, hml, hown, ht⟩ (r_T_by l D qt qb cB f L (nI k) hL) (cwV 1 ht (zt_goodV zm_427 zm_428 zm_429 zm_66 zm_430) rfl rfl rfl (by decide +kernel) ⟨Nat.le_of_ble_eq_true rfl, Nat.le_of_ble_eq_true rfl⟩) (zpreRV zBlind_t hK hP [0, 1] [0] rfl rfl (fun _ _ _ => trivial) (va_recv (q := ("ZipGuard$Tape", F_T, 2)) hK hP rfl (q0 := 0) (ci := 1) rfl)) rfl rfl hl.1 rfl (lv_room (Nat.le_of_ble_eq_true rfl)) d_T_replace_2 ⟨Nat.le_of_ble_eq_true rfl, Nat.le_of_ble_eq_true rfl⟩) (fun r1 hp2 => ?_)
    have hp2 : r1 = f k &&& 255 := by rw [hp2]; unfold zby; rw [if_neg (nI_pos (by omega)), if_neg (nI_ge hk (by omega)), nI_clamp (by omega)]
    have hp2 := hp2.symm
    subst hp2
    refine lv_istore_n (lv' := [(3, .int (f k &&& 255)), (0, .ref qt), (1, .int (nI k)), (2, .int x)]) hx hb d_T_replace_5 rfl hl (by decide) rfl (fun ls hl => ?_)
    refine lv_iload_n hx hb d_T_replace_6 rfl (lv_at hl 2 rfl) ?_
    refine lv_if_lt (tgt := 26) hx hb d_T_replace_7 (by decide) (fun h => absurd h (nI_pos (by omega))) (fun _ => ?_)
    refine lv_iload_n hx hb d_T_replace_10 rfl (lv_at hl 2 rfl) ?_
    refine lv_aload_n hx hb d_T_replace_11 rfl (lv_at hl 1 rfl) ?_
    refine va_get (ci := 1) (C := "ZipGuard$Tape") (T := F_T) (N := 2) hx hb ht zi_T hown hK hP 0 rfl rfl 1 (by decide) (ht _ zm_97) (fun _ h9 => h9) rfl d_T_replace_12 ?_
    refine lv_icmp_ge (tgt := 26) hx hb d_T_replace_15 (by decide) (fun h => absurd h (nI_ge hk (by omega))) (fun _ => ?_)
    refine lv_aload_n hx hb d_T_replace_18 rfl (lv_at hl 1 rfl) ?_
    refine va_get (ci := 1) (C := "ZipGuard$Tape") (T := F_T) (N := 2) hx hb ht zi_T hown hK hP 0 rfl rfl 0 (by decide) (ht _ zm_96) (fun _ h9 => h9) rfl d_T_replace_19 ?_
    refine lv_iload_n hx hb d_T_replace_22 rfl (lv_at hl 2 rfl) ?_
    refine lv_iload_n hx hb d_T_replace_23 rfl (lv_at hl 3 rfl) ?_
    refine lv_i2b hx hb d_T_replace_24 rfl ?_
    refine va_bast hx hb hK hP hD hS 1 0 rfl rfl (vp_in_nI (by omega) (by omega)) d_T_replace_25 (fun H locs hP hD hS => ?_)
    have hP : va_P D zcl [(qt, .inr (1, [.ref qb, .int (nI L)])), (qb, .inl (cB, 20000, .inl (upd f (nI k).toNatClampNeg (vp_nar .byte x.toInt8.toInt32))))] H := hP
    have hD : va_D A [(qt, .inr (1, [.ref qb, .int (nI L)])), (qb, .inl (cB, 20000, .inl (upd f (nI k).toNatClampNeg (vp_nar .byte x.toInt8.toInt32))))] := hD
    rw [nI_clamp (by omega), pk_vb] at hP hD
    refine lv_iload_n hx hb d_T_replace_26 rfl (lv_at hl 0 rfl) ?_
    exact zreti hx hb hr hlk hK hP hD hS () [0, 1] [0] rfl (by decide) rfl (rfl) (Nat.le_of_ble_eq_true rfl) (Nat.le_of_ble_eq_true rfl) d_T_replace_27)
