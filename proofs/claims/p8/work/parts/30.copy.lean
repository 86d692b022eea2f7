set_option maxRecDepth 100000 in
theorem zm_629 : Jvm.Cond.methodLink "ZipGuard$Unpacker" (117 : Nat) ({ cls := "ZipGuard$BitReader", name := "read", desc := "(I)I" } : Jvm.MethodName) ∈ zt := zt_m4 (List.mem_of_getElem? (i := 118) rfl)
set_option maxRecDepth 100000 in
theorem zm_633 : Jvm.Cond.methodLink "ZipGuard$Unpacker" (121 : Nat) ({ cls := "ZipGuard$Target", name := "put", desc := "(LZipGuard$Entry;I)I" } : Jvm.MethodName) ∈ zt := zt_m4 (List.mem_of_getElem? (i := 122) rfl)
set_option maxRecDepth 100000 in
theorem zm_634 : Jvm.Cond.instanceMethod ({ cls := "ZipGuard$Target", name := "put", desc := "(LZipGuard$Entry;I)I" } : Jvm.MethodName) ∈ zt := zt_m4 (List.mem_of_getElem? (i := 123) rfl)
set_option maxRecDepth 100000 in
theorem zm_635 : Jvm.Cond.selects "ZipGuard$Target" ({ cls := "ZipGuard$Target", name := "put", desc := "(LZipGuard$Entry;I)I" } : Jvm.MethodName) ({ cls := "ZipGuard$Target", name := "put", desc := "(LZipGuard$Entry;I)I" } : Jvm.MethodName) ∈ zt := zt_m4 (List.mem_of_getElem? (i := 124) rfl)
set_option maxRecDepth 100000 in
theorem zm_636 : Jvm.Cond.code ({ cls := "ZipGuard$Target", name := "put", desc := "(LZipGuard$Entry;I)I" } : Jvm.MethodName) prog_7_method_4_code (4 : Nat) (Option.some Jvm.ClassFile.FieldType.int) ∈ zt := zt_m4 (List.mem_of_getElem? (i := 125) rfl)
theorem d_U_copyBytes_0 : decode prog_8_method_5_code 0 = .ok (.iconst 0, 1) := by decide +kernel
theorem d_U_copyBytes_1 : decode prog_8_method_5_code 1 = .ok (.istore_n 3, 1) := by decide +kernel
theorem d_U_copyBytes_2 : decode prog_8_method_5_code 2 = .ok (.iload_n 3, 1) := by decide +kernel
theorem d_U_copyBytes_3 : decode prog_8_method_5_code 3 = .ok (.iload_n 2, 1) := by decide +kernel
theorem d_U_copyBytes_4 : decode prog_8_method_5_code 4 = .ok (.if_icmp .ge 50, 3) := by decide +kernel
theorem d_U_copyBytes_7 : decode prog_8_method_5_code 7 = .ok (.aload_n 0, 1) := by decide +kernel
theorem d_U_copyBytes_8 : decode prog_8_method_5_code 8 = .ok (.getfield 18, 3) := by decide +kernel
theorem d_U_copyBytes_11 : decode prog_8_method_5_code 11 = .ok (.bipush 8, 2) := by decide +kernel
theorem d_U_copyBytes_13 : decode prog_8_method_5_code 13 = .ok (.invokevirtual 117, 3) := by decide +kernel
theorem d_U_copyBytes_16 : decode prog_8_method_5_code 16 = .ok (.istore 4, 2) := by decide +kernel
theorem d_U_copyBytes_18 : decode prog_8_method_5_code 18 = .ok (.iload 4, 2) := by decide +kernel
theorem d_U_copyBytes_20 : decode prog_8_method_5_code 20 = .ok (.ifCond .ge 8, 3) := by decide +kernel
theorem d_U_copyBytes_23 : decode prog_8_method_5_code 23 = .ok (.iload 4, 2) := by decide +kernel
theorem d_U_copyBytes_25 : decode prog_8_method_5_code 25 = .ok (.goto 13, 3) := by decide +kernel
theorem d_U_copyBytes_28 : decode prog_8_method_5_code 28 = .ok (.aload_n 0, 1) := by decide +kernel
theorem d_U_copyBytes_29 : decode prog_8_method_5_code 29 = .ok (.getfield 7, 3) := by decide +kernel
theorem d_U_copyBytes_32 : decode prog_8_method_5_code 32 = .ok (.aload_n 1, 1) := by decide +kernel
theorem d_U_copyBytes_33 : decode prog_8_method_5_code 33 = .ok (.iload 4, 2) := by decide +kernel
theorem d_U_copyBytes_35 : decode prog_8_method_5_code 35 = .ok (.invokevirtual 121, 3) := by decide +kernel
theorem d_U_copyBytes_38 : decode prog_8_method_5_code 38 = .ok (.istore 5, 2) := by decide +kernel
theorem d_U_copyBytes_40 : decode prog_8_method_5_code 40 = .ok (.iload 5, 2) := by decide +kernel
theorem d_U_copyBytes_42 : decode prog_8_method_5_code 42 = .ok (.ifCond .ge 6, 3) := by decide +kernel
theorem d_U_copyBytes_45 : decode prog_8_method_5_code 45 = .ok (.iload 5, 2) := by decide +kernel
theorem d_U_copyBytes_47 : decode prog_8_method_5_code 47 = .ok (.ireturn, 1) := by decide +kernel
theorem d_U_copyBytes_48 : decode prog_8_method_5_code 48 = .ok (.iinc 3 1, 3) := by decide +kernel
theorem d_U_copyBytes_51 : decode prog_8_method_5_code 51 = .ok (.goto (-49), 3) := by decide +kernel
theorem d_U_copyBytes_54 : decode prog_8_method_5_code 54 = .ok (.iconst 0, 1) := by decide +kernel
theorem d_U_copyBytes_55 : decode prog_8_method_5_code 55 = .ok (.ireturn, 1) := by decide +kernel
set_option maxHeartbeats 4000000 in
set_option maxRecDepth 100000 in
theorem lp_U_copy {p : Program} {l : Launch} {e : Env} {R : Room} {s : State} {m : MethodId} {args : Array Value} {below : List Frame} {meth : Method} {c : Code} {cells slots : Nat} {Q : State → Prop} {A : Nat → Prop} {D : va_G} (hx : p.tables.exec = Jvm.exec) (hb : c.code = prog_8_method_5_code) (hml : c.maxLocals = 6) (hown : s.vm.findClass "ZipGuard$Unpacker" = some m.cls) (ht : ∀ w ∈ zt, w.before args s = true) (hA : ∀ q, s.heap.size ≤ q → A q) (qu : Nat) (qw : Nat) (s1 : Nat) (s2 : Nat) (s3 : Nat) (s4 : Nat) (s5 : Nat) (qr : Nat) (qb : Nat) (qa : Nat) (qo : Nat) (qe : Nat) (cB : ClassId) (cO : ClassId) (f : Nat → Int32) (bh : Nat) (bu : Nat) (ra : Nat) (en : Nat) (nl : Int32) (fo : Int32) (me : Int32) (pk : Nat) (zz : Int64) (su : Int32) (lp : Int32) (pp : Int32) (sa : Int32) (op : Nat) (n : Nat) (RES : Int32 × Nat × zO) (hbh : bh ≤ 20000) (hbu : bu ≤ 40000) (hn : n < 2 ^ 31) (hX : zTab A s) (hF0 : 0 + 1 ≤ R.frames) (hL0 : 8 + (6 + 11) + 0 ≤ R.locals) (hF1 : 0 + 1 ≤ R.frames) (hL1 : 8 + (4 + 11) + 0 ≤ R.locals) (hcc : cells + 0 ≤ R.cells) (hss : slots + 0 ≤ R.slots) (hK : va_K D zcl [(cB, .byte), (cO, .byte)] s) (k47 : ∀ (a1 u1 to1 ol1 : Nat) (ks1 : Int32) (ft1 : Nat → Int32) (H : Heap) (locs : List Loc) (ls : Array Slot) (v : Int32), zOut RES bh op v a1 u1 to1 ol1 ks1 ft1 → va_P D zcl [(qu, .inr (4, [.ref qa, .ref qr, .ref qw, .ref s1, .ref s2, .ref s3, .ref s4, .ref s5])), (qr, .inr (5, [.ref qb, .int (nI a1), .int (nI bh), .int (nI u1)])), (qb, .inl (cB, 20000, .inl f)), (qa, .inr (3, [.int (nI bu), .int (nI ra), .int (nI to1), .ref qo, .int ks1])), (qo, .inl (cO, 40000, .inl ft1)), (qe, .inr (7, [.ref en, .int nl, .int fo, .int me, .int (nI pk), .long zz, .int su, .int lp, .int pp, .int sa, .int (nI op), .int (nI ol1)]))] H → va_D A [(qu, .inr (4, [.ref qa, .ref qr, .ref qw, .ref s1, .ref s2, .ref s3, .ref s4, .ref s5])), (qr, .inr (5, [.ref qb, .int (nI a1), .int (nI bh), .int (nI u1)])), (qb, .inl (cB, 20000, .inl f)), (qa, .inr (3, [.int (nI bu), .int (nI ra), .int (nI to1), .ref qo, .int ks1])), (qo, .inl (cO, 40000, .inl ft1)), (qe, .inr (7, [.ref en, .int nl, .int fo, .int me, .int (nI pk), .long zz, .int su, .int lp, .int pp, .int sa, .int (nI op), .int (nI ol1)]))] → va_S A s.heap H locs → lv_has ls 6 [] → W p l e R s m args below meth c H locs cells slots Q (F0 m 47 ls [.int v]))
    (kk : ∀ (a1 : Nat) (u1 : Nat) (to1 : Nat) (ol1 : Nat) (ks1 : Int32) (ft1 : Nat → Int32) (v : Int32) (H : Heap) (locs : List Loc) (ls : Array Slot), zOut RES bh op v a1 u1 to1 ol1 ks1 ft1 → va_P D zcl [(qu, .inr (4, [.ref qa, .ref qr, .ref qw, .ref s1, .ref s2, .ref s3, .ref s4, .ref s5])), (qr, .inr (5, [.ref qb, .int (nI a1), .int (nI bh), .int (nI u1)])), (qb, .inl (cB, 20000, .inl f)), (qa, .inr (3, [.int (nI bu), .int (nI ra), .int (nI to1), .ref qo, .int ks1])), (qo, .inl (cO, 40000, .inl ft1)), (qe, .inr (7, [.ref en, .int nl, .int fo, .int me, .int (nI pk), .long zz, .int su, .int lp, .int pp, .int sa, .int (nI op), .int (nI ol1)]))] H → va_D A [(qu, .inr (4, [.ref qa, .ref qr, .ref qw, .ref s1, .ref s2, .ref s3, .ref s4, .ref s5])), (qr, .inr (5, [.ref qb, .int (nI a1), .int (nI bh), .int (nI u1)])), (qb, .inl (cB, 20000, .inl f)), (qa, .inr (3, [.int (nI bu), .int (nI ra), .int (nI to1), .ref qo, .int ks1])), (qo, .inl (cO, 40000, .inl ft1)), (qe, .inr (7, [.ref en, .int nl, .int fo, .int me, .int (nI pk), .long zz, .int su, .int lp, .int pp, .int sa, .int (nI op), .int (nI ol1)]))] → va_S A s.heap H locs → lv_has ls 6 [] → W p l e R s m args below meth c H locs cells slots Q (F0 m 55 ls [.int v])) :
    ∀ (j : Nat) (k : Nat) (a : Nat) (u : Nat) (to : Nat) (ol : Nat) (ks : Int32) (ft : Nat → Int32) (H : Heap) (locs : List Loc) (ls : Array Slot), k + j = n → u ≤ 7 → 8 * a + u ≤ 8 * bh → to ≤ 40000 → op + ol = to → zcopy f bh bu ra pk zz j (8 * a + u) (to, ol, ks, ft) = RES → va_P D zcl [(qu, .inr (4, [.ref qa, .ref qr, .ref qw, .ref s1, .ref s2, .ref s3, .ref s4, .ref s5])), (qr, .inr (5, [.ref qb, .int (nI a), .int (nI bh), .int (nI u)])), (qb, .inl (cB, 20000, .inl f)), (qa, .inr (3, [.int (nI bu), .int (nI ra), .int (nI to), .ref qo, .int ks])), (qo, .inl (cO, 40000, .inl ft)), (qe, .inr (7, [.ref en, .int nl, .int fo, .int me, .int (nI pk), .long zz, .int su, .int lp, .int pp, .int sa, .int (nI op), .int (nI ol)]))] H → va_D A [(qu, .inr (4, [.ref qa, .ref qr, .ref qw, .ref s1, .ref s2, .ref s3, .ref s4, .ref s5])), (qr, .inr (5, [.ref qb, .int (nI a), .int (nI bh), .int (nI u)])), (qb, .inl (cB, 20000, .inl f)), (qa, .inr (3, [.int (nI bu), .int (nI ra), .int (nI to), .ref qo, .int ks])), (qo, .inl (cO, 40000, .inl ft)), (qe, .inr (7, [.ref en, .int nl, .int fo, .int me, .int (nI pk), .long zz, .int su, .int lp, .int pp, .int sa, .int (nI op), .int (nI ol)]))] → va_S A s.heap H locs → lv_has ls 6 [(3, .int (nI k)), (0, .ref qu), (1, .ref qe), (2, .int (nI n))] → W p l e R s m args below meth c H locs cells slots Q (F0 m 2 ls []) := by
  intro j
  induction j with
  | zero =>
    intro k a u to ol ks ft H locs ls hk hu hau hto hol hR hP hD hS hl
    have hk : k = n := by omega
    subst hk
    refine lv_iload_n hx hb d_U_copyBytes_2 rfl (lv_at hl 0 rfl) ?_
    refine lv_iload_n hx hb d_U_copyBytes_3 rfl (lv_at hl 3 rfl) ?_
    refine lv_icmp_ge (tgt := 54) hx hb d_U_copyBytes_4 (by decide) (fun _ => ?_) (fun h => absurd (nI_le (by omega) (by omega)) h)
    refine lv_iconst (v := 0) hx hb d_U_copyBytes_54 (by decide) ?_
    exact kk a u to ol ks ft 0 H locs ls ⟨by rw [← hR]; rfl, hu, by omega, fun _ => ⟨by rw [← hR]; rfl, hau⟩, by rw [← hR]; rfl, hto, hol⟩ hP hD hS (lv_sub hl [] rfl)
  | succ j ih =>
    intro k a u to ol ks ft H locs ls hk hu hau hto hol hR hP hD hS hl
    refine lv_iload_n hx hb d_U_copyBytes_2 rfl (lv_at hl 0 rfl) ?_
    refine lv_iload_n hx hb d_U_copyBytes_3 rfl (lv_at hl 3 rfl) ?_
    refine lv_icmp_ge (tgt := 54) hx hb d_U_copyBytes_4 (by decide) (fun h => absurd h (nI_ge (by omega) (by omega))) (fun _ => ?_)
    refine lv_aload_n hx hb d_U_copyBytes_7 rfl (lv_at hl 1 rfl) ?_
    refine va_get (ci := 4) (C := "ZipGuard$Unpacker") (T := F_U) (N := 8) hx hb ht zi_U hown hK hP 0 rfl rfl 1 (by decide) (ht _ zm_371) (fun _ h9 => h9) rfl d_U_copyBytes_8 ?_
    refine lv_bipush (v := 8) hx hb d_U_copyBytes_11 (by decide) ?_
    refine zji (wr := [(qu, .inr (4, [.ref qa, .ref qr, .ref qw, .ref s1, .ref s2, .ref s3, .ref s4, .ref s5])), (qa, .inr (3, [.int (nI bu), .int (nI ra), .int (nI to), .ref qo, .int ks])), (qo, .inl (cO, 40000, .inl ft)), (qe, .inr (7, [.ref en, .int nl, .int fo, .int me, .int (nI pk), .long zz, .int su, .int lp, .int pp, .int sa, .int (nI op), .int (nI ol)]))]) (va_runV (As := [.int 8]) (rest := []) ⟨hx, hb, hml, hown, ht⟩ (c_B_read l D _ qr qb cB f bh 8 a u hbh (by decide) hu (by omega)) (cwV 1 ht (zt_goodV zm_629 zm_630 zm_631 zm_71 zm_632) rfl rfl rfl (by decide +kernel) ⟨hF0, hL0⟩) (zpreV zBlind_t hK hP hD [1, 2] [0] rfl (by decide) rfl (fun _ _ _ => trivial) (va_recv (q := ("ZipGuard$BitReader", F_B, 4)) hK hP rfl (q0 := 1) (ci := 5) rfl)) rfl rfl hl.1 rfl (lv_room (Nat.le_of_ble_eq_true rfl)) d_U_copyBytes_13 ⟨hcc, hss⟩) hK hP hD hS hA [1, 2] [0, 3, 4, 5] rfl rfl (by decide) (by decide) (fun r3 u9 H locs hp4 hP hD hK hS => ?_)
    obtain ⟨a1, u1⟩ := u9
    dsimp only at hp4 hP hD hK
    have hP : va_P D zcl [(qu, .inr (4, [.ref qa, .ref qr, .ref qw, .ref s1, .ref s2, .ref s3, .ref s4, .ref s5])), (qa, .inr (3, [.int (nI bu), .int (nI ra), .int (nI to), .ref qo, .int ks])), (qo, .inl (cO, 40000, .inl ft)), (qe, .inr (7, [.ref en, .int nl, .int fo, .int me, .int (nI pk), .long zz, .int su, .int lp, .int pp, .int sa, .int (nI op), .int (nI ol)])), (qr, .inr (5, [.ref qb, .int (nI a1), .int (nI bh), .int (nI u1)])), (qb, .inl (cB, 20000, .inl f))] H := hP
    have hD : va_D A [(qu, .inr (4, [.ref qa, .ref qr, .ref qw, .ref s1, .ref s2, .ref s3, .ref s4, .ref s5])), (qa, .inr (3, [.int (nI bu), .int (nI ra), .int (nI to), .ref qo, .int ks])), (qo, .inl (cO, 40000, .inl ft)), (qe, .inr (7, [.ref en, .int nl, .int fo, .int me, .int (nI pk), .long zz, .int su, .int lp, .int pp, .int sa, .int (nI op), .int (nI ol)])), (qr, .inr (5, [.ref qb, .int (nI a1), .int (nI bh), .int (nI u1)])), (qb, .inl (cB, 20000, .inl f))] := hD
    have hK : va_K D zcl [(cB, .byte), (cO, .byte), (cB, .byte)] s := hK
    have hP := hP.sub (ws' := [(qu, .inr (4, [.ref qa, .ref qr, .ref qw, .ref s1, .ref s2, .ref s3, .ref s4, .ref s5])), (qr, .inr (5, [.ref qb, .int (nI a1), .int (nI bh), .int (nI u1)])), (qb, .inl (cB, 20000, .inl f)), (qa, .inr (3, [.int (nI bu), .int (nI ra), .int (nI to), .ref qo, .int ks])), (qo, .inl (cO, 40000, .inl ft)), (qe, .inr (7, [.ref en, .int nl, .int fo, .int me, .int (nI pk), .long zz, .int su, .int lp, .int pp, .int sa, .int (nI op), .int (nI ol)]))]) [0, 4, 5, 1, 2, 3] rfl
    have hD := hD.sub (ws' := [(qu, .inr (4, [.ref qa, .ref qr, .ref qw, .ref s1, .ref s2, .ref s3, .ref s4, .ref s5])), (qr, .inr (5, [.ref qb, .int (nI a1), .int (nI bh), .int (nI u1)])), (qb, .inl (cB, 20000, .inl f)), (qa, .inr (3, [.int (nI bu), .int (nI ra), .int (nI to), .ref qo, .int ks])), (qo, .inl (cO, 40000, .inl ft)), (qe, .inr (7, [.ref en, .int nl, .int fo, .int me, .int (nI pk), .long zz, .int su, .int lp, .int pp, .int sa, .int (nI op), .int (nI ol)]))]) [0, 4, 5, 1, 2, 3] (by decide) rfl
    have hK := hK.sub (tys' := [(cB, .byte), (cO, .byte)]) [0, 1] rfl
    obtain ⟨hu1, ha1, hp4⟩ := hp4
    unfold zcopy at hR
    have hzl := zbits_lt f (8 * a + u) 8
    rcases hp4 with ⟨hp4, hpos, hle9⟩ | ⟨hp4, hend⟩
    · skip
      have hNE : ¬ 8 * bh < 8 * a + u + 8 := by omega
      rw [if_neg hNE] at hR
      have hp4 := hp4.symm
      subst hp4
      refine lv_istore (lv' := [(4, .int (nI (zbits f (8 * a + u) 8))), (3, .int (nI k)), (0, .ref qu), (1, .ref qe), (2, .int (nI n))]) hx hb d_U_copyBytes_16 hl (by decide) rfl (fun ls hl => ?_)
      refine lv_iload hx hb d_U_copyBytes_18 (lv_at hl 0 rfl) ?_
      refine lv_if_ge (tgt := 28) hx hb d_U_copyBytes_20 (by decide) (fun _ => ?_) (fun h => absurd (nI_pos' (by omega)) h)
      refine lv_aload_n hx hb d_U_copyBytes_28 rfl (lv_at hl 2 rfl) ?_
      refine va_get (ci := 4) (C := "ZipGuard$Unpacker") (T := F_U) (N := 8) hx hb ht zi_U hown hK hP 0 rfl rfl 0 (by decide) (ht _ zm_370) (fun _ h9 => h9) rfl d_U_copyBytes_29 ?_
      refine lv_aload_n hx hb d_U_copyBytes_32 rfl (lv_at hl 3 rfl) ?_
      refine lv_iload hx hb d_U_copyBytes_33 (lv_at hl 0 rfl) ?_
      refine zji (wr := [(qu, .inr (4, [.ref qa, .ref qr, .ref qw, .ref s1, .ref s2, .ref s3, .ref s4, .ref s5])), (qr, .inr (5, [.ref qb, .int (nI a1), .int (nI bh), .int (nI u1)])), (qb, .inl (cB, 20000, .inl f))]) (va_runV (As := [.ref qe, .int (nI (zbits f (8 * a + u) 8))]) (rest := []) ⟨hx, hb, hml, hown, ht⟩ (c_A_put l D _ qa qo qe cO ft ks bu ra to (nI (zbits f (8 * a + u) 8)) en nl fo me pk zz su lp pp sa (nI op) ol hbu hto) (cwV 2 ht (zt_goodV zm_633 zm_634 zm_635 zm_69 zm_636) rfl rfl rfl (by decide +kernel) ⟨hF1, hL1⟩) (zpreV (zBlind_XT _) hK hP hD [3, 4, 5] [1] rfl (by decide) rfl (zXT_call hX hD hS hA [3, 4, 5] rfl) (va_recv (q := ("ZipGuard$Target", F_A, 5)) hK hP rfl (q0 := 3) (ci := 3) rfl)) rfl rfl hl.1 rfl (lv_room (Nat.le_of_ble_eq_true rfl)) d_U_copyBytes_35 ⟨hcc, hss⟩) hK hP hD hS hA [3, 4, 5] [0, 1, 2] rfl rfl (by decide) (by decide) (fun r6 u9 H locs hp7 hP hD hK hS => ?_)
      obtain ⟨to1, ol1, ks1, ft1⟩ := u9
      dsimp only at hp7 hP hD hK
      have hP : va_P D zcl [(qu, .inr (4, [.ref qa, .ref qr, .ref qw, .ref s1, .ref s2, .ref s3, .ref s4, .ref s5])), (qr, .inr (5, [.ref qb, .int (nI a1), .int (nI bh), .int (nI u1)])), (qb, .inl (cB, 20000, .inl f)), (qa, .inr (3, [.int (nI bu), .int (nI ra), .int (nI to1), .ref qo, .int ks1])), (qo, .inl (cO, 40000, .inl ft1)), (qe, .inr (7, [.ref en, .int nl, .int fo, .int me, .int (nI pk), .long zz, .int su, .int lp, .int pp, .int sa, .int (nI op), .int (nI ol1)]))] H := hP
      have hD : va_D A [(qu, .inr (4, [.ref qa, .ref qr, .ref qw, .ref s1, .ref s2, .ref s3, .ref s4, .ref s5])), (qr, .inr (5, [.ref qb, .int (nI a1), .int (nI bh), .int (nI u1)])), (qb, .inl (cB, 20000, .inl f)), (qa, .inr (3, [.int (nI bu), .int (nI ra), .int (nI to1), .ref qo, .int ks1])), (qo, .inl (cO, 40000, .inl ft1)), (qe, .inr (7, [.ref en, .int nl, .int fo, .int me, .int (nI pk), .long zz, .int su, .int lp, .int pp, .int sa, .int (nI op), .int (nI ol1)]))] := hD
      have hK : va_K D zcl [(cB, .byte), (cO, .byte), (cO, .byte)] s := hK
      have hP := hP.sub (ws' := [(qu, .inr (4, [.ref qa, .ref qr, .ref qw, .ref s1, .ref s2, .ref s3, .ref s4, .ref s5])), (qr, .inr (5, [.ref qb, .int (nI a1), .int (nI bh), .int (nI u1)])), (qb, .inl (cB, 20000, .inl f)), (qa, .inr (3, [.int (nI bu), .int (nI ra), .int (nI to1), .ref qo, .int ks1])), (qo, .inl (cO, 40000, .inl ft1)), (qe, .inr (7, [.ref en, .int nl, .int fo, .int me, .int (nI pk), .long zz, .int su, .int lp, .int pp, .int sa, .int (nI op), .int (nI ol1)]))]) [0, 1, 2, 3, 4, 5] rfl
      have hD := hD.sub (ws' := [(qu, .inr (4, [.ref qa, .ref qr, .ref qw, .ref s1, .ref s2, .ref s3, .ref s4, .ref s5])), (qr, .inr (5, [.ref qb, .int (nI a1), .int (nI bh), .int (nI u1)])), (qb, .inl (cB, 20000, .inl f)), (qa, .inr (3, [.int (nI bu), .int (nI ra), .int (nI to1), .ref qo, .int ks1])), (qo, .inl (cO, 40000, .inl ft1)), (qe, .inr (7, [.ref en, .int nl, .int fo, .int me, .int (nI pk), .long zz, .int su, .int lp, .int pp, .int sa, .int (nI op), .int (nI ol1)]))]) [0, 1, 2, 3, 4, 5] (by decide) rfl
      have hK := hK.sub (tys' := [(cB, .byte), (cO, .byte)]) [0, 1] rfl
      obtain ⟨hp7, hp9⟩ := hp7
      have hinv := zput_inv (bu := bu) (ra := ra) (pk := pk) (zz := zz) (o := (to, ol, ks, ft)) (b := nI (zbits f (8 * a + u) 8)) (c := op) hbu hto hol
      rw [← hp9] at hinv hR
      rw [← hp7] at hR
      have hcs := zput_cases bu ra pk zz (to, ol, ks, ft) (nI (zbits f (8 * a + u) 8))
      rw [← hp7] at hcs
      dsimp only at hinv hR
      refine lv_istore (lv' := [(5, .int r6), (4, .int (nI (zbits f (8 * a + u) 8))), (3, .int (nI k)), (0, .ref qu), (1, .ref qe), (2, .int (nI n))]) hx hb d_U_copyBytes_38 hl (by decide) rfl (fun ls hl => ?_)
      refine lv_iload hx hb d_U_copyBytes_40 (lv_at hl 0 rfl) ?_
      rcases hcs with h0 | ⟨h1, h2, h3⟩
      · skip
        rw [if_pos h0] at hR
        refine lv_if_ge (tgt := 48) hx hb d_U_copyBytes_42 (by decide) (fun _ => ?_) (fun h => absurd (by rw [h0]; decide) h)
        refine lv_iinc (k := 2) (v := (nI k) + 1) (lv' := [(3, .int ((nI k) + 1)), (5, .int r6), (4, .int (nI (zbits f (8 * a + u) 8))), (0, .ref qu), (1, .ref qe), (2, .int (nI n))]) hx hb d_U_copyBytes_48 hl rfl rfl (by decide) rfl (fun ls hl => ?_)
        refine lv_goto (tgt := 2) hx hb d_U_copyBytes_51 (by decide) ?_
        rw [nI_1] at hl
        exact ih (k + 1) a1 u1 to1 ol1 ks1 ft1 H locs ls (by omega) hu1 (by omega) hinv.1 hinv.2 (by rw [hpos]; exact hR) hP hD hS (lv_sub hl [0, 3, 4, 5] rfl)
      · skip
        rw [if_neg h2] at hR
        refine lv_if_ge (tgt := 48) hx hb d_U_copyBytes_42 (by decide) (fun h => absurd h (fun h => absurd h1 (by rw [Int32.lt_iff_toInt_lt]; have h9 := Int32.le_iff_toInt_le.mp h; omega))) (fun _ => ?_)
        refine lv_iload hx hb d_U_copyBytes_45 (lv_at hl 0 rfl) ?_
        exact k47 a1 u1 to1 ol1 ks1 ft1 H locs ls _ ⟨by rw [← hR], hu1, ha1, fun _ => ⟨by rw [← hR]; exact hpos, by omega⟩, by rw [← hR], hinv.1, hinv.2⟩ hP hD hS (lv_sub hl [] rfl)
    · skip
      rw [if_pos hend] at hR
      have hp4 := hp4.symm
      subst hp4
      refine lv_istore (lv' := [(4, .int (-30)), (3, .int (nI k)), (0, .ref qu), (1, .ref qe), (2, .int (nI n))]) hx hb d_U_copyBytes_16 hl (by decide) rfl (fun ls hl => ?_)
      refine lv_iload hx hb d_U_copyBytes_18 (lv_at hl 0 rfl) ?_
      refine lv_if_ge (tgt := 28) hx hb d_U_copyBytes_20 (by decide) (fun h => absurd h (by decide)) (fun _ => ?_)
      refine lv_iload hx hb d_U_copyBytes_23 (lv_at hl 0 rfl) ?_
      refine lv_goto (tgt := 38) hx hb d_U_copyBytes_25 (by decide) ?_
      refine lv_istore (lv' := [(5, .int (-30)), (4, .int (-30)), (3, .int (nI k)), (0, .ref qu), (1, .ref qe), (2, .int (nI n))]) hx hb d_U_copyBytes_38 hl (by decide) rfl (fun ls hl => ?_)
      refine lv_iload hx hb d_U_copyBytes_40 (lv_at hl 0 rfl) ?_
      refine lv_if_ge (tgt := 48) hx hb d_U_copyBytes_42 (by decide) (fun h => absurd h (by decide)) (fun _ => ?_)
      refine lv_iload hx hb d_U_copyBytes_45 (lv_at hl 0 rfl) ?_
      exact k47 a1 u1 to ol ks ft H locs ls _ ⟨by rw [← hR], hu1, ha1, fun h => absurd rfl h, by rw [← hR], hto, hol⟩ hP hD hS (lv_sub hl [] rfl)
set_option maxHeartbeats 4000000 in
set_option maxRecDepth 100000 in
theorem c_U_copy (l : Launch) (D : va_G) (sz : Nat) (qu : Nat) (qw : Nat) (s1 : Nat) (s2 : Nat) (s3 : Nat) (s4 : Nat) (s5 : Nat) (qr : Nat) (qb : Nat) (qa : Nat) (qo : Nat) (qe : Nat) (cB : ClassId) (cO : ClassId) (f : Nat → Int32) (bh : Nat) (bu : Nat) (ra : Nat) (en : Nat) (nl : Int32) (fo : Int32) (me : Int32) (pk : Nat) (zz : Int64) (su : Int32) (lp : Int32) (pp : Int32) (sa : Int32) (op : Nat) (n : Nat) (a : Nat) (u : Nat) (to : Nat) (ol : Nat) (ks : Int32) (ft : Nat → Int32) (hbh : bh ≤ 20000) (hbu : bu ≤ 40000) (hu : u ≤ 7) (hau : 8 * a + u ≤ 8 * bh) (hto : to ≤ 40000) (hol : op + ol = to) (hn : n < 2 ^ 31) : Met l y_U_copyBytes (Cond.code y_U_copyBytes prog_8_method_5_code 6 (Option.some Jvm.ClassFile.FieldType.int) :: zt) { frames := 1, cells := 0, slots := 0, locals := 25 } (zPc [.ref qu, .ref qe, .int (nI n)] D [(qu, .inr (4, [.ref qa, .ref qr, .ref qw, .ref s1, .ref s2, .ref s3, .ref s4, .ref s5])), (qr, .inr (5, [.ref qb, .int (nI a), .int (nI bh), .int (nI u)])), (qb, .inl (cB, 20000, .inl f)), (qa, .inr (3, [.int (nI bu), .int (nI ra), .int (nI to), .ref qo, .int ks])), (qo, .inl (cO, 40000, .inl ft)), (qe, .inr (7, [.ref en, .int nl, .int fo, .int me, .int (nI pk), .long zz, .int su, .int lp, .int pp, .int sa, .int (nI op), .int (nI ol)]))] [(cB, .byte), (cO, .byte)] sz (zXT [(qu, .inr (4, [.ref qa, .ref qr, .ref qw, .ref s1, .ref s2, .ref s3, .ref s4, .ref s5])), (qr, .inr (5, [.ref qb, .int (nI a), .int (nI bh), .int (nI u)])), (qb, .inl (cB, 20000, .inl f)), (qa, .inr (3, [.int (nI bu), .int (nI ra), .int (nI to), .ref qo, .int ks])), (qo, .inl (cO, 40000, .inl ft)), (qe, .inr (7, [.ref en, .int nl, .int fo, .int me, .int (nI pk), .long zz, .int su, .int lp, .int pp, .int sa, .int (nI op), .int (nI ol)]))])) (va_Qi (fun (r : Int32) => fun (u9 : Nat × Nat × Nat × Nat × Int32 × (Nat → Int32)) => match u9 with | (a1, u1, to1, ol1, ks1, ft1) => zOut (zcopy f bh bu ra pk zz n (8 * a + u) (to, ol, ks, ft)) bh op r a1 u1 to1 ol1 ks1 ft1) (fun u9 t => zB D ((fun (u9 : Nat × Nat × Nat × Nat × Int32 × (Nat → Int32)) => match u9 with | (a1, u1, to1, ol1, ks1, ft1) => [(qu, .inr (4, [.ref qa, .ref qr, .ref qw, .ref s1, .ref s2, .ref s3, .ref s4, .ref s5])), (qr, .inr (5, [.ref qb, .int (nI a1), .int (nI bh), .int (nI u1)])), (qb, .inl (cB, 20000, .inl f)), (qa, .inr (3, [.int (nI bu), .int (nI ra), .int (nI to1), .ref qo, .int ks1])), (qo, .inl (cO, 40000, .inl ft1)), (qe, .inr (7, [.ref en, .int nl, .int fo, .int me, .int (nI pk), .long zz, .int su, .int lp, .int pp, .int sa, .int (nI op), .int (nI ol1)]))]) u9) ((fun (u9 : Nat × Nat × Nat × Nat × Int32 × (Nat → Int32)) => match u9 with | (a1, u1, to1, ol1, ks1, ft1) => [(cB, .byte), (cO, .byte)]) u9) (va_A [(qu, .inr (4, [.ref qa, .ref qr, .ref qw, .ref s1, .ref s2, .ref s3, .ref s4, .ref s5])), (qr, .inr (5, [.ref qb, .int (nI a), .int (nI bh), .int (nI u)])), (qb, .inl (cB, 20000, .inl f)), (qa, .inr (3, [.int (nI bu), .int (nI ra), .int (nI to), .ref qo, .int ks])), (qo, .inl (cO, 40000, .inl ft)), (qe, .inr (7, [.ref en, .int nl, .int fo, .int me, .int (nI pk), .long zz, .int su, .int lp, .int pp, .int sa, .int (nI op), .int (nI ol)]))] sz) t) (va_A [(qu, .inr (4, [.ref qa, .ref qr, .ref qw, .ref s1, .ref s2, .ref s3, .ref s4, .ref s5])), (qr, .inr (5, [.ref qb, .int (nI a), .int (nI bh), .int (nI u)])), (qb, .inl (cB, 20000, .inl f)), (qa, .inr (3, [.int (nI bu), .int (nI ra), .int (nI to), .ref qo, .int ks])), (qo, .inl (cO, 40000, .inl ft)), (qe, .inr (7, [.ref en, .int nl, .int fo, .int me, .int (nI pk), .long zz, .int su, .int lp, .int pp, .int sa, .int (nI op), .int (nI ol)]))] sz)) 0 0 (va_A [(qu, .inr (4, [.ref qa, .ref qr, .ref qw, .ref s1, .ref s2, .ref s3, .ref s4, .ref s5])), (qr, .inr (5, [.ref qb, .int (nI a), .int (nI bh), .int (nI u)])), (qb, .inl (cB, 20000, .inl f)), (qa, .inr (3, [.int (nI bu), .int (nI ra), .int (nI to), .ref qo, .int ks])), (qo, .inl (cO, 40000, .inl ft)), (qe, .inr (7, [.ref en, .int nl, .int fo, .int me, .int (nI pk), .long zz, .int su, .int lp, .int pp, .int sa, .int (nI op), .int (nI ol)]))] sz) :=
  zMetA (Qf := fun A => va_Qi (fun (r : Int32) => fun (u9 : Nat × Nat × Nat × Nat × Int32 × (Nat → Int32)) => match u9 with | (a1, u1, to1, ol1, ks1, ft1) => zOut (zcopy f bh bu ra pk zz n (8 * a + u) (to, ol, ks, ft)) bh op r a1 u1 to1 ol1 ks1 ft1) (fun u9 t => zB D ((fun (u9 : Nat × Nat × Nat × Nat × Int32 × (Nat → Int32)) => match u9 with | (a1, u1, to1, ol1, ks1, ft1) => [(qu, .inr (4, [.ref qa, .ref qr, .ref qw, .ref s1, .ref s2, .ref s3, .ref s4, .ref s5])), (qr, .inr (5, [.ref qb, .int (nI a1), .int (nI bh), .int (nI u1)])), (qb, .inl (cB, 20000, .inl f)), (qa, .inr (3, [.int (nI bu), .int (nI ra), .int (nI to1), .ref qo, .int ks1])), (qo, .inl (cO, 40000, .inl ft1)), (qe, .inr (7, [.ref en, .int nl, .int fo, .int me, .int (nI pk), .long zz, .int su, .int lp, .int pp, .int sa, .int (nI op), .int (nI ol1)]))]) u9) ((fun (u9 : Nat × Nat × Nat × Nat × Int32 × (Nat → Int32)) => match u9 with | (a1, u1, to1, ol1, ks1, ft1) => [(cB, .byte), (cO, .byte)]) u9) A t) A) (by decide) (Nat.le_of_ble_eq_true rfl) (fun p e s m below meth c A ls hx hb hr hml hown ht hlk hnm hA hK hP hD hX hl => by
    have hS : va_S A s.heap s.heap [] := va_S.rf
    have hl : lv_has ls 6 [(0, .ref qu), (1, .ref qe), (2, .int (nI n))] := hl
    refine lv_iconst (v := 0) hx hb d_U_copyBytes_0 (by decide) ?_
    refine lv_istore_n (lv' := [(3, .int 0), (0, .ref qu), (1, .ref qe), (2, .int (nI n))]) hx hb d_U_copyBytes_1 rfl hl (by decide) rfl (fun ls hl => ?_)
    have hl : lv_has ls 6 [(3, .int (nI 0)), (0, .ref qu), (1, .ref qe), (2, .int (nI n))] := hl
    refine lp_U_copy hx hb hml hown ht hA qu qw s1 s2 s3 s4 s5 qr qb qa qo qe cB cO f bh bu ra en nl fo me pk zz su lp pp sa op n (zcopy f bh bu ra pk zz n (8 * a + u) (to, ol, ks, ft)) hbh hbu hn hX (Nat.le_of_ble_eq_true rfl) (Nat.le_of_ble_eq_true rfl) (Nat.le_of_ble_eq_true rfl) (Nat.le_of_ble_eq_true rfl) (Nat.le_of_ble_eq_true rfl) (Nat.le_of_ble_eq_true rfl) hK (fun a1 u1 to1 ol1 ks1 ft1 H locs ls v hout hP hD hS hl => ?_) (fun a1 u1 to1 ol1 ks1 ft1 v H locs ls hout hP hD hS hl => ?_) n 0 a u to ol ks ft s.heap [] ls (by omega) hu hau hto hol rfl hP hD hS hl
    · skip
      exact zreti hx hb hr hlk hK hP hD hS (a1, u1, to1, ol1, ks1, ft1) [0, 1, 2, 3, 4, 5] [0, 1] rfl (by decide) rfl (hout) (Nat.le_of_ble_eq_true rfl) (Nat.le_of_ble_eq_true rfl) d_U_copyBytes_47
    · skip
      exact zreti hx hb hr hlk hK hP hD hS (a1, u1, to1, ol1, ks1, ft1) [0, 1, 2, 3, 4, 5] [0, 1] rfl (by decide) rfl (hout) (Nat.le_of_ble_eq_true rfl) (Nat.le_of_ble_eq_true rfl) d_U_copyBytes_55)
