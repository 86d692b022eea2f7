set_option maxRecDepth 100000 in
theorem zm_111 : Jvm.Cond.methodLink "ZipGuard$Directory" (3 : Nat) ({ cls := "java/lang/Object", name := "<init>", desc := "()V" } : Jvm.MethodName) ∈ zt := zt_m1 (List.mem_of_getElem? (i := 47) rfl)
set_option maxRecDepth 100000 in
theorem zm_112 : Jvm.Cond.classLink "ZipGuard$Directory" (15 : Nat) "ZipGuard$Entry" ∈ zt := zt_m1 (List.mem_of_getElem? (i := 48) rfl)
set_option maxRecDepth 100000 in
theorem zm_113 : Jvm.Cond.instantiable "ZipGuard$Entry" (12 : Nat) ∈ zt := zt_m1 (List.mem_of_getElem? (i := 49) rfl)
set_option maxRecDepth 100000 in
theorem zm_114 : Jvm.Cond.methodLink "ZipGuard$Directory" (21 : Nat) ({ cls := "ZipGuard$Entry", name := "<init>", desc := "()V" } : Jvm.MethodName) ∈ zt := zt_m1 (List.mem_of_getElem? (i := 50) rfl)
set_option maxRecDepth 100000 in
theorem zm_115 : Jvm.Cond.instanceMethod ({ cls := "ZipGuard$Entry", name := "<init>", desc := "()V" } : Jvm.MethodName) ∈ zt := zt_m1 (List.mem_of_getElem? (i := 51) rfl)
set_option maxRecDepth 100000 in
theorem zm_116 : Jvm.Cond.code ({ cls := "ZipGuard$Entry", name := "<init>", desc := "()V" } : Jvm.MethodName) prog_5_method_1_code (1 : Nat) (Option.none : Option Jvm.ClassFile.FieldType) ∈ zt := zt_m1 (List.mem_of_getElem? (i := 52) rfl)
theorem d_D_init_0 : decode prog_4_method_1_code 0 = .ok (.aload_n 0, 1) := by decide +kernel
theorem d_D_init_1 : decode prog_4_method_1_code 1 = .ok (.invokespecial 3, 3) := by decide +kernel
theorem d_D_init_4 : decode prog_4_method_1_code 4 = .ok (.aload_n 0, 1) := by decide +kernel
theorem d_D_init_5 : decode prog_4_method_1_code 5 = .ok (.aload_n 1, 1) := by decide +kernel
theorem d_D_init_6 : decode prog_4_method_1_code 6 = .ok (.putfield 9, 3) := by decide +kernel
theorem d_D_init_9 : decode prog_4_method_1_code 9 = .ok (.aload_n 0, 1) := by decide +kernel
theorem d_D_init_10 : decode prog_4_method_1_code 10 = .ok (.bipush 64, 2) := by decide +kernel
theorem d_D_init_12 : decode prog_4_method_1_code 12 = .ok (.anewarray 15, 3) := by decide +kernel
theorem d_D_init_15 : decode prog_4_method_1_code 15 = .ok (.putfield 17, 3) := by decide +kernel
theorem d_D_init_18 : decode prog_4_method_1_code 18 = .ok (.iconst 0, 1) := by decide +kernel
theorem d_D_init_19 : decode prog_4_method_1_code 19 = .ok (.istore_n 2, 1) := by decide +kernel
theorem d_D_init_20 : decode prog_4_method_1_code 20 = .ok (.iload_n 2, 1) := by decide +kernel
theorem d_D_init_21 : decode prog_4_method_1_code 21 = .ok (.bipush 64, 2) := by decide +kernel
theorem d_D_init_23 : decode prog_4_method_1_code 23 = .ok (.if_icmp .ge 22, 3) := by decide +kernel
theorem d_D_init_26 : decode prog_4_method_1_code 26 = .ok (.aload_n 0, 1) := by decide +kernel
theorem d_D_init_27 : decode prog_4_method_1_code 27 = .ok (.getfield 17, 3) := by decide +kernel
theorem d_D_init_30 : decode prog_4_method_1_code 30 = .ok (.iload_n 2, 1) := by decide +kernel
theorem d_D_init_31 : decode prog_4_method_1_code 31 = .ok (.new 15, 3) := by decide +kernel
theorem d_D_init_34 : decode prog_4_method_1_code 34 = .ok (.dup, 1) := by decide +kernel
theorem d_D_init_35 : decode prog_4_method_1_code 35 = .ok (.invokespecial 21, 3) := by decide +kernel
theorem d_D_init_38 : decode prog_4_method_1_code 38 = .ok (.aastore, 1) := by decide +kernel
theorem d_D_init_39 : decode prog_4_method_1_code 39 = .ok (.iinc 2 1, 3) := by decide +kernel
theorem d_D_init_42 : decode prog_4_method_1_code 42 = .ok (.goto (-22), 3) := by decide +kernel
theorem d_D_init_45 : decode prog_4_method_1_code 45 = .ok (.aload_n 0, 1) := by decide +kernel
theorem d_D_init_46 : decode prog_4_method_1_code 46 = .ok (.iconst 0, 1) := by decide +kernel
theorem d_D_init_47 : decode prog_4_method_1_code 47 = .ok (.putfield 22, 3) := by decide +kernel
theorem d_D_init_50 : decode prog_4_method_1_code 50 = .ok (.aload_n 0, 1) := by decide +kernel
theorem d_D_init_51 : decode prog_4_method_1_code 51 = .ok (.iconst 0, 1) := by decide +kernel
theorem d_D_init_52 : decode prog_4_method_1_code 52 = .ok (.putfield 26, 3) := by decide +kernel
theorem d_D_init_55 : decode prog_4_method_1_code 55 = .ok (.aload_n 0, 1) := by decide +kernel
theorem d_D_init_56 : decode prog_4_method_1_code 56 = .ok (.iconst (-1), 1) := by decide +kernel
theorem d_D_init_57 : decode prog_4_method_1_code 57 = .ok (.putfield 30, 3) := by decide +kernel
theorem d_D_init_60 : decode prog_4_method_1_code 60 = .ok (.return_, 1) := by decide +kernel
theorem d_U_buildFixedCodes_0 : decode prog_8_method_2_code 0 = .ok (.aload_n 0, 1) := by decide +kernel
theorem d_U_buildFixedCodes_1 : decode prog_8_method_2_code 1 = .ok (.getfield 22, 3) := by decide +kernel
theorem d_U_buildFixedCodes_4 : decode prog_8_method_2_code 4 = .ok (.iconst 0, 1) := by decide +kernel
theorem d_U_buildFixedCodes_5 : decode prog_8_method_2_code 5 = .ok (.sipush 144, 3) := by decide +kernel
theorem d_U_buildFixedCodes_8 : decode prog_8_method_2_code 8 = .ok (.bipush 8, 2) := by decide +kernel
theorem d_U_buildFixedCodes_10 : decode prog_8_method_2_code 10 = .ok (.invokestatic 50, 3) := by decide +kernel
theorem d_U_buildFixedCodes_13 : decode prog_8_method_2_code 13 = .ok (.aload_n 0, 1) := by decide +kernel
theorem d_U_buildFixedCodes_14 : decode prog_8_method_2_code 14 = .ok (.getfield 22, 3) := by decide +kernel
theorem d_U_buildFixedCodes_17 : decode prog_8_method_2_code 17 = .ok (.sipush 144, 3) := by decide +kernel
theorem d_U_buildFixedCodes_20 : decode prog_8_method_2_code 20 = .ok (.sipush 256, 3) := by decide +kernel
theorem d_U_buildFixedCodes_23 : decode prog_8_method_2_code 23 = .ok (.bipush 9, 2) := by decide +kernel
theorem d_U_buildFixedCodes_25 : decode prog_8_method_2_code 25 = .ok (.invokestatic 50, 3) := by decide +kernel
theorem d_U_buildFixedCodes_28 : decode prog_8_method_2_code 28 = .ok (.aload_n 0, 1) := by decide +kernel
theorem d_U_buildFixedCodes_29 : decode prog_8_method_2_code 29 = .ok (.getfield 22, 3) := by decide +kernel
theorem d_U_buildFixedCodes_32 : decode prog_8_method_2_code 32 = .ok (.sipush 256, 3) := by decide +kernel
theorem d_U_buildFixedCodes_35 : decode prog_8_method_2_code 35 = .ok (.sipush 280, 3) := by decide +kernel
theorem d_U_buildFixedCodes_38 : decode prog_8_method_2_code 38 = .ok (.bipush 7, 2) := by decide +kernel
theorem d_U_buildFixedCodes_40 : decode prog_8_method_2_code 40 = .ok (.invokestatic 50, 3) := by decide +kernel
theorem d_U_buildFixedCodes_43 : decode prog_8_method_2_code 43 = .ok (.aload_n 0, 1) := by decide +kernel
theorem d_U_buildFixedCodes_44 : decode prog_8_method_2_code 44 = .ok (.getfield 22, 3) := by decide +kernel
theorem d_U_buildFixedCodes_47 : decode prog_8_method_2_code 47 = .ok (.sipush 280, 3) := by decide +kernel
theorem d_U_buildFixedCodes_50 : decode prog_8_method_2_code 50 = .ok (.sipush 288, 3) := by decide +kernel
theorem d_U_buildFixedCodes_53 : decode prog_8_method_2_code 53 = .ok (.bipush 8, 2) := by decide +kernel
theorem d_U_buildFixedCodes_55 : decode prog_8_method_2_code 55 = .ok (.invokestatic 50, 3) := by decide +kernel
theorem d_U_buildFixedCodes_58 : decode prog_8_method_2_code 58 = .ok (.aload_n 0, 1) := by decide +kernel
theorem d_U_buildFixedCodes_59 : decode prog_8_method_2_code 59 = .ok (.getfield 22, 3) := by decide +kernel
theorem d_U_buildFixedCodes_62 : decode prog_8_method_2_code 62 = .ok (.sipush 288, 3) := by decide +kernel
theorem d_U_buildFixedCodes_65 : decode prog_8_method_2_code 65 = .ok (.sipush 320, 3) := by decide +kernel
theorem d_U_buildFixedCodes_68 : decode prog_8_method_2_code 68 = .ok (.iconst 5, 1) := by decide +kernel
theorem d_U_buildFixedCodes_69 : decode prog_8_method_2_code 69 = .ok (.invokestatic 50, 3) := by decide +kernel
theorem d_U_buildFixedCodes_72 : decode prog_8_method_2_code 72 = .ok (.aload_n 0, 1) := by decide +kernel
theorem d_U_buildFixedCodes_73 : decode prog_8_method_2_code 73 = .ok (.getfield 31, 3) := by decide +kernel
theorem d_U_buildFixedCodes_76 : decode prog_8_method_2_code 76 = .ok (.aload_n 0, 1) := by decide +kernel
theorem d_U_buildFixedCodes_77 : decode prog_8_method_2_code 77 = .ok (.getfield 22, 3) := by decide +kernel
theorem d_U_buildFixedCodes_80 : decode prog_8_method_2_code 80 = .ok (.iconst 0, 1) := by decide +kernel
theorem d_U_buildFixedCodes_81 : decode prog_8_method_2_code 81 = .ok (.sipush 288, 3) := by decide +kernel
theorem d_U_buildFixedCodes_84 : decode prog_8_method_2_code 84 = .ok (.invokevirtual 56, 3) := by decide +kernel
theorem d_U_buildFixedCodes_87 : decode prog_8_method_2_code 87 = .ok (.aload_n 0, 1) := by decide +kernel
theorem d_U_buildFixedCodes_88 : decode prog_8_method_2_code 88 = .ok (.getfield 35, 3) := by decide +kernel
theorem d_U_buildFixedCodes_91 : decode prog_8_method_2_code 91 = .ok (.aload_n 0, 1) := by decide +kernel
theorem d_U_buildFixedCodes_92 : decode prog_8_method_2_code 92 = .ok (.getfield 22, 3) := by decide +kernel
theorem d_U_buildFixedCodes_95 : decode prog_8_method_2_code 95 = .ok (.sipush 288, 3) := by decide +kernel
theorem d_U_buildFixedCodes_98 : decode prog_8_method_2_code 98 = .ok (.bipush 32, 2) := by decide +kernel
theorem d_U_buildFixedCodes_100 : decode prog_8_method_2_code 100 = .ok (.invokevirtual 56, 3) := by decide +kernel
theorem d_U_buildFixedCodes_103 : decode prog_8_method_2_code 103 = .ok (.return_, 1) := by decide +kernel
def zfix (k : Nat) : Nat := if k < 144 then 8 else if k < 256 then 9 else if k < 280 then 7 else 8
def zfixF (f : Nat → Int32) : Nat → Int32 := zfill (zfill (zfill (zfill (zfill f 8 0 144) 9 144 256) 7 256 280) 8 280 288) 5 288 320
theorem zfix_s (f : Nat → Int32) : ∀ k, k < 288 → zfixF f (0 + k) = nI (zfix k) := by
  intro k hk
  unfold zfixF
  simp only [zfill, zfix, Nat.zero_add]
  by_cases h1 : k < 144
  · rw [if_neg (by omega), if_neg (by omega), if_neg (by omega), if_neg (by omega), if_pos (by omega), if_pos h1]; rfl
  · by_cases h2 : k < 256
    · rw [if_neg (by omega), if_neg (by omega), if_neg (by omega), if_pos (by omega), if_neg h1, if_pos h2]; rfl
    · by_cases h3 : k < 280
      · rw [if_neg (by omega), if_neg (by omega), if_pos (by omega), if_neg h1, if_neg h2, if_pos h3]; rfl
      · rw [if_neg (by omega), if_pos (by omega), if_neg h1, if_neg h2, if_neg h3]; rfl
theorem zfix_d (f : Nat → Int32) : ∀ k, k < 32 → zfixF f (288 + k) = nI ((fun _ => 5) k) := by
  intro k hk
  unfold zfixF
  simp only [zfill]
  rw [if_pos (by omega)]; rfl
theorem zfix_15 : ∀ k, k < 288 → zfix k ≤ 15 := by
  intro k hk
  unfold zfix
  split
  · omega
  · split
    · omega
    · split <;> omega
theorem zBlind_AO : zBlind (va_AO "ZipGuard$Entry") := fun _ _ h _ hx => hx.moved h
set_option maxHeartbeats 4000000 in
set_option maxRecDepth 100000 in
theorem c_U_bfc (l : Launch) (D : va_G) (sz : Nat) (h0 : Nat) (tg : Nat) (bt : Nat) (ar : Nat) (fs : Nat) (fd : Nat) (lc : Nat) (os : Nat) (od : Nat) (s1 : Nat) (s2 : Nat) (s3 : Nat) (d1 : Nat) (d2 : Nat) (d3 : Nat) (cR : ClassId) (cS1 : ClassId) (cS2 : ClassId) (cS3 : ClassId) (cD1 : ClassId) (cD2 : ClassId) (cD3 : ClassId) (f : Nat → Int32) (k1 : Int32) (k2 : Int32) (u1 : Nat → Int32) (u2 : Nat → Int32) (u3 : Nat → Int32) (v1 : Nat → Int32) (v2 : Nat → Int32) (v3 : Nat → Int32)  : Met l y_U_buildFixedCodes (Cond.code y_U_buildFixedCodes prog_8_method_2_code 1 (Option.none : Option Jvm.ClassFile.FieldType) :: zt) { frames := 2, cells := 0, slots := 0, locals := 48 } (zPc [.ref h0] D [(h0, .inr (4, [.ref tg, .ref bt, .ref ar, .ref fs, .ref fd, .ref lc, .ref os, .ref od])), (ar, .inl (cR, 320, .inl f)), (fs, .inr (6, [.ref s1, .ref s2, .ref s3, .int k1])), (s1, .inl (cS1, 16, .inl u1)), (s2, .inl (cS2, 16, .inl u2)), (s3, .inl (cS3, 288, .inl u3)), (fd, .inr (6, [.ref d1, .ref d2, .ref d3, .int k2])), (d1, .inl (cD1, 16, .inl v1)), (d2, .inl (cD2, 16, .inl v2)), (d3, .inl (cD3, 32, .inl v3))] [(cR, .int), (cS1, .int), (cS2, .int), (cS3, .int), (cD1, .int), (cD2, .int), (cD3, .int)] sz (fun _ => True)) (va_Qv (fun (u9 : ((Nat → Int32) × (Nat → Int32) × (Nat → Int32)) × ((Nat → Int32) × (Nat → Int32) × (Nat → Int32))) => match u9 with | ((G1, G2, G3), (E1, E2, E3)) => ((∀ l, l ≤ 15 → G1 l = nI (zcn zfix 288 l)) ∧ (∀ i, i < 288 → 1 ≤ zfix i → G3 (zst zfix 288 (zfix i) + zcn zfix i (zfix i)) = nI i)) ∧ ((∀ l, l ≤ 15 → E1 l = nI (zcn (fun _ => 5) 32 l)) ∧ (∀ i, i < 32 → 1 ≤ 5 → E3 (zst (fun _ => 5) 32 5 + zcn (fun _ => 5) i 5) = nI i))) (fun u9 t => zB D ((fun (u9 : ((Nat → Int32) × (Nat → Int32) × (Nat → Int32)) × ((Nat → Int32) × (Nat → Int32) × (Nat → Int32))) => match u9 with | ((G1, G2, G3), (E1, E2, E3)) => [(h0, .inr (4, [.ref tg, .ref bt, .ref ar, .ref fs, .ref fd, .ref lc, .ref os, .ref od])), (ar, .inl (cR, 320, .inl (zfixF f))), (fs, .inr (6, [.ref s1, .ref s2, .ref s3, .int (nI (zst zfix 288 16))])), (s1, .inl (cS1, 16, .inl G1)), (s2, .inl (cS2, 16, .inl G2)), (s3, .inl (cS3, 288, .inl G3)), (fd, .inr (6, [.ref d1, .ref d2, .ref d3, .int (nI (zst (fun _ => 5) 32 16))])), (d1, .inl (cD1, 16, .inl E1)), (d2, .inl (cD2, 16, .inl E2)), (d3, .inl (cD3, 32, .inl E3))]) u9) ((fun (u9 : ((Nat → Int32) × (Nat → Int32) × (Nat → Int32)) × ((Nat → Int32) × (Nat → Int32) × (Nat → Int32))) => match u9 with | ((G1, G2, G3), (E1, E2, E3)) => [(cR, .int), (cS1, .int), (cS2, .int), (cS3, .int), (cD1, .int), (cD2, .int), (cD3, .int)]) u9) (va_A [(h0, .inr (4, [.ref tg, .ref bt, .ref ar, .ref fs, .ref fd, .ref lc, .ref os, .ref od])), (ar, .inl (cR, 320, .inl f)), (fs, .inr (6, [.ref s1, .ref s2, .ref s3, .int k1])), (s1, .inl (cS1, 16, .inl u1)), (s2, .inl (cS2, 16, .inl u2)), (s3, .inl (cS3, 288, .inl u3)), (fd, .inr (6, [.ref d1, .ref d2, .ref d3, .int k2])), (d1, .inl (cD1, 16, .inl v1)), (d2, .inl (cD2, 16, .inl v2)), (d3, .inl (cD3, 32, .inl v3))] sz) t) (va_A [(h0, .inr (4, [.ref tg, .ref bt, .ref ar, .ref fs, .ref fd, .ref lc, .ref os, .ref od])), (ar, .inl (cR, 320, .inl f)), (fs, .inr (6, [.ref s1, .ref s2, .ref s3, .int k1])), (s1, .inl (cS1, 16, .inl u1)), (s2, .inl (cS2, 16, .inl u2)), (s3, .inl (cS3, 288, .inl u3)), (fd, .inr (6, [.ref d1, .ref d2, .ref d3, .int k2])), (d1, .inl (cD1, 16, .inl v1)), (d2, .inl (cD2, 16, .inl v2)), (d3, .inl (cD3, 32, .inl v3))] sz)) 0 0 (va_A [(h0, .inr (4, [.ref tg, .ref bt, .ref ar, .ref fs, .ref fd, .ref lc, .ref os, .ref od])), (ar, .inl (cR, 320, .inl f)), (fs, .inr (6, [.ref s1, .ref s2, .ref s3, .int k1])), (s1, .inl (cS1, 16, .inl u1)), (s2, .inl (cS2, 16, .inl u2)), (s3, .inl (cS3, 288, .inl u3)), (fd, .inr (6, [.ref d1, .ref d2, .ref d3, .int k2])), (d1, .inl (cD1, 16, .inl v1)), (d2, .inl (cD2, 16, .inl v2)), (d3, .inl (cD3, 32, .inl v3))] sz) :=
  zMet (Qf := fun A => va_Qv (fun (u9 : ((Nat → Int32) × (Nat → Int32) × (Nat → Int32)) × ((Nat → Int32) × (Nat → Int32) × (Nat → Int32))) => match u9 with | ((G1, G2, G3), (E1, E2, E3)) => ((∀ l, l ≤ 15 → G1 l = nI (zcn zfix 288 l)) ∧ (∀ i, i < 288 → 1 ≤ zfix i → G3 (zst zfix 288 (zfix i) + zcn zfix i (zfix i)) = nI i)) ∧ ((∀ l, l ≤ 15 → E1 l = nI (zcn (fun _ => 5) 32 l)) ∧ (∀ i, i < 32 → 1 ≤ 5 → E3 (zst (fun _ => 5) 32 5 + zcn (fun _ => 5) i 5) = nI i))) (fun u9 t => zB D ((fun (u9 : ((Nat → Int32) × (Nat → Int32) × (Nat → Int32)) × ((Nat → Int32) × (Nat → Int32) × (Nat → Int32))) => match u9 with | ((G1, G2, G3), (E1, E2, E3)) => [(h0, .inr (4, [.ref tg, .ref bt, .ref ar, .ref fs, .ref fd, .ref lc, .ref os, .ref od])), (ar, .inl (cR, 320, .inl (zfixF f))), (fs, .inr (6, [.ref s1, .ref s2, .ref s3, .int (nI (zst zfix 288 16))])), (s1, .inl (cS1, 16, .inl G1)), (s2, .inl (cS2, 16, .inl G2)), (s3, .inl (cS3, 288, .inl G3)), (fd, .inr (6, [.ref d1, .ref d2, .ref d3, .int (nI (zst (fun _ => 5) 32 16))])), (d1, .inl (cD1, 16, .inl E1)), (d2, .inl (cD2, 16, .inl E2)), (d3, .inl (cD3, 32, .inl E3))]) u9) ((fun (u9 : ((Nat → Int32) × (Nat → Int32) × (Nat → Int32)) × ((Nat → Int32) × (Nat → Int32) × (Nat → Int32))) => match u9 with | ((G1, G2, G3), (E1, E2, E3)) => [(cR, .int), (cS1, .int), (cS2, .int), (cS3, .int), (cD1, .int), (cD2, .int), (cD3, .int)]) u9) A t) A) (by decide) (Nat.le_of_ble_eq_true rfl) (fun p e s m below meth c A ls hx hb hr hml hown ht hlk hnm hA hK hP hD hX hl => by
    have hS : va_S A s.heap s.heap [] := va_S.rf
    have hl : lv_has ls 1 [(0, .ref h0)] := hl
    refine lv_aload_n hx hb d_U_buildFixedCodes_0 rfl (lv_at hl 0 rfl) ?_
    refine va_get (ci := 4) (C := "ZipGuard$Unpacker") (T := F_U) (N := 8) hx hb ht zi_U hown hK hP 0 rfl rfl 2 (by decide) (ht _ zm_372) (fun _ h9 => h9) rfl d_U_buildFixedCodes_1 ?_
    refine lv_iconst (v := 0) hx hb d_U_buildFixedCodes_4 (by decide) ?_
    refine lv_sipush (v := 144) hx hb d_U_buildFixedCodes_5 (by decide) ?_
    refine lv_bipush (v := 8) hx hb d_U_buildFixedCodes_8 (by decide) ?_
    refine zjv (wr := [(h0, .inr (4, [.ref tg, .ref bt, .ref ar, .ref fs, .ref fd, .ref lc, .ref os, .ref od])), (fs, .inr (6, [.ref s1, .ref s2, .ref s3, .int k1])), (s1, .inl (cS1, 16, .inl u1)), (s2, .inl (cS2, 16, .inl u2)), (s3, .inl (cS3, 288, .inl u3)), (fd, .inr (6, [.ref d1, .ref d2, .ref d3, .int k2])), (d1, .inl (cD1, 16, .inl v1)), (d2, .inl (cD2, 16, .inl v2)), (d3, .inl (cD3, 32, .inl v3))]) (va_runS (As := [.ref ar, .int 0, .int 144, .int 8]) (rest := []) ⟨hx, hb, hml, hown, ht⟩ (c_J_fillr l D _ ar cR 320 f 0 144 8 (by decide) (by decide) (by decide)) (zcwS 4 ht zm_273 zm_274 zm_73 zm_275 rfl rfl (by decide +kernel) ⟨Nat.le_of_ble_eq_true rfl, Nat.le_of_ble_eq_true rfl⟩) (zpre zBlind_t hK hP hD [1] [0] rfl (by decide) rfl (fun _ _ _ => trivial)) rfl rfl hl.1 rfl (lv_room (Nat.le_of_ble_eq_true rfl)) d_U_buildFixedCodes_10 ⟨Nat.le_of_ble_eq_true rfl, Nat.le_of_ble_eq_true rfl⟩) hK hP hD hS hA [1] [0, 2, 3, 4, 5, 6, 7, 8, 9] rfl rfl (by decide) (by decide) (fun u9 H locs hp2 hP hD hK hS => ?_)
    have hP : va_P D zcl [(h0, .inr (4, [.ref tg, .ref bt, .ref ar, .ref fs, .ref fd, .ref lc, .ref os, .ref od])), (fs, .inr (6, [.ref s1, .ref s2, .ref s3, .int k1])), (s1, .inl (cS1, 16, .inl u1)), (s2, .inl (cS2, 16, .inl u2)), (s3, .inl (cS3, 288, .inl u3)), (fd, .inr (6, [.ref d1, .ref d2, .ref d3, .int k2])), (d1, .inl (cD1, 16, .inl v1)), (d2, .inl (cD2, 16, .inl v2)), (d3, .inl (cD3, 32, .inl v3)), (ar, .inl (cR, 320, .inl (zfill f 8 0 144)))] H := hP
    have hD : va_D A [(h0, .inr (4, [.ref tg, .ref bt, .ref ar, .ref fs, .ref fd, .ref lc, .ref os, .ref od])), (fs, .inr (6, [.ref s1, .ref s2, .ref s3, .int k1])), (s1, .inl (cS1, 16, .inl u1)), (s2, .inl (cS2, 16, .inl u2)), (s3, .inl (cS3, 288, .inl u3)), (fd, .inr (6, [.ref d1, .ref d2, .ref d3, .int k2])), (d1, .inl (cD1, 16, .inl v1)), (d2, .inl (cD2, 16, .inl v2)), (d3, .inl (cD3, 32, .inl v3)), (ar, .inl (cR, 320, .inl (zfill f 8 0 144)))] := hD
    have hK : va_K D zcl [(cR, .int), (cS1, .int), (cS2, .int), (cS3, .int), (cD1, .int), (cD2, .int), (cD3, .int), (cR, .int)] s := hK
    have hP := hP.sub (ws' := [(h0, .inr (4, [.ref tg, .ref bt, .ref ar, .ref fs, .ref fd, .ref lc, .ref os, .ref od])), (ar, .inl (cR, 320, .inl (zfill f 8 0 144))), (fs, .inr (6, [.ref s1, .ref s2, .ref s3, .int k1])), (s1, .inl (cS1, 16, .inl u1)), (s2, .inl (cS2, 16, .inl u2)), (s3, .inl (cS3, 288, .inl u3)), (fd, .inr (6, [.ref d1, .ref d2, .ref d3, .int k2])), (d1, .inl (cD1, 16, .inl v1)), (d2, .inl (cD2, 16, .inl v2)), (d3, .inl (cD3, 32, .inl v3))]) [0, 9, 1, 2, 3, 4, 5, 6, 7, 8] rfl
    have hD := hD.sub (ws' := [(h0, .inr (4, [.ref tg, .ref bt, .ref ar, .ref fs, .ref fd, .ref lc, .ref os, .ref od])), (ar, .inl (cR, 320, .inl (zfill f 8 0 144))), (fs, .inr (6, [.ref s1, .ref s2, .ref s3, .int k1])), (s1, .inl (cS1, 16, .inl u1)), (s2, .inl (cS2, 16, .inl u2)), (s3, .inl (cS3, 288, .inl u3)), (fd, .inr (6, [.ref d1, .ref d2, .ref d3, .int k2])), (d1, .inl (cD1, 16, .inl v1)), (d2, .inl (cD2, 16, .inl v2)), (d3, .inl (cD3, 32, .inl v3))]) [0, 9, 1, 2, 3, 4, 5, 6, 7, 8] (by decide) rfl
    have hK := hK.sub (tys' := [(cR, .int), (cS1, .int), (cS2, .int), (cS3, .int), (cD1, .int), (cD2, .int), (cD3, .int)]) [0, 1, 2, 3, 4, 5, 6] rfl
    refine lv_aload_n hx hb d_U_buildFixedCodes_13 rfl (lv_at hl 0 rfl) ?_
    refine va_get (ci := 4) (C := "ZipGuard$Unpacker") (T := F_U) (N := 8) hx hb ht zi_U hown hK hP 0 rfl rfl 2 (by decide) (ht _ zm_372) (fun _ h9 => h9) rfl d_U_buildFixedCodes_14 ?_
    refine lv_sipush (v := 144) hx hb d_U_buildFixedCodes_17 (by decide) ?_
    refine lv_sipush (v := 256) hx hb d_U_buildFixedCodes_20 (by decide) ?_
    refine lv_bipush (v := 9) hx hb d_U_buildFixedCodes_23 (by decide) ?_
    refine zjv (wr := [(h0, .inr (4, [.ref tg, .ref bt, .ref ar, .ref fs, .ref fd, .ref lc, .ref os, .ref od])), (fs, .inr (6, [.ref s1, .ref s2, .ref s3, .int k1])), (s1, .inl (cS1, 16, .inl u1)), (s2, .inl (cS2, 16, .inl u2)), (s3, .inl (cS3, 288, .inl u3)), (fd, .inr (6, [.ref d1, .ref d2, .ref d3, .int k2])), (d1, .inl (cD1, 16, .inl v1)), (d2, .inl (cD2, 16, .inl v2)), (d3, .inl (cD3, 32, .inl v3))]) (va_runS (As := [.ref ar, .int 144, .int 256, .int 9]) (rest := []) ⟨hx, hb, hml, hown, ht⟩ (c_J_fillr l D _ ar cR 320 (zfill f 8 0 144) 144 256 9 (by decide) (by decide) (by decide)) (zcwS 4 ht zm_273 zm_274 zm_73 zm_275 rfl rfl (by decide +kernel) ⟨Nat.le_of_ble_eq_true rfl, Nat.le_of_ble_eq_true rfl⟩) (zpre zBlind_t hK hP hD [1] [0] rfl (by decide) rfl (fun _ _ _ => trivial)) rfl rfl hl.1 rfl (lv_room (Nat.le_of_ble_eq_true rfl)) d_U_buildFixedCodes_25 ⟨Nat.le_of_ble_eq_true rfl, Nat.le_of_ble_eq_true rfl⟩) hK hP hD hS hA [1] [0, 2, 3, 4, 5, 6, 7, 8, 9] rfl rfl (by decide) (by decide) (fun u9 H locs hp4 hP hD hK hS => ?_)
    have hP : va_P D zcl [(h0, .inr (4, [.ref tg, .ref bt, .ref ar, .ref fs, .ref fd, .ref lc, .ref os, .ref od])), (fs, .inr (6, [.ref s1, .ref s2, .ref s3, .int k1])), (s1, .inl (cS1, 16, .inl u1)), (s2, .inl (cS2, 16, .inl u2)), (s3, .inl (cS3, 288, .inl u3)), (fd, .inr (6, [.ref d1, .ref d2, .ref d3, .int k2])), (d1, .inl (cD1, 16, .inl v1)), (d2, .inl (cD2, 16, .inl v2)), (d3, .inl (cD3, 32, .inl v3)), (ar, .inl (cR, 320, .inl (zfill (zfill f 8 0 144) 9 144 256)))] H := hP
    have hD : va_D A [(h0, .inr (4, [.ref tg, .ref bt, .ref ar, .ref fs, .ref fd, .ref lc, .ref os, .ref od])), (fs, .inr (6, [.ref s1, .ref s2, .ref s3, .int k1])), (s1, .inl (cS1, 16, .inl u1)), (s2, .inl (cS2, 16, .inl u2)), (s3, .inl (cS3, 288, .inl u3)), (fd, .inr (6, [.ref d1, .ref d2, .ref d3, .int k2])), (d1, .inl (cD1, 16, .inl v1)), (d2, .inl (cD2, 16, .inl v2)), (d3, .inl (cD3, 32, .inl v3)), (ar, .inl (cR, 320, .inl (zfill (zfill f 8 0 144) 9 144 256)))] := hD
    have hK : va_K D zcl [(cR, .int), (cS1, .int), (cS2, .int), (cS3, .int), (cD1, .int), (cD2, .int), (cD3, .int), (cR, .int)] s := hK
    have hP := hP.sub (ws' := [(h0, .inr (4, [.ref tg, .ref bt, .ref ar, .ref fs, .ref fd, .ref lc, .ref os, .ref od])), (ar, .inl (cR, 320, .inl (zfill (zfill f 8 0 144) 9 144 256))), (fs, .inr (6, [.ref s1, .ref s2, .ref s3, .int k1])), (s1, .inl (cS1, 16, .inl u1)), (s2, .inl (cS2, 16, .inl u2)), (s3, .inl (cS3, 288, .inl u3)), (fd, .inr (6, [.ref d1, .ref d2, .ref d3, .int k2])), (d1, .inl (cD1, 16, .inl v1)), (d2, .inl (cD2, 16, .inl v2)), (d3, .inl (cD3, 32, .inl v3))]) [0, 9, 1, 2, 3, 4, 5, 6, 7, 8] rfl
    have hD := hD.sub (ws' := [(h0, .inr (4, [.ref tg, .ref bt, .ref ar, .ref fs, .ref fd, .ref lc, .ref os, .ref od])), (ar, .inl (cR, 320, .inl (zfill (zfill f 8 0 144) 9 144 256))), (fs, .inr (6, [.ref s1, .ref s2, .ref s3, .int k1])), (s1, .inl (cS1, 16, .inl u1)), (s2, .inl (cS2, 16, .inl u2)), (s3, .inl (cS3, 288, .inl u3)), (fd, .inr (6, [.ref d1, .ref d2, .ref d3, .int k2])), (d1, .inl (cD1, 16, .inl v1)), (d2, .inl (cD2, 16, .inl v2)), (d3, .inl (cD3, 32, .inl v3))]) [0, 9, 1, 2, 3, 4, 5, 6, 7, 8] (by decide) rfl
    have hK := hK.sub (tys' := [(cR, .int), (cS1, .int), (cS2, .int), (cS3, .int), (cD1, .int), (cD2, .int), (cD3, .int)]) [0, 1, 2, 3, 4, 5, 6] rfl
    refine lv_aload_n hx hb d_U_buildFixedCodes_28 rfl (lv_at hl 0 rfl) ?_
    refine va_get (ci := 4) (C := "ZipGuard$Unpacker") (T := F_U) (N := 8) hx hb ht zi_U hown hK hP 0 rfl rfl 2 (by decide) (ht _ zm_372) (fun _ h9 => h9) rfl d_U_buildFixedCodes_29 ?_
    refine lv_sipush (v := 256) hx hb d_U_buildFixedCodes_32 (by decide) ?_
    refine lv_sipush (v := 280) hx hb d_U_buildFixedCodes_35 (by decide) ?_
    refine lv_bipush (v := 7) hx hb d_U_buildFixedCodes_38 (by decide) ?_
    refine zjv (wr := [(h0, .inr (4, [.ref tg, .ref bt, .ref ar, .ref fs, .ref fd, .ref lc, .ref os, .ref od])), (fs, .inr (6, [.ref s1, .ref s2, .ref s3, .int k1])), (s1, .inl (cS1, 16, .inl u1)), (s2, .inl (cS2, 16, .inl u2)), (s3, .inl (cS3, 288, .inl u3)), (fd, .inr (6, [.ref d1, .ref d2, .ref d3, .int k2])), (d1, .inl (cD1, 16, .inl v1)), (d2, .inl (cD2, 16, .inl v2)), (d3, .inl (cD3, 32, .inl v3))]) (va_runS (As := [.ref ar, .int 256, .int 280, .int 7]) (rest := []) ⟨hx, hb, hml, hown, ht⟩ (c_J_fillr l D _ ar cR 320 (zfill (zfill f 8 0 144) 9 144 256) 256 280 7 (by decide) (by decide) (by decide)) (zcwS 4 ht zm_273 zm_274 zm_73 zm_275 rfl rfl (by decide +kernel) ⟨Nat.le_of_ble_eq_true rfl, Nat.le_of_ble_eq_true rfl⟩) (zpre zBlind_t hK hP hD [1] [0] rfl (by decide) rfl (fun _ _ _ => trivial)) rfl rfl hl.1 rfl (lv_room (Nat.le_of_ble_eq_true rfl)) d_U_buildFixedCodes_40 ⟨Nat.le_of_ble_eq_true rfl, Nat.le_of_ble_eq_true rfl⟩) hK hP hD hS hA [1] [0, 2, 3, 4, 5, 6, 7, 8, 9] rfl rfl (by decide) (by decide) (fun u9 H locs hp6 hP hD hK hS => ?_)
    have hP : va_P D zcl [(h0, .inr (4, [.ref tg, .ref bt, .ref ar, .ref fs, .ref fd, .ref lc, .ref os, .ref od])), (fs, .inr (6, [.ref s1, .ref s2, .ref s3, .int k1])), (s1, .inl (cS1, 16, .inl u1)), (s2, .inl (cS2, 16, .inl u2)), (s3, .inl (cS3, 288, .inl u3)), (fd, .inr (6, [.ref d1, .ref d2, .ref d3, .int k2])), (d1, .inl (cD1, 16, .inl v1)), (d2, .inl (cD2, 16, .inl v2)), (d3, .inl (cD3, 32, .inl v3)), (ar, .inl (cR, 320, .inl (zfill (zfill (zfill f 8 0 144) 9 144 256) 7 256 280)))] H := hP
    have hD : va_D A [(h0, .inr (4, [.ref tg, .ref bt, .ref ar, .ref fs, .ref fd, .ref lc, .ref os, .ref od])), (fs, .inr (6, [.ref s1, .ref s2, .ref s3, .int k1])), (s1, .inl (cS1, 16, .inl u1)), (s2, .inl (cS2, 16, .inl u2)), (s3, .inl (cS3, 288, .inl u3)), (fd, .inr (6, [.ref d1, .ref d2, .ref d3, .int k2])), (d1, .inl (cD1, 16, .inl v1)), (d2, .inl (cD2, 16, .inl v2)), (d3, .inl (cD3, 32, .inl v3)), (ar, .inl (cR, 320, .inl (zfill (zfill (zfill f 8 0 144) 9 144 256) 7 256 280)))] := hD
    have hK : va_K D zcl [(cR, .int), (cS1, .int), (cS2, .int), (cS3, .int), (cD1, .int), (cD2, .int), (cD3, .int), (cR, .int)] s := hK
    have hP := hP.sub (ws' := [(h0, .inr (4, [.ref tg, .ref bt, .ref ar, .ref fs, .ref fd, .ref lc, .ref os, .ref od])), (ar, .inl (cR, 320, .inl (zfill (zfill (zfill f 8 0 144) 9 144 256) 7 256 280))), (fs, .inr (6, [.ref s1, .ref s2, .ref s3, .int k1])), (s1, .inl (cS1, 16, .inl u1)), (s2, .inl (cS2, 16, .inl u2)), (s3, .inl (cS3, 288, .inl u3)), (fd, .inr (6, [.ref d1, .ref d2, .ref d3, .int k2])), (d1, .inl (cD1, 16, .inl v1)), (d2, .inl (cD2, 16, .inl v2)), (d3, .inl (cD3, 32, .inl v3))]) [0, 9, 1, 2, 3, 4, 5, 6, 7, 8] rfl
    have hD := hD.sub (ws' := [(h0, .inr (4, [.ref tg, .ref bt, .ref ar, .ref fs, .ref fd, .ref lc, .ref os, .ref od])), (ar, .inl (cR, 320, .inl (zfill (zfill (zfill f 8 0 144) 9 144 256) 7 256 280))), (fs, .inr (6, [.ref s1, .ref s2, .ref s3, .int k1])), (s1, .inl (cS1, 16, .inl u1)), (s2, .inl (cS2, 16, .inl u2)), (s3, .inl (cS3, 288, .inl u3)), (fd, .inr (6, [.ref d1, .ref d2, .ref d3, .int k2])), (d1, .inl (cD1, 16, .inl v1)), (d2, .inl (cD2, 16, .inl v2)), (d3, .inl (cD3, 32, .inl v3))]) [0, 9, 1, 2, 3, 4, 5, 6, 7, 8] (by decide) rfl
    have hK := hK.sub (tys' := [(cR, .int), (cS1, .int), (cS2, .int), (cS3, .int), (cD1, .int), (cD2, .int), (cD3, .int)]) [0, 1, 2, 3, 4, 5, 6] rfl
    refine lv_aload_n hx hb d_U_buildFixedCodes_43 rfl (lv_at hl 0 rfl) ?_
    refine va_get (ci := 4) (C := "ZipGuard$Unpacker") (T := F_U) (N := 8) hx hb ht zi_U hown hK hP 0 rfl rfl 2 (by decide) (ht _ zm_372) (fun _ h9 => h9) rfl d_U_buildFixedCodes_44 ?_
    refine lv_sipush (v := 280) hx hb d_U_buildFixedCodes_47 (by decide) ?_
    refine lv_sipush (v := 288) hx hb d_U_buildFixedCodes_50 (by decide) ?_
    refine lv_bipush (v := 8) hx hb d_U_buildFixedCodes_53 (by decide) ?_
    refine zjv (wr := [(h0, .inr (4, [.ref tg, .ref bt, .ref ar, .ref fs, .ref fd, .ref lc, .ref os, .ref od])), (fs, .inr (6, [.ref s1, .ref s2, .ref s3, .int k1])), (s1, .inl (cS1, 16, .inl u1)), (s2, .inl (cS2, 16, .inl u2)), (s3, .inl (cS3, 288, .inl u3)), (fd, .inr (6, [.ref d1, .ref d2, .ref d3, .int k2])), (d1, .inl (cD1, 16, .inl v1)), (d2, .inl (cD2, 16, .inl v2)), (d3, .inl (cD3, 32, .inl v3))]) (va_runS (As := [.ref ar, .int 280, .int 288, .int 8]) (rest := []) ⟨hx, hb, hml, hown, ht⟩ (c_J_fillr l D _ ar cR 320 (zfill (zfill (zfill f 8 0 144) 9 144 256) 7 256 280) 280 288 8 (by decide) (by decide) (by decide)) (zcwS 4 ht zm_273 zm_274 zm_73 zm_275 rfl rfl (by decide +kernel) ⟨Nat.le_of_ble_eq_true rfl, Nat.le_of_ble_eq_true rfl⟩) (zpre zBlind_t hK hP hD [1] [0] rfl (by decide) rfl (fun _ _ _ => trivial)) rfl rfl hl.1 rfl (lv_room (Nat.le_of_ble_eq_true rfl)) d_U_buildFixedCodes_55 ⟨Nat.le_of_ble_eq_true rfl, Nat.le_of_ble_eq_true rfl⟩) hK hP hD hS hA [1] [0, 2, 3, 4, 5, 6, 7, 8, 9] rfl rfl (by decide) (by decide) (fun u9 H locs hp8 hP hD hK hS => ?_)
    have hP : va_P D zcl [(h0, .inr (4, [.ref tg, .ref bt, .ref ar, .ref fs, .ref fd, .ref lc, .ref os, .ref od])), (fs, .inr (6, [.ref s1, .ref s2, .ref s3, .int k1])), (s1, .inl (cS1, 16, .inl u1)), (s2, .inl (cS2, 16, .inl u2)), (s3, .inl (cS3, 288, .inl u3)), (fd, .inr (6, [.ref d1, .ref d2, .ref d3, .int k2])), (d1, .inl (cD1, 16, .inl v1)), (d2, .inl (cD2, 16, .inl v2)), (d3, .inl (cD3, 32, .inl v3)), (ar, .inl (cR, 320, .inl (zfill (zfill (zfill (zfill f 8 0 144) 9 144 256) 7 256 280) 8 280 288)))] H := hP
    have hD : va_D A [(h0, .inr (4, [.ref tg, .ref bt, .ref ar, .ref fs, .ref fd, .ref lc, .ref os, .ref od])), (fs, .inr (6, [.ref s1, .ref s2, .ref s3, .int k1])), (s1, .inl (cS1, 16, .inl u1)), (s2, .inl (cS2, 16, .inl u2)), (s3, .inl (cS3, 288, .inl u3)), (fd, .inr (6, [.ref d1, .ref d2, .ref d3, .int k2])), (d1, .inl (cD1, 16, .inl v1)), (d2, .inl (cD2, 16, .inl v2)), (d3, .inl (cD3, 32, .inl v3)), (ar, .inl (cR, 320, .inl (zfill (zfill (zfill (zfill f 8 0 144) 9 144 256) 7 256 280) 8 280 288)))] := hD
    have hK : va_K D zcl [(cR, .int), (cS1, .int), (cS2, .int), (cS3, .int), (cD1, .int), (cD2, .int), (cD3, .int), (cR, .int)] s := hK
    have hP := hP.sub (ws' := [(h0, .inr (4, [.ref tg, .ref bt, .ref ar, .ref fs, .ref fd, .ref lc, .ref os, .ref od])), (ar, .inl (cR, 320, .inl (zfill (zfill (zfill (zfill f 8 0 144) 9 144 256) 7 256 280) 8 280 288))), (fs, .inr (6, [.ref s1, .ref s2, .ref s3, .int k1])), (s1, .inl (cS1, 16, .inl u1)), (s2, .inl (cS2, 16, .inl u2)), (s3, .inl (cS3, 288, .inl u3)), (fd, .inr (6, [.ref d1, .ref d2, .ref d3, .int k2])), (d1, .inl (cD1, 16, .inl v1)), (d2, .inl (cD2, 16, .inl v2)), (d3, .inl (cD3, 32, .inl v3))]) [0, 9, 1, 2, 3, 4, 5, 6, 7, 8] rfl
    have hD := hD.sub (ws' := [(h0, .inr (4, [.ref tg, .ref bt, .ref ar, .ref fs, .ref fd, .ref lc, .ref os, .ref od])), (ar, .inl (cR, 320, .inl (zfill (zfill (zfill (zfill f 8 0 144) 9 144 256) 7 256 280) 8 280 288))), (fs, .inr (6, [.ref s1, .ref s2, .ref s3, .int k1])), (s1, .inl (cS1, 16, .inl u1)), (s2, .inl (cS2, 16, .inl u2)), (s3, .inl (cS3, 288, .inl u3)), (fd, .inr (6, [.ref d1, .ref d2, .ref d3, .int k2])), (d1, .inl (cD1, 16, .inl v1)), (d2, .inl (cD2, 16, .inl v2)), (d3, .inl (cD3, 32, .inl v3))]) [0, 9, 1, 2, 3, 4, 5, 6, 7, 8] (by decide) rfl
    have hK := hK.sub (tys' := [(cR, .int), (cS1, .int), (cS2, .int), (cS3, .int), (cD1, .int), (cD2, .int), (cD3, .int)]) [0, 1, 2, 3, 4, 5, 6] rfl
    refine lv_aload_n hx hb d_U_buildFixedCodes_58 rfl (lv_at hl 0 rfl) ?_
    refine va_get (ci := 4) (C := "ZipGuard$Unpacker") (T := F_U) (N := 8) hx hb ht zi_U hown hK hP 0 rfl rfl 2 (by decide) (ht _ zm_372) (fun _ h9 => h9) rfl d_U_buildFixedCodes_59 ?_
    refine lv_sipush (v := 288) hx hb d_U_buildFixedCodes_62 (by decide) ?_
    refine lv_sipush (v := 320) hx hb d_U_buildFixedCodes_65 (by decide) ?_
    refine lv_iconst (v := 5) hx hb d_U_buildFixedCodes_68 (by decide) ?_
    refine zjv (wr := [(h0, .inr (4, [.ref tg, .ref bt, .ref ar, .ref fs, .ref fd, .ref lc, .ref os, .ref od])), (fs, .inr (6, [.ref s1, .ref s2, .ref s3, .int k1])), (s1, .inl (cS1, 16, .inl u1)), (s2, .inl (cS2, 16, .inl u2)), (s3, .inl (cS3, 288, .inl u3)), (fd, .inr (6, [.ref d1, .ref d2, .ref d3, .int k2])), (d1, .inl (cD1, 16, .inl v1)), (d2, .inl (cD2, 16, .inl v2)), (d3, .inl (cD3, 32, .inl v3))]) (va_runS (As := [.ref ar, .int 288, .int 320, .int 5]) (rest := []) ⟨hx, hb, hml, hown, ht⟩ (c_J_fillr l D _ ar cR 320 (zfill (zfill (zfill (zfill f 8 0 144) 9 144 256) 7 256 280) 8 280 288) 288 320 5 (by decide) (by decide) (by decide)) (zcwS 4 ht zm_273 zm_274 zm_73 zm_275 rfl rfl (by decide +kernel) ⟨Nat.le_of_ble_eq_true rfl, Nat.le_of_ble_eq_true rfl⟩) (zpre zBlind_t hK hP hD [1] [0] rfl (by decide) rfl (fun _ _ _ => trivial)) rfl rfl hl.1 rfl (lv_room (Nat.le_of_ble_eq_true rfl)) d_U_buildFixedCodes_69 ⟨Nat.le_of_ble_eq_true rfl, Nat.le_of_ble_eq_true rfl⟩) hK hP hD hS hA [1] [0, 2, 3, 4, 5, 6, 7, 8, 9] rfl rfl (by decide) (by decide) (fun u9 H locs hp10 hP hD hK hS => ?_)
    have hP : va_P D zcl [(h0, .inr (4, [.ref tg, .ref bt, .ref ar, .ref fs, .ref fd, .ref lc, .ref os, .ref od])), (fs, .inr (6, [.ref s1, .ref s2, .ref s3, .int k1])), (s1, .inl (cS1, 16, .inl u1)), (s2, .inl (cS2, 16, .inl u2)), (s3, .inl (cS3, 288, .inl u3)), (fd, .inr (6, [.ref d1, .ref d2, .ref d3, .int k2])), (d1, .inl (cD1, 16, .inl v1)), (d2, .inl (cD2, 16, .inl v2)), (d3, .inl (cD3, 32, .inl v3)), (ar, .inl (cR, 320, .inl (zfill (zfill (zfill (zfill (zfill f 8 0 144) 9 144 256) 7 256 280) 8 280 288) 5 288 320)))] H := hP
    have hD : va_D A [(h0, .inr (4, [.ref tg, .ref bt, .ref ar, .ref fs, .ref fd, .ref lc, .ref os, .ref od])), (fs, .inr (6, [.ref s1, .ref s2, .ref s3, .int k1])), (s1, .inl (cS1, 16, .inl u1)), (s2, .inl (cS2, 16, .inl u2)), (s3, .inl (cS3, 288, .inl u3)), (fd, .inr (6, [.ref d1, .ref d2, .ref d3, .int k2])), (d1, .inl (cD1, 16, .inl v1)), (d2, .inl (cD2, 16, .inl v2)), (d3, .inl (cD3, 32, .inl v3)), (ar, .inl (cR, 320, .inl (zfill (zfill (zfill (zfill (zfill f 8 0 144) 9 144 256) 7 256 280) 8 280 288) 5 288 320)))] := hD
    have hK : va_K D zcl [(cR, .int), (cS1, .int), (cS2, .int), (cS3, .int), (cD1, .int), (cD2, .int), (cD3, .int), (cR, .int)] s := hK
    have hP := hP.sub (ws' := [(h0, .inr (4, [.ref tg, .ref bt, .ref ar, .ref fs, .ref fd, .ref lc, .ref os, .ref od])), (ar, .inl (cR, 320, .inl (zfill (zfill (zfill (zfill (zfill f 8 0 144) 9 144 256) 7 256 280) 8 280 288) 5 288 320))), (fs, .inr (6, [.ref s1, .ref s2, .ref s3, .int k1])), (s1, .inl (cS1, 16, .inl u1)), (s2, .inl (cS2, 16, .inl u2)), (s3, .inl (cS3, 288, .inl u3)), (fd, .inr (6, [.ref d1, .ref d2, .ref d3, .int k2])), (d1, .inl (cD1, 16, .inl v1)), (d2, .inl (cD2, 16, .inl v2)), (d3, .inl (cD3, 32, .inl v3))]) [0, 9, 1, 2, 3, 4, 5, 6, 7, 8] rfl
    have hD := hD.sub (ws' := [(h0, .inr (4, [.ref tg, .ref bt, .ref ar, .ref fs, .ref fd, .ref lc, .ref os, .ref od])), (ar, .inl (cR, 320, .inl (zfill (zfill (zfill (zfill (zfill f 8 0 144) 9 144 256) 7 256 280) 8 280 288) 5 288 320))), (fs, .inr (6, [.ref s1, .ref s2, .ref s3, .int k1])), (s1, .inl (cS1, 16, .inl u1)), (s2, .inl (cS2, 16, .inl u2)), (s3, .inl (cS3, 288, .inl u3)), (fd, .inr (6, [.ref d1, .ref d2, .ref d3, .int k2])), (d1, .inl (cD1, 16, .inl v1)), (d2, .inl (cD2, 16, .inl v2)), (d3, .inl (cD3, 32, .inl v3))]) [0, 9, 1, 2, 3, 4, 5, 6, 7, 8] (by decide) rfl
    have hK := hK.sub (tys' := [(cR, .int), (cS1, .int), (cS2, .int), (cS3, .int), (cD1, .int), (cD2, .int), (cD3, .int)]) [0, 1, 2, 3, 4, 5, 6] rfl
    have hP : va_P D zcl [(h0, .inr (4, [.ref tg, .ref bt, .ref ar, .ref fs, .ref fd, .ref lc, .ref os, .ref od])), (ar, .inl (cR, 320, .inl (zfixF f))), (fs, .inr (6, [.ref s1, .ref s2, .ref s3, .int k1])), (s1, .inl (cS1, 16, .inl u1)), (s2, .inl (cS2, 16, .inl u2)), (s3, .inl (cS3, 288, .inl u3)), (fd, .inr (6, [.ref d1, .ref d2, .ref d3, .int k2])), (d1, .inl (cD1, 16, .inl v1)), (d2, .inl (cD2, 16, .inl v2)), (d3, .inl (cD3, 32, .inl v3))] H := hP
    have hD : va_D A [(h0, .inr (4, [.ref tg, .ref bt, .ref ar, .ref fs, .ref fd, .ref lc, .ref os, .ref od])), (ar, .inl (cR, 320, .inl (zfixF f))), (fs, .inr (6, [.ref s1, .ref s2, .ref s3, .int k1])), (s1, .inl (cS1, 16, .inl u1)), (s2, .inl (cS2, 16, .inl u2)), (s3, .inl (cS3, 288, .inl u3)), (fd, .inr (6, [.ref d1, .ref d2, .ref d3, .int k2])), (d1, .inl (cD1, 16, .inl v1)), (d2, .inl (cD2, 16, .inl v2)), (d3, .inl (cD3, 32, .inl v3))] := hD
    refine lv_aload_n hx hb d_U_buildFixedCodes_72 rfl (lv_at hl 0 rfl) ?_
    refine va_get (ci := 4) (C := "ZipGuard$Unpacker") (T := F_U) (N := 8) hx hb ht zi_U hown hK hP 0 rfl rfl 3 (by decide) (ht _ zm_373) (fun _ h9 => h9) rfl d_U_buildFixedCodes_73 ?_
    refine lv_aload_n hx hb d_U_buildFixedCodes_76 rfl (lv_at hl 0 rfl) ?_
    refine va_get (ci := 4) (C := "ZipGuard$Unpacker") (T := F_U) (N := 8) hx hb ht zi_U hown hK hP 0 rfl rfl 2 (by decide) (ht _ zm_372) (fun _ h9 => h9) rfl d_U_buildFixedCodes_77 ?_
    refine lv_iconst (v := 0) hx hb d_U_buildFixedCodes_80 (by decide) ?_
    refine lv_sipush (v := 288) hx hb d_U_buildFixedCodes_81 (by decide) ?_
    refine zjv (wr := [(h0, .inr (4, [.ref tg, .ref bt, .ref ar, .ref fs, .ref fd, .ref lc, .ref os, .ref od])), (fd, .inr (6, [.ref d1, .ref d2, .ref d3, .int k2])), (d1, .inl (cD1, 16, .inl v1)), (d2, .inl (cD2, 16, .inl v2)), (d3, .inl (cD3, 32, .inl v3))]) (va_runV (As := [.ref ar, .int 0, .int 288]) (rest := []) ⟨hx, hb, hml, hown, ht⟩ (c_C_build l D _ fs s1 s2 s3 ar cS1 cS2 cS3 cR 288 320 (zfixF f) 0 288 zfix k1 u1 u2 u3 (zfix_s f) zfix_15 (by decide) (by decide) (by decide) (by decide)) (cwV 3 ht (zt_goodV zm_363 zm_364 zm_365 zm_72 zm_366) rfl rfl rfl (by decide +kernel) ⟨Nat.le_of_ble_eq_true rfl, Nat.le_of_ble_eq_true rfl⟩) (zpreV zBlind_t hK hP hD [2, 3, 4, 5, 1] [1, 2, 3, 0] rfl (by decide) rfl (fun _ _ _ => trivial) (va_recv (q := ("ZipGuard$CodeSet", F_C, 4)) hK hP rfl (q0 := 2) (ci := 6) rfl)) rfl rfl hl.1 rfl (lv_room (Nat.le_of_ble_eq_true rfl)) d_U_buildFixedCodes_84 ⟨Nat.le_of_ble_eq_true rfl, Nat.le_of_ble_eq_true rfl⟩) hK hP hD hS hA [2, 3, 4, 5, 1] [0, 6, 7, 8, 9] rfl rfl (by decide) (by decide) (fun u9 H locs hp12 hP hD hK hS => ?_)
    obtain ⟨G1, G2, G3⟩ := u9
    dsimp only at hp12 hP hD hK
    have hP : va_P D zcl [(h0, .inr (4, [.ref tg, .ref bt, .ref ar, .ref fs, .ref fd, .ref lc, .ref os, .ref od])), (fd, .inr (6, [.ref d1, .ref d2, .ref d3, .int k2])), (d1, .inl (cD1, 16, .inl v1)), (d2, .inl (cD2, 16, .inl v2)), (d3, .inl (cD3, 32, .inl v3)), (fs, .inr (6, [.ref s1, .ref s2, .ref s3, .int (nI (zst zfix 288 16))])), (s1, .inl (cS1, 16, .inl G1)), (s2, .inl (cS2, 16, .inl G2)), (s3, .inl (cS3, 288, .inl G3)), (ar, .inl (cR, 320, .inl (zfixF f)))] H := hP
    have hD : va_D A [(h0, .inr (4, [.ref tg, .ref bt, .ref ar, .ref fs, .ref fd, .ref lc, .ref os, .ref od])), (fd, .inr (6, [.ref d1, .ref d2, .ref d3, .int k2])), (d1, .inl (cD1, 16, .inl v1)), (d2, .inl (cD2, 16, .inl v2)), (d3, .inl (cD3, 32, .inl v3)), (fs, .inr (6, [.ref s1, .ref s2, .ref s3, .int (nI (zst zfix 288 16))])), (s1, .inl (cS1, 16, .inl G1)), (s2, .inl (cS2, 16, .inl G2)), (s3, .inl (cS3, 288, .inl G3)), (ar, .inl (cR, 320, .inl (zfixF f)))] := hD
    have hK : va_K D zcl [(cR, .int), (cS1, .int), (cS2, .int), (cS3, .int), (cD1, .int), (cD2, .int), (cD3, .int), (cS1, .int), (cS2, .int), (cS3, .int), (cR, .int)] s := hK
    have hP := hP.sub (ws' := [(h0, .inr (4, [.ref tg, .ref bt, .ref ar, .ref fs, .ref fd, .ref lc, .ref os, .ref od])), (ar, .inl (cR, 320, .inl (zfixF f))), (fs, .inr (6, [.ref s1, .ref s2, .ref s3, .int (nI (zst zfix 288 16))])), (s1, .inl (cS1, 16, .inl G1)), (s2, .inl (cS2, 16, .inl G2)), (s3, .inl (cS3, 288, .inl G3)), (fd, .inr (6, [.ref d1, .ref d2, .ref d3, .int k2])), (d1, .inl (cD1, 16, .inl v1)), (d2, .inl (cD2, 16, .inl v2)), (d3, .inl (cD3, 32, .inl v3))]) [0, 9, 5, 6, 7, 8, 1, 2, 3, 4] rfl
    have hD := hD.sub (ws' := [(h0, .inr (4, [.ref tg, .ref bt, .ref ar, .ref fs, .ref fd, .ref lc, .ref os, .ref od])), (ar, .inl (cR, 320, .inl (zfixF f))), (fs, .inr (6, [.ref s1, .ref s2, .ref s3, .int (nI (zst zfix 288 16))])), (s1, .inl (cS1, 16, .inl G1)), (s2, .inl (cS2, 16, .inl G2)), (s3, .inl (cS3, 288, .inl G3)), (fd, .inr (6, [.ref d1, .ref d2, .ref d3, .int k2])), (d1, .inl (cD1, 16, .inl v1)), (d2, .inl (cD2, 16, .inl v2)), (d3, .inl (cD3, 32, .inl v3))]) [0, 9, 5, 6, 7, 8, 1, 2, 3, 4] (by decide) rfl
    have hK := hK.sub (tys' := [(cR, .int), (cS1, .int), (cS2, .int), (cS3, .int), (cD1, .int), (cD2, .int), (cD3, .int)]) [0, 1, 2, 3, 4, 5, 6] rfl
    refine lv_aload_n hx hb d_U_buildFixedCodes_87 rfl (lv_at hl 0 rfl) ?_
    refine va_get (ci := 4) (C := "ZipGuard$Unpacker") (T := F_U) (N := 8) hx hb ht zi_U hown hK hP 0 rfl rfl 4 (by decide) (ht _ zm_374) (fun _ h9 => h9) rfl d_U_buildFixedCodes_88 ?_
    refine lv_aload_n hx hb d_U_buildFixedCodes_91 rfl (lv_at hl 0 rfl) ?_
    refine va_get (ci := 4) (C := "ZipGuard$Unpacker") (T := F_U) (N := 8) hx hb ht zi_U hown hK hP 0 rfl rfl 2 (by decide) (ht _ zm_372) (fun _ h9 => h9) rfl d_U_buildFixedCodes_92 ?_
    refine lv_sipush (v := 288) hx hb d_U_buildFixedCodes_95 (by decide) ?_
    refine lv_bipush (v := 32) hx hb d_U_buildFixedCodes_98 (by decide) ?_
    refine zjv (wr := [(h0, .inr (4, [.ref tg, .ref bt, .ref ar, .ref fs, .ref fd, .ref lc, .ref os, .ref od])), (fs, .inr (6, [.ref s1, .ref s2, .ref s3, .int (nI (zst zfix 288 16))])), (s1, .inl (cS1, 16, .inl G1)), (s2, .inl (cS2, 16, .inl G2)), (s3, .inl (cS3, 288, .inl G3))]) (va_runV (As := [.ref ar, .int 288, .int 32]) (rest := []) ⟨hx, hb, hml, hown, ht⟩ (c_C_build l D _ fd d1 d2 d3 ar cD1 cD2 cD3 cR 32 320 (zfixF f) 288 32 (fun _ => 5) k2 v1 v2 v3 (zfix_d f) (fun _ _ => by decide) (by decide) (by decide) (by decide) (by decide)) (cwV 3 ht (zt_goodV zm_363 zm_364 zm_365 zm_72 zm_366) rfl rfl rfl (by decide +kernel) ⟨Nat.le_of_ble_eq_true rfl, Nat.le_of_ble_eq_true rfl⟩) (zpreV zBlind_t hK hP hD [6, 7, 8, 9, 1] [4, 5, 6, 0] rfl (by decide) rfl (fun _ _ _ => trivial) (va_recv (q := ("ZipGuard$CodeSet", F_C, 4)) hK hP rfl (q0 := 6) (ci := 6) rfl)) rfl rfl hl.1 rfl (lv_room (Nat.le_of_ble_eq_true rfl)) d_U_buildFixedCodes_100 ⟨Nat.le_of_ble_eq_true rfl, Nat.le_of_ble_eq_true rfl⟩) hK hP hD hS hA [6, 7, 8, 9, 1] [0, 2, 3, 4, 5] rfl rfl (by decide) (by decide) (fun u9 H locs hp14 hP hD hK hS => ?_)
    obtain ⟨E1, E2, E3⟩ := u9
    dsimp only at hp14 hP hD hK
    have hP : va_P D zcl [(h0, .inr (4, [.ref tg, .ref bt, .ref ar, .ref fs, .ref fd, .ref lc, .ref os, .ref od])), (fs, .inr (6, [.ref s1, .ref s2, .ref s3, .int (nI (zst zfix 288 16))])), (s1, .inl (cS1, 16, .inl G1)), (s2, .inl (cS2, 16, .inl G2)), (s3, .inl (cS3, 288, .inl G3)), (fd, .inr (6, [.ref d1, .ref d2, .ref d3, .int (nI (zst (fun _ => 5) 32 16))])), (d1, .inl (cD1, 16, .inl E1)), (d2, .inl (cD2, 16, .inl E2)), (d3, .inl (cD3, 32, .inl E3)), (ar, .inl (cR, 320, .inl (zfixF f)))] H := hP
    have hD : va_D A [(h0, .inr (4, [.ref tg, .ref bt, .ref ar, .ref fs, .ref fd, .ref lc, .ref os, .ref od])), (fs, .inr (6, [.ref s1, .ref s2, .ref s3, .int (nI (zst zfix 288 16))])), (s1, .inl (cS1, 16, .inl G1)), (s2, .inl (cS2, 16, .inl G2)), (s3, .inl (cS3, 288, .inl G3)), (fd, .inr (6, [.ref d1, .ref d2, .ref d3, .int (nI (zst (fun _ => 5) 32 16))])), (d1, .inl (cD1, 16, .inl E1)), (d2, .inl (cD2, 16, .inl E2)), (d3, .inl (cD3, 32, .inl E3)), (ar, .inl (cR, 320, .inl (zfixF f)))] := hD
    have hK : va_K D zcl [(cR, .int), (cS1, .int), (cS2, .int), (cS3, .int), (cD1, .int), (cD2, .int), (cD3, .int), (cD1, .int), (cD2, .int), (cD3, .int), (cR, .int)] s := hK
    have hP := hP.sub (ws' := [(h0, .inr (4, [.ref tg, .ref bt, .ref ar, .ref fs, .ref fd, .ref lc, .ref os, .ref od])), (ar, .inl (cR, 320, .inl (zfixF f))), (fs, .inr (6, [.ref s1, .ref s2, .ref s3, .int (nI (zst zfix 288 16))])), (s1, .inl (cS1, 16, .inl G1)), (s2, .inl (cS2, 16, .inl G2)), (s3, .inl (cS3, 288, .inl G3)), (fd, .inr (6, [.ref d1, .ref d2, .ref d3, .int (nI (zst (fun _ => 5) 32 16))])), (d1, .inl (cD1, 16, .inl E1)), (d2, .inl (cD2, 16, .inl E2)), (d3, .inl (cD3, 32, .inl E3))]) [0, 9, 1, 2, 3, 4, 5, 6, 7, 8] rfl
    have hD := hD.sub (ws' := [(h0, .inr (4, [.ref tg, .ref bt, .ref ar, .ref fs, .ref fd, .ref lc, .ref os, .ref od])), (ar, .inl (cR, 320, .inl (zfixF f))), (fs, .inr (6, [.ref s1, .ref s2, .ref s3, .int (nI (zst zfix 288 16))])), (s1, .inl (cS1, 16, .inl G1)), (s2, .inl (cS2, 16, .inl G2)), (s3, .inl (cS3, 288, .inl G3)), (fd, .inr (6, [.ref d1, .ref d2, .ref d3, .int (nI (zst (fun _ => 5) 32 16))])), (d1, .inl (cD1, 16, .inl E1)), (d2, .inl (cD2, 16, .inl E2)), (d3, .inl (cD3, 32, .inl E3))]) [0, 9, 1, 2, 3, 4, 5, 6, 7, 8] (by decide) rfl
    have hK := hK.sub (tys' := [(cR, .int), (cS1, .int), (cS2, .int), (cS3, .int), (cD1, .int), (cD2, .int), (cD3, .int)]) [0, 1, 2, 3, 4, 5, 6] rfl
    exact zretv hx hb hr hlk hK hP hD hS ((G1, G2, G3), (E1, E2, E3)) [0, 1, 2, 3, 4, 5, 6, 7, 8, 9] [0, 1, 2, 3, 4, 5, 6] rfl (by decide) rfl (⟨hp12, hp14⟩) (Nat.le_of_ble_eq_true rfl) (Nat.le_of_ble_eq_true rfl) d_U_buildFixedCodes_103)
theorem zRA_eq {D : va_G} {cl : List vw_C} {tys : List (ClassId × FieldType)} {U : State} (hK : va_K D cl tys U) {i j : Nat} {c1 c2 : ClassId} (h1 : tys[i]? = some (c1, .byte)) (h2 : tys[j]? = some (c2, .byte)) : c1 = c2 := by
  have e1 : U.vm.findClass ("[" ++ FieldType.byte.toString) = some c1 := (hK.2 i _ h1).2
  have e2 : U.vm.findClass ("[" ++ FieldType.byte.toString) = some c2 := (hK.2 j _ h2).2
  exact Option.some.inj (e1.symm.trans e2)
theorem zPl_snoc (cN : ClassId) (L : List zE) (y : zE) : zPl cN (L ++ [y]) = zPl cN L ++ zEe cN y := by
  unfold zPl
  rw [List.flatMap_append, List.flatMap_cons, List.flatMap_nil, List.append_nil]
/-- the entries made so far -/
def zMade (fe : Nat → Option Nat) (L : List zE) (k : Nat) : Prop := L.length = k ∧ ∀ i, i < k → ∃ a x, L[i]? = some (a, x) ∧ fe i = some a ∧ zEk (a, x)
theorem zMade_0 (fe : Nat → Option Nat) : zMade fe [] 0 := ⟨rfl, fun _ h => absurd h (Nat.not_lt_zero _)⟩
theorem zMade_s {fe : Nat → Option Nat} {L : List zE} {k q n : Nat} {nf : Nat → Int32} (h : zMade fe L k) : zMade (va_up fe k (some q)) (L ++ [(q, n, 0, 0, 0, 0, 0, 0, 0, 0, 0, 0, 0, nf)]) (k + 1) := by
  refine ⟨by rw [List.length_append, h.1]; rfl, fun i hi => ?_⟩
  by_cases e : i = k
  · subst e
    refine ⟨q, _, by rw [List.getElem?_append_right (by rw [h.1]; exact Nat.le_refl _), h.1, Nat.sub_self]; rfl, by unfold va_up; rw [if_pos rfl], ?_⟩
    unfold zEk
    omega
  · obtain ⟨a, x, h1, h2, h3⟩ := h.2 i (by omega)
    exact ⟨a, x, by rw [List.getElem?_append_left (by rw [h.1]; omega)]; exact h1, by unfold va_up; rw [if_neg e]; exact h2, h3⟩
theorem zMade_po {fe : Nat → Option Nat} {L : List zE} (h : zMade fe L 64) : zPo (fun k => (fe k).getD 0) L ∧ ∀ k : Nat, k < 64 → fe k = some ((fe k).getD 0) := by
  refine ⟨⟨h.1, fun k hk => ?_⟩, fun k hk => ?_⟩
  · obtain ⟨a, x, h1, h2, h3⟩ := h.2 k hk
    refine ⟨x, ?_⟩
    dsimp only
    rw [h2]
    exact ⟨h1, h3⟩
  · obtain ⟨a, x, h1, h2, h3⟩ := h.2 k hk
    rw [h2]
    rfl
theorem z0i : (0 : Int32) = iI 0 := by decide
theorem z0l : (0 : Int64) = lI 0 := by decide
set_option maxHeartbeats 4000000 in
set_option maxRecDepth 100000 in
theorem lp_D_init1 {p : Program} {l : Launch} {e : Env} {R : Room} {s : State} {m : MethodId} {args : Array Value} {below : List Frame} {meth : Method} {c : Code} {Q : State → Prop} {A : Nat → Prop} {D : va_G} (hx : p.tables.exec = Jvm.exec) (hb : c.code = prog_4_method_1_code) (hml : c.maxLocals = 3) (hown : s.vm.findClass "ZipGuard$Directory" = some m.cls) (ht : ∀ w ∈ zt, w.before args s = true) (hA : ∀ q, s.heap.size ≤ q → A q) (h0 : Nat) (h1 : Nat) (qn : Nat) (cE : ClassId) (cB : ClassId) (hRf : 2 ≤ R.frames) (hRl : 8 + (1 + 11) + 12 ≤ R.locals) (hRc : 129 ≤ R.cells) (hRs : 4672 ≤ R.slots) (hK : va_K D zcl [(cB, .byte), (cE, .object "ZipGuard$Entry")] s) 
    (kk : ∀ (fe : Nat → Option Nat) (LL : List zE) (H : Heap) (locs : List Loc) (ls : Array Slot), zMade fe LL 64 → va_P D zcl (([(h0, .inr (2, [.ref qn, .int (iI 0), .int (iI 0), .int (iI 0), .ref h1])), (qn, .inl (cE, 64, .inr (.inr (.inr (.inr fe)))))] : va_W) ++ zPl cB LL) H → va_D A (([(h0, .inr (2, [.ref qn, .int (iI 0), .int (iI 0), .int (iI 0), .ref h1])), (qn, .inl (cE, 64, .inr (.inr (.inr (.inr fe)))))] : va_W) ++ zPl cB LL) → va_S A s.heap H locs → lv_has ls 3 [(2, .int (nI 64)), (0, .ref h0), (1, .ref h1)] → W p l e R s m args below meth c H locs (1 + 2 * 64) (64 + 72 * 64) Q (F0 m 45 ls [])) :
    ∀ (j : Nat) (k : Nat) (fe : Nat → Option Nat) (LL : List zE) (H : Heap) (locs : List Loc) (ls : Array Slot), k + j = 64 → zMade fe LL k → va_P D zcl (([(h0, .inr (2, [.ref qn, .int (iI 0), .int (iI 0), .int (iI 0), .ref h1])), (qn, .inl (cE, 64, .inr (.inr (.inr (.inr fe)))))] : va_W) ++ zPl cB LL) H → va_D A (([(h0, .inr (2, [.ref qn, .int (iI 0), .int (iI 0), .int (iI 0), .ref h1])), (qn, .inl (cE, 64, .inr (.inr (.inr (.inr fe)))))] : va_W) ++ zPl cB LL) → va_S A s.heap H locs → lv_has ls 3 [(2, .int (nI k)), (0, .ref h0), (1, .ref h1)] → W p l e R s m args below meth c H locs (1 + 2 * k) (64 + 72 * k) Q (F0 m 20 ls []) := by
  intro j
  induction j with
  | zero =>
    intro k fe LL H locs ls hk hM hP hD hS hl
    have hk : k = 64 := by omega
    subst hk
    refine lv_iload_n hx hb d_D_init_20 rfl (lv_at hl 0 rfl) ?_
    refine lv_bipush (v := 64) hx hb d_D_init_21 (by decide) ?_
    refine lv_icmp_ge (tgt := 45) hx hb d_D_init_23 (by decide) (fun _ => ?_) (fun h => absurd (by decide +kernel) h)
    exact kk fe LL H locs ls hM hP hD hS hl
  | succ j ih =>
    intro k fe LL H locs ls hk hM hP hD hS hl
    refine lv_iload_n hx hb d_D_init_20 rfl (lv_at hl 0 rfl) ?_
    refine lv_bipush (v := 64) hx hb d_D_init_21 (by decide) ?_
    refine lv_icmp_ge (tgt := 45) hx hb d_D_init_23 (by decide) (fun h => absurd h (show ¬ nI 64 ≤ nI k from nI_ge (by omega) (by omega))) (fun _ => ?_)
    refine lv_aload_n hx hb d_D_init_26 rfl (lv_at hl 1 rfl) ?_
    refine va_get (ci := 2) (C := "ZipGuard$Directory") (T := F_D) (N := 5) hx hb ht zi_D hown hK hP 0 rfl rfl 0 (by decide) (ht _ zm_179) (fun _ h9 => h9) rfl d_D_init_27 ?_
    refine lv_iload_n hx hb d_D_init_30 rfl (lv_at hl 0 rfl) ?_
    refine va_new (ci := 7) (fs := [.null, .int 0, .int 0, .int 0, .int 0, .long 0, .int 0, .int 0, .int 0, .int 0, .int 0, .int 0]) (C := "ZipGuard$Entry") (T := F_E) (N := 12) hx hb ht zi_E ty_E tk_E hown (ht _ zm_112) (ht _ zm_113) (ht _ zm_68) hK hP hD hS hA rfl zdf_E (by omega) (by omega) d_D_init_31 (fun qe H hP hD hS => ?_)
    have hP := hP.swap
    have hD := hD.swap
    have hP : va_P D zcl (([(h0, .inr (2, [.ref qn, .int (iI 0), .int (iI 0), .int (iI 0), .ref h1])), (qn, .inl (cE, 64, .inr (.inr (.inr (.inr fe))))), (qe, .inr (7, [.null, .int 0, .int 0, .int 0, .int 0, .long 0, .int 0, .int 0, .int 0, .int 0, .int 0, .int 0]))] : va_W) ++ zPl cB LL) H := hP
    have hD : va_D A (([(h0, .inr (2, [.ref qn, .int (iI 0), .int (iI 0), .int (iI 0), .ref h1])), (qn, .inl (cE, 64, .inr (.inr (.inr (.inr fe))))), (qe, .inr (7, [.null, .int 0, .int 0, .int 0, .int 0, .long 0, .int 0, .int 0, .int 0, .int 0, .int 0, .int 0]))] : va_W) ++ zPl cB LL) := hD
    refine lv_dup hx hb d_D_init_34 rfl ?_
    refine zjvQ (wr := [(h0, .inr (2, [.ref qn, .int (iI 0), .int (iI 0), .int (iI 0), .ref h1])), (qn, .inl (cE, 64, .inr (.inr (.inr (.inr fe)))))]) (va_runI (As := []) (rest := [.ref qe, .int (nI k), .ref qn]) ⟨hx, hb, hml, hown, ht⟩ (c_E_init l D _ qe ) (cwI 0 ht (zt_good zm_116) rfl rfl rfl (ht _ zm_68) (ht _ zm_114) (ht _ zm_115) rfl (by decide +kernel) ⟨hRf, hRl⟩) (zpre zBlind_t hK hP hD [2] [] rfl (by decide) rfl (fun _ _ _ => trivial)) rfl rfl hl.1 rfl (lv_room (Nat.le_of_ble_eq_true rfl)) d_D_init_35 ⟨by omega, by omega⟩) hK hP hD hS hA [2] [0, 1] rfl rfl (by decide) (by decide) (fun u9 H locs hp4 hP hD hK hS => ?_)
    obtain ⟨qnb, cA9⟩ := u9
    dsimp only at hp4 hP hD hK
    have hP : va_P D zcl (([(h0, .inr (2, [.ref qn, .int (iI 0), .int (iI 0), .int (iI 0), .ref h1])), (qn, .inl (cE, 64, .inr (.inr (.inr (.inr fe))))), (qe, .inr (7, [.ref qnb, .int 0, .int 0, .int 0, .int 0, .long 0, .int 0, .int 0, .int 0, .int 0, .int 0, .int 0])), (qnb, .inl (cA9, 60, .inl (fun _ => 0)))] : va_W) ++ zPl cB LL) H := hP
    have hD : va_D A (([(h0, .inr (2, [.ref qn, .int (iI 0), .int (iI 0), .int (iI 0), .ref h1])), (qn, .inl (cE, 64, .inr (.inr (.inr (.inr fe))))), (qe, .inr (7, [.ref qnb, .int 0, .int 0, .int 0, .int 0, .long 0, .int 0, .int 0, .int 0, .int 0, .int 0, .int 0])), (qnb, .inl (cA9, 60, .inl (fun _ => 0)))] : va_W) ++ zPl cB LL) := hD
    have hK : va_K D zcl [(cB, .byte), (cE, .object "ZipGuard$Entry"), (cA9, .byte)] s := hK
    have h9 : cB = cA9 := zRA_eq hK (i := 0) (j := 2) rfl rfl
    subst h9
    have hP := hP.part (cx := [(h0, .inr (2, [.ref qn, .int (iI 0), .int (iI 0), .int (iI 0), .ref h1])), (qn, .inl (cE, 64, .inr (.inr (.inr (.inr fe))))), (qe, .inr (7, [.ref qnb, .int 0, .int 0, .int 0, .int 0, .long 0, .int 0, .int 0, .int 0, .int 0, .int 0, .int 0])), (qnb, .inl (cB, 60, .inl (fun _ => 0)))]) [0, 1, 2, 3] rfl
    have hD := hD.part (cx := [(h0, .inr (2, [.ref qn, .int (iI 0), .int (iI 0), .int (iI 0), .ref h1])), (qn, .inl (cE, 64, .inr (.inr (.inr (.inr fe))))), (qe, .inr (7, [.ref qnb, .int 0, .int 0, .int 0, .int 0, .long 0, .int 0, .int 0, .int 0, .int 0, .int 0, .int 0])), (qnb, .inl (cB, 60, .inl (fun _ => 0)))]) [0, 1, 2, 3] (by decide) rfl
    have hK := hK.sub (tys' := [(cB, .byte), (cE, .object "ZipGuard$Entry")]) [0, 1] rfl
    refine va_astq (r := ("ZipGuard$Entry", F_E, 12)) hx hb hK hP hD hS 1 1 2 7 rfl rfl rfl rfl (vp_in_nI (by omega) (by omega)) d_D_init_38 (fun H locs hP hD hS => ?_)
    have hP : va_P D zcl (([(h0, .inr (2, [.ref qn, .int (iI 0), .int (iI 0), .int (iI 0), .ref h1])), (qn, .inl (cE, 64, .inr (.inr (.inr (.inr (va_up fe (nI k).toNatClampNeg (some qe))))))), (qe, .inr (7, [.ref qnb, .int 0, .int 0, .int 0, .int 0, .long 0, .int 0, .int 0, .int 0, .int 0, .int 0, .int 0])), (qnb, .inl (cB, 60, .inl (fun _ => 0)))] : va_W) ++ zPl cB LL) H := hP
    have hD : va_D A (([(h0, .inr (2, [.ref qn, .int (iI 0), .int (iI 0), .int (iI 0), .ref h1])), (qn, .inl (cE, 64, .inr (.inr (.inr (.inr (va_up fe (nI k).toNatClampNeg (some qe))))))), (qe, .inr (7, [.ref qnb, .int 0, .int 0, .int 0, .int 0, .long 0, .int 0, .int 0, .int 0, .int 0, .int 0, .int 0])), (qnb, .inl (cB, 60, .inl (fun _ => 0)))] : va_W) ++ zPl cB LL) := hD
    rw [nI_clamp (by omega), z0i, z0l] at hP hD
    have hP : va_P D zcl (([(h0, .inr (2, [.ref qn, .int (iI 0), .int (iI 0), .int (iI 0), .ref h1])), (qn, .inl (cE, 64, .inr (.inr (.inr (.inr (va_up fe k (some qe))))))), (qe, .inr (7, [.ref qnb, .int (iI 0), .int (iI 0), .int (iI 0), .int (iI 0), .long (lI 0), .int (iI 0), .int (iI 0), .int (iI 0), .int (iI 0), .int (iI 0), .int (iI 0)])), (qnb, .inl (cB, 60, .inl (fun _ => iI 0)))] : va_W) ++ zPl cB LL) H := hP
    have hD : va_D A (([(h0, .inr (2, [.ref qn, .int (iI 0), .int (iI 0), .int (iI 0), .ref h1])), (qn, .inl (cE, 64, .inr (.inr (.inr (.inr (va_up fe k (some qe))))))), (qe, .inr (7, [.ref qnb, .int (iI 0), .int (iI 0), .int (iI 0), .int (iI 0), .long (lI 0), .int (iI 0), .int (iI 0), .int (iI 0), .int (iI 0), .int (iI 0), .int (iI 0)])), (qnb, .inl (cB, 60, .inl (fun _ => iI 0)))] : va_W) ++ zPl cB LL) := hD
    have hP : va_P D zcl ([(h0, .inr (2, [.ref qn, .int (iI 0), .int (iI 0), .int (iI 0), .ref h1])), (qn, .inl (cE, 64, .inr (.inr (.inr (.inr (va_up fe k (some qe)))))))] ++ zPl cB (LL ++ [(qe, qnb, 0, 0, 0, 0, 0, 0, 0, 0, 0, 0, 0, fun _ => iI 0)])) H := by rw [zPl_snoc, ← List.append_assoc]; exact (show va_P D zcl (([(h0, .inr (2, [.ref qn, .int (iI 0), .int (iI 0), .int (iI 0), .ref h1])), (qn, .inl (cE, 64, .inr (.inr (.inr (.inr (va_up fe k (some qe)))))))] ++ zEe cB (qe, qnb, 0, 0, 0, 0, 0, 0, 0, 0, 0, 0, 0, fun _ => iI 0)) ++ zPl cB LL) H from hP).swap
    have hD : va_D A ([(h0, .inr (2, [.ref qn, .int (iI 0), .int (iI 0), .int (iI 0), .ref h1])), (qn, .inl (cE, 64, .inr (.inr (.inr (.inr (va_up fe k (some qe)))))))] ++ zPl cB (LL ++ [(qe, qnb, 0, 0, 0, 0, 0, 0, 0, 0, 0, 0, 0, fun _ => iI 0)])) := by rw [zPl_snoc, ← List.append_assoc]; exact (show va_D A (([(h0, .inr (2, [.ref qn, .int (iI 0), .int (iI 0), .int (iI 0), .ref h1])), (qn, .inl (cE, 64, .inr (.inr (.inr (.inr (va_up fe k (some qe)))))))] ++ zEe cB (qe, qnb, 0, 0, 0, 0, 0, 0, 0, 0, 0, 0, 0, fun _ => iI 0)) ++ zPl cB LL) from hD).swap
    refine lv_iinc (k := 0) (v := (nI k) + 1) (lv' := [(2, .int ((nI k) + 1)), (0, .ref h0), (1, .ref h1)]) hx hb d_D_init_39 hl rfl rfl (by decide) rfl (fun ls hl => ?_)
    refine lv_goto (tgt := 20) hx hb d_D_init_42 (by decide) ?_
    rw [nI_1] at hl
    refine W.widen (k := 1 + 2 * (k + 1)) (n := 64 + 72 * (k + 1)) (by omega) (by omega) ?_
    exact ih (k + 1) (va_up fe k (some qe)) (LL ++ [(qe, qnb, 0, 0, 0, 0, 0, 0, 0, 0, 0, 0, 0, fun _ => iI 0)]) H locs ls (by omega) (zMade_s hM) hP hD hS hl
set_option maxHeartbeats 4000000 in
set_option maxRecDepth 100000 in
theorem c_D_init1 (l : Launch) (D : va_G) (sz : Nat) (h0 : Nat) (h1 : Nat) (cB : ClassId)  : Met l y_D_init (Cond.code y_D_init prog_4_method_1_code 3 (Option.none : Option Jvm.ClassFile.FieldType) :: zt) { frames := 2, cells := 129, slots := 4672, locals := 32 } (zPc [.ref h0, .ref h1] D [(h0, .inr (2, [.null, .int 0, .int 0, .int 0, .null]))] [(cB, .byte)] sz (va_AO "ZipGuard$Entry")) (va_Qv (fun (u9 : Nat × ClassId × (Nat → Option Nat) × List zE) => match u9 with | (qn, cE, fe, LL) => zMade fe LL 64) (fun u9 t => zB D (((fun (u9 : Nat × ClassId × (Nat → Option Nat) × List zE) => match u9 with | (qn, cE, fe, LL) => [(h0, .inr (2, [.ref qn, .int (iI 0), .int (iI 0), .int (iI (-1)), .ref h1])), (qn, .inl (cE, 64, .inr (.inr (.inr (.inr fe)))))]) u9) ++ ((fun (u9 : Nat × ClassId × (Nat → Option Nat) × List zE) => match u9 with | (qn, cE, fe, LL) => zPl cB LL) u9)) ((fun (u9 : Nat × ClassId × (Nat → Option Nat) × List zE) => match u9 with | (qn, cE, fe, LL) => [(cB, .byte), (cE, .object "ZipGuard$Entry")]) u9) (va_A [(h0, .inr (2, [.null, .int 0, .int 0, .int 0, .null]))] sz) t) (va_A [(h0, .inr (2, [.null, .int 0, .int 0, .int 0, .null]))] sz)) 129 4672 (va_A [(h0, .inr (2, [.null, .int 0, .int 0, .int 0, .null]))] sz) :=
  zMet (Qf := fun A => va_Qv (fun (u9 : Nat × ClassId × (Nat → Option Nat) × List zE) => match u9 with | (qn, cE, fe, LL) => zMade fe LL 64) (fun u9 t => zB D (((fun (u9 : Nat × ClassId × (Nat → Option Nat) × List zE) => match u9 with | (qn, cE, fe, LL) => [(h0, .inr (2, [.ref qn, .int (iI 0), .int (iI 0), .int (iI (-1)), .ref h1])), (qn, .inl (cE, 64, .inr (.inr (.inr (.inr fe)))))]) u9) ++ ((fun (u9 : Nat × ClassId × (Nat → Option Nat) × List zE) => match u9 with | (qn, cE, fe, LL) => zPl cB LL) u9)) ((fun (u9 : Nat × ClassId × (Nat → Option Nat) × List zE) => match u9 with | (qn, cE, fe, LL) => [(cB, .byte), (cE, .object "ZipGuard$Entry")]) u9) A t) A) (by decide) (Nat.le_of_ble_eq_true rfl) (fun p e s m below meth c A ls hx hb hr hml hown ht hlk hnm hA hK hP hD hX hl => by
    have hS : va_S A s.heap s.heap [] := va_S.rf
    have hl : lv_has ls 3 [(0, .ref h0), (1, .ref h1)] := hl
    refine lv_aload_n hx hb d_D_init_0 rfl (lv_at hl 0 rfl) ?_
    refine W.objInit hx hb hown (ht _ zm_111) (ht _ zm_87) (ht _ zm_88) rfl (by rw [hml]; exact hl.1) rfl d_D_init_1 (Nat.le_of_ble_eq_true rfl) (Nat.le_of_ble_eq_true rfl) ?_
    refine W.eq (g2 := F0 m 4 ls []) rfl ?_
    refine lv_aload_n hx hb d_D_init_4 rfl (lv_at hl 0 rfl) ?_
    refine lv_aload_n hx hb d_D_init_5 rfl (lv_at hl 1 rfl) ?_
    refine va_putF (ci := 2) (v := .ref h1) (ty := .object "ZipGuard$Tape") (C := "ZipGuard$Directory") (T := F_D) (N := 5) hx hb ht zi_D ty_D tk_D nm_D hown hK hP hD hS 0 rfl rfl 4 (by decide) (ht _ zm_187) (fun _ h9 => h9) rfl hnm rfl (by decide +kernel) rfl rfl (Nat.le_of_ble_eq_true rfl) d_D_init_6 (fun H locs hP hD hS => ?_)
    have hP : va_P D zcl [(h0, .inr (2, [.null, .int 0, .int 0, .int 0, .ref h1]))] H := hP
    have hD : va_D A [(h0, .inr (2, [.null, .int 0, .int 0, .int 0, .ref h1]))] := hD
    refine lv_aload_n hx hb d_D_init_9 rfl (lv_at hl 0 rfl) ?_
    refine lv_bipush (v := 64) hx hb d_D_init_10 (by decide) ?_
    refine va_newq (n := 64) (N' := 64) hx hb hown (ht _ zm_112) hX hK hP hD hS hA (by decide) (by decide) (by decide) (Nat.le_of_ble_eq_true rfl) (Nat.le_of_ble_eq_true rfl) d_D_init_12 (fun q1 cA2 H hK hP hD hS => ?_)
    have hP : va_P D zcl [(h0, .inr (2, [.null, .int 0, .int 0, .int 0, .ref h1])), (q1, .inl (cA2, 64, .inr (.inr (.inr (.inr (fun _ => none))))))] H := hP
    have hD : va_D A [(h0, .inr (2, [.null, .int 0, .int 0, .int 0, .ref h1])), (q1, .inl (cA2, 64, .inr (.inr (.inr (.inr (fun _ => none))))))] := hD
    have hK : va_K D zcl [(cB, .byte), (cA2, .object "ZipGuard$Entry")] s := hK
    refine va_putF (ci := 2) (v := .ref q1) (ty := .array (.object "ZipGuard$Entry")) (C := "ZipGuard$Directory") (T := F_D) (N := 5) hx hb ht zi_D ty_D tk_D nm_D hown hK hP hD hS 0 rfl rfl 0 (by decide) (ht _ zm_179) (fun _ h9 => h9) rfl hnm rfl (by decide +kernel) rfl rfl (Nat.le_of_ble_eq_true rfl) d_D_init_15 (fun H locs hP hD hS => ?_)
    have hP : va_P D zcl [(h0, .inr (2, [.ref q1, .int 0, .int 0, .int 0, .ref h1])), (q1, .inl (cA2, 64, .inr (.inr (.inr (.inr (fun _ => none))))))] H := hP
    have hD : va_D A [(h0, .inr (2, [.ref q1, .int 0, .int 0, .int 0, .ref h1])), (q1, .inl (cA2, 64, .inr (.inr (.inr (.inr (fun _ => none))))))] := hD
    refine lv_iconst (v := 0) hx hb d_D_init_18 (by decide) ?_
    refine lv_istore_n (lv' := [(2, .int 0), (0, .ref h0), (1, .ref h1)]) hx hb d_D_init_19 rfl hl (by decide) rfl (fun ls hl => ?_)
    rw [z0i] at hP hD
    have hP : va_P D zcl [(h0, .inr (2, [.ref q1, .int (iI 0), .int (iI 0), .int (iI 0), .ref h1])), (q1, .inl (cA2, 64, .inr (.inr (.inr (.inr (fun _ => none))))))] H := hP
    have hD : va_D A [(h0, .inr (2, [.ref q1, .int (iI 0), .int (iI 0), .int (iI 0), .ref h1])), (q1, .inl (cA2, 64, .inr (.inr (.inr (.inr (fun _ => none))))))] := hD
    have hP : va_P D zcl ([(h0, .inr (2, [.ref q1, .int (iI 0), .int (iI 0), .int (iI 0), .ref h1])), (q1, .inl (cA2, 64, .inr (.inr (.inr (.inr (fun _ => none))))))] ++ zPl cB []) H := hP
    have hD : va_D A ([(h0, .inr (2, [.ref q1, .int (iI 0), .int (iI 0), .int (iI 0), .ref h1])), (q1, .inl (cA2, 64, .inr (.inr (.inr (.inr (fun _ => none))))))] ++ zPl cB []) := hD
    refine lp_D_init1 hx hb hml hown ht hA h0 h1 q1 cA2 cB (Nat.le_of_ble_eq_true rfl) (Nat.le_of_ble_eq_true rfl) (Nat.le_of_ble_eq_true rfl) (Nat.le_of_ble_eq_true rfl) hK (fun fe LL H locs ls hM hP hD hS hl => ?_) 64 0 (fun _ => none) [] H locs ls (by omega) (zMade_0 _) hP hD hS hl
    refine lv_aload_n hx hb d_D_init_45 rfl (lv_at hl 1 rfl) ?_
    refine lv_iconst (v := 0) hx hb d_D_init_46 (by decide) ?_
    refine va_put (ci := 2) (v := .int 0) (ty := .int) (C := "ZipGuard$Directory") (T := F_D) (N := 5) hx hb ht zi_D ty_D tk_D nm_D hown hK hP hD hS 0 rfl rfl 1 (by decide) (ht _ zm_181) (fun _ h9 => h9) rfl (by decide +kernel) rfl rfl (Nat.le_of_ble_eq_true rfl) d_D_init_47 (fun H locs hP hD hS => ?_)
    have hP : va_P D zcl (([(h0, .inr (2, [.ref q1, .int 0, .int (iI 0), .int (iI 0), .ref h1])), (q1, .inl (cA2, 64, .inr (.inr (.inr (.inr fe)))))] : va_W) ++ zPl cB LL) H := hP
    have hD : va_D A (([(h0, .inr (2, [.ref q1, .int 0, .int (iI 0), .int (iI 0), .ref h1])), (q1, .inl (cA2, 64, .inr (.inr (.inr (.inr fe)))))] : va_W) ++ zPl cB LL) := hD
    refine lv_aload_n hx hb d_D_init_50 rfl (lv_at hl 1 rfl) ?_
    refine lv_iconst (v := 0) hx hb d_D_init_51 (by decide) ?_
    refine va_put (ci := 2) (v := .int 0) (ty := .boolean) (C := "ZipGuard$Directory") (T := F_D) (N := 5) hx hb ht zi_D ty_D tk_D nm_D hown hK hP hD hS 0 rfl rfl 2 (by decide) (ht _ zm_183) (fun _ h9 => h9) rfl (by decide +kernel) rfl rfl (Nat.le_of_ble_eq_true rfl) d_D_init_52 (fun H locs hP hD hS => ?_)
    have hP : va_P D zcl (([(h0, .inr (2, [.ref q1, .int 0, .int 0, .int (iI 0), .ref h1])), (q1, .inl (cA2, 64, .inr (.inr (.inr (.inr fe)))))] : va_W) ++ zPl cB LL) H := hP
    have hD : va_D A (([(h0, .inr (2, [.ref q1, .int 0, .int 0, .int (iI 0), .ref h1])), (q1, .inl (cA2, 64, .inr (.inr (.inr (.inr fe)))))] : va_W) ++ zPl cB LL) := hD
    refine lv_aload_n hx hb d_D_init_55 rfl (lv_at hl 1 rfl) ?_
    refine lv_iconst (v := (-1)) hx hb d_D_init_56 (by decide) ?_
    refine va_put (ci := 2) (v := .int (-1)) (ty := .int) (C := "ZipGuard$Directory") (T := F_D) (N := 5) hx hb ht zi_D ty_D tk_D nm_D hown hK hP hD hS 0 rfl rfl 3 (by decide) (ht _ zm_185) (fun _ h9 => h9) rfl (by decide +kernel) rfl rfl (Nat.le_of_ble_eq_true rfl) d_D_init_57 (fun H locs hP hD hS => ?_)
    have hP : va_P D zcl (([(h0, .inr (2, [.ref q1, .int 0, .int 0, .int (-1), .ref h1])), (q1, .inl (cA2, 64, .inr (.inr (.inr (.inr fe)))))] : va_W) ++ zPl cB LL) H := hP
    have hD : va_D A (([(h0, .inr (2, [.ref q1, .int 0, .int 0, .int (-1), .ref h1])), (q1, .inl (cA2, 64, .inr (.inr (.inr (.inr fe)))))] : va_W) ++ zPl cB LL) := hD
    rw [z0i, show (-1 : Int32) = iI (-1) by decide] at hP hD
    have hP : va_P D zcl (([(h0, .inr (2, [.ref q1, .int (iI 0), .int (iI 0), .int (iI (-1)), .ref h1])), (q1, .inl (cA2, 64, .inr (.inr (.inr (.inr fe)))))] : va_W) ++ zPl cB LL) H := hP
    have hD : va_D A (([(h0, .inr (2, [.ref q1, .int (iI 0), .int (iI 0), .int (iI (-1)), .ref h1])), (q1, .inl (cA2, 64, .inr (.inr (.inr (.inr fe)))))] : va_W) ++ zPl cB LL) := hD
    exact zretvP hx hb hr hlk hK hP hD hS (q1, cA2, fe, LL) [0, 1] [0, 1] rfl (by decide) rfl rfl (hM) (Nat.le_of_ble_eq_true rfl) (Nat.le_of_ble_eq_true rfl) d_D_init_60)
