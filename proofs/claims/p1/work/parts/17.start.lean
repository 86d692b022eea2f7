set_option maxRecDepth 100000 in
theorem zm_81 : Jvm.Cond.classLink "ZipGuardLaw" (8 : Nat) "ZipGuard" ∈ zt := zt_m1 (List.mem_of_getElem? (i := 17) rfl)
set_option maxRecDepth 100000 in
theorem zm_82 : Jvm.Cond.instantiable "ZipGuard" (4 : Nat) ∈ zt := zt_m1 (List.mem_of_getElem? (i := 18) rfl)
set_option maxRecDepth 100000 in
theorem zm_83 : Jvm.Cond.methodLink "ZipGuardLaw" (51 : Nat) ({ cls := "ZipGuard", name := "<init>", desc := "()V" } : Jvm.MethodName) ∈ zt := zt_m1 (List.mem_of_getElem? (i := 19) rfl)
set_option maxRecDepth 100000 in
theorem zm_84 : Jvm.Cond.instanceMethod ({ cls := "ZipGuard", name := "<init>", desc := "()V" } : Jvm.MethodName) ∈ zt := zt_m1 (List.mem_of_getElem? (i := 20) rfl)
set_option maxRecDepth 100000 in
theorem zm_85 : Jvm.Cond.code ({ cls := "ZipGuard", name := "<init>", desc := "()V" } : Jvm.MethodName) prog_1_method_1_code (1 : Nat) (Option.none : Option Jvm.ClassFile.FieldType) ∈ zt := zt_m1 (List.mem_of_getElem? (i := 21) rfl)
set_option maxRecDepth 100000 in
theorem zm_745 : Jvm.Cond.classLink "ZipGuardLaw" (52 : Nat) "ZipGuardModel" ∈ zt := zt_m5 (List.mem_of_getElem? (i := 15) rfl)
set_option maxRecDepth 100000 in
theorem zm_746 : Jvm.Cond.instantiable "ZipGuardModel" (31 : Nat) ∈ zt := zt_m5 (List.mem_of_getElem? (i := 16) rfl)
set_option maxRecDepth 100000 in
theorem zm_747 : Jvm.Cond.methodLink "ZipGuardLaw" (54 : Nat) ({ cls := "ZipGuardModel", name := "<init>", desc := "()V" } : Jvm.MethodName) ∈ zt := zt_m5 (List.mem_of_getElem? (i := 17) rfl)
set_option maxRecDepth 100000 in
theorem zm_748 : Jvm.Cond.instanceMethod ({ cls := "ZipGuardModel", name := "<init>", desc := "()V" } : Jvm.MethodName) ∈ zt := zt_m5 (List.mem_of_getElem? (i := 18) rfl)
set_option maxRecDepth 100000 in
theorem zm_749 : Jvm.Cond.code ({ cls := "ZipGuardModel", name := "<init>", desc := "()V" } : Jvm.MethodName) prog_10_method_1_code (1 : Nat) (Option.none : Option Jvm.ClassFile.FieldType) ∈ zt := zt_m5 (List.mem_of_getElem? (i := 19) rfl)
theorem d_L_law_0 : decode code 0 = .ok (.new 8, 3) := by decide +kernel
theorem d_L_law_3 : decode code 3 = .ok (.dup, 1) := by decide +kernel
theorem d_L_law_4 : decode code 4 = .ok (.invokespecial 51, 3) := by decide +kernel
theorem d_L_law_7 : decode code 7 = .ok (.astore_n 1, 1) := by decide +kernel
theorem d_L_law_8 : decode code 8 = .ok (.new 52, 3) := by decide +kernel
theorem d_L_law_11 : decode code 11 = .ok (.dup, 1) := by decide +kernel
theorem d_L_law_12 : decode code 12 = .ok (.invokespecial 54, 3) := by decide +kernel
theorem d_L_law_15 : decode code 15 = .ok (.astore_n 2, 1) := by decide +kernel
theorem d_L_law_16 : decode code 16 = .ok (.iconst 1, 1) := by decide +kernel
theorem d_L_law_17 : decode code 17 = .ok (.newarray .long, 2) := by decide +kernel
theorem d_L_law_19 : decode code 19 = .ok (.astore_n 3, 1) := by decide +kernel
theorem d_L_law_20 : decode code 20 = .ok (.iconst 0, 1) := by decide +kernel
theorem d_L_law_21 : decode code 21 = .ok (.istore 4, 2) := by decide +kernel
theorem d_L_law_33 : decode code 33 = .ok (.aload_n 0, 1) := by decide +kernel
theorem d_L_law_34 : decode code 34 = .ok (.iload 4, 2) := by decide +kernel
theorem d_L_law_36 : decode code 36 = .ok (.iaload, 1) := by decide +kernel
theorem d_L_law_37 : decode code 37 = .ok (.bipush 15, 2) := by decide +kernel
theorem d_L_law_39 : decode code 39 = .ok (.iand, 1) := by decide +kernel
theorem d_L_law_40 : decode code 40 = .ok (.tableswitch 706 0 11 #[64, 168, 204, 272, 285, 298, 346, 402, 446, 514, 582, 650], 64) := by decide +kernel
set_option maxHeartbeats 4000000 in
set_option maxRecDepth 100000 in
theorem zl_short {p : Program} {l : Launch} {e : Env} {s : State} {m : MethodId} {below : List Frame} {meth : Method} {c : Code} {b L : Nat} {xs : Nat → Int32} {A : Nat → Prop} {D : va_G} {H : Heap} {locs : List Loc} {ls : Array Slot} (hx : p.tables.exec = Jvm.exec) (hb : c.code = code) (hr : meth.sig.returnType = ret) (hml : c.maxLocals = 7) (hown : s.vm.findClass "ZipGuardLaw" = some m.cls) (ht : ∀ w ∈ zt, w.before #[Value.ref b] s = true) (hX : va_X b L xs s s.heap) (hbl : b < s.heap.size) (hlk : meth.locks = false) (hl9 : l.stackTraces = false) (hG : zG s) (hA : ∀ q, s.heap.size ≤ q → A q) (hAe : ∀ q, A q → s.heap.size ≤ q)  (hAO : va_AO "ZipGuard$Entry" s) (hL : L < 6) (hK : va_K D zcl [] s) (hP : va_P D zcl [] H) (hD : va_D A []) (hS : va_S A s.heap H locs) (hl : lv_has ls 7 [(0, .ref b)]) : W p l e room_1 s m #[Value.ref b] below meth c H locs 0 0 (lw_Z below #[Value.ref b] s) (F0 m 0 ls []) := by
  have hbA : ¬ A b := fun h => absurd (hAe b h) (Nat.not_le.mpr hbl)
  refine va_new (ci := 0) (fs := [.null, .null, .null, .null]) (C := "ZipGuard") (T := F_G) (N := 4) hx hb ht zi_G ty_G tk_G hown (ht _ zm_81) (ht _ zm_82) (ht _ zm_65) hK hP hD hS hA rfl zdf_G (Nat.le_of_ble_eq_true rfl) (Nat.le_of_ble_eq_true rfl) d_L_law_0 (fun q1 H hP hD hS => ?_)
  have hP : va_P D zcl [(q1, .inr (0, [.null, .null, .null, .null]))] H := hP
  have hD : va_D A [(q1, .inr (0, [.null, .null, .null, .null]))] := hD
  refine lv_dup hx hb d_L_law_3 rfl ?_
  refine zjv (wr := []) (va_runI (As := []) (rest := [.ref q1]) ⟨hx, hb, hml, hown, ht⟩ (c_G_init0 l D _ q1 ) (cwI 0 ht (zt_good zm_85) rfl rfl rfl (ht _ zm_65) (ht _ zm_83) (ht _ zm_84) rfl (by decide +kernel) ⟨Nat.le_of_ble_eq_true rfl, Nat.le_of_ble_eq_true rfl⟩) (zpre zBlind_AO hK hP hD [0] [] rfl (by decide) rfl (fun U _ hW => hAO.moved hW.alike)) rfl rfl hl.1 rfl (lv_room (Nat.le_of_ble_eq_true rfl)) d_L_law_4 ⟨Nat.le_of_ble_eq_true rfl, Nat.le_of_ble_eq_true rfl⟩) hK hP hD hS hA [0] [] rfl rfl (by decide) (by decide) (fun u H locs hp11 hP hD hK hS => ?_)
  obtain ⟨qt2, qd3, qa4, qu5, qb6, qe7, qo8, cB9⟩ := u
  dsimp only at hp11 hP hD hK
  have hP : va_P D zcl [(q1, .inr (0, [.ref qt2, .ref qd3, .ref qa4, .ref qu5])), (qt2, .inr (1, [.ref qb6, .int 0])), (qb6, .inl (cB9, 20000, .inl (fun _ => 0))), (qd3, .inr (2, [.ref qe7, .int 0, .int 0, .int (-1), .ref qt2])), (qa4, .inr (3, [.int 20000, .int 100, .int 0, .ref qo8, .int (-1)]))] H := hP
  have hD : va_D A [(q1, .inr (0, [.ref qt2, .ref qd3, .ref qa4, .ref qu5])), (qt2, .inr (1, [.ref qb6, .int 0])), (qb6, .inl (cB9, 20000, .inl (fun _ => 0))), (qd3, .inr (2, [.ref qe7, .int 0, .int 0, .int (-1), .ref qt2])), (qa4, .inr (3, [.int 20000, .int 100, .int 0, .ref qo8, .int (-1)]))] := hD
  have hK : va_K D zcl [(cB9, .byte)] s := hK
  refine lv_astore_n (lv' := [(1, .ref q1), (0, .ref b)]) hx hb d_L_law_7 rfl hl (by decide) rfl (fun ls hl => ?_)
  refine va_new (ci := 8) (fs := [.null, .int 0, .int 0, .int 0, .int 0, .int 0, .int 0, .null, .null, .null, .null, .null, .null, .null, .null, .null, .null, .null, .null, .null, .int 0, .int 0, .int 0, .int 0, .null, .null, .null, .null, .int 0, .int 0, .int 0]) (C := "ZipGuardModel") (T := F_M) (N := 31) hx hb ht zi_M ty_M tk_M hown (ht _ zm_745) (ht _ zm_746) (ht _ zm_79) hK hP hD hS hA rfl zdf_M (Nat.le_of_ble_eq_true rfl) (Nat.le_of_ble_eq_true rfl) d_L_law_8 (fun q12 H hP hD hS => ?_)
  have hP : va_P D zcl [(q1, .inr (0, [.ref qt2, .ref qd3, .ref qa4, .ref qu5])), (qt2, .inr (1, [.ref qb6, .int 0])), (qb6, .inl (cB9, 20000, .inl (fun _ => 0))), (qd3, .inr (2, [.ref qe7, .int 0, .int 0, .int (-1), .ref qt2])), (qa4, .inr (3, [.int 20000, .int 100, .int 0, .ref qo8, .int (-1)])), (q12, .inr (8, [.null, .int 0, .int 0, .int 0, .int 0, .int 0, .int 0, .null, .null, .null, .null, .null, .null, .null, .null, .null, .null, .null, .null, .null, .int 0, .int 0, .int 0, .int 0, .null, .null, .null, .null, .int 0, .int 0, .int 0]))] H := hP
  have hD : va_D A [(q1, .inr (0, [.ref qt2, .ref qd3, .ref qa4, .ref qu5])), (qt2, .inr (1, [.ref qb6, .int 0])), (qb6, .inl (cB9, 20000, .inl (fun _ => 0))), (qd3, .inr (2, [.ref qe7, .int 0, .int 0, .int (-1), .ref qt2])), (qa4, .inr (3, [.int 20000, .int 100, .int 0, .ref qo8, .int (-1)])), (q12, .inr (8, [.null, .int 0, .int 0, .int 0, .int 0, .int 0, .int 0, .null, .null, .null, .null, .null, .null, .null, .null, .null, .null, .null, .null, .null, .int 0, .int 0, .int 0, .int 0, .null, .null, .null, .null, .int 0, .int 0, .int 0]))] := hD
  refine lv_dup hx hb d_L_law_11 rfl ?_
  refine zjv (wr := [(q1, .inr (0, [.ref qt2, .ref qd3, .ref qa4, .ref qu5])), (qt2, .inr (1, [.ref qb6, .int 0])), (qb6, .inl (cB9, 20000, .inl (fun _ => 0))), (qd3, .inr (2, [.ref qe7, .int 0, .int 0, .int (-1), .ref qt2])), (qa4, .inr (3, [.int 20000, .int 100, .int 0, .ref qo8, .int (-1)]))]) (va_runI (As := []) (rest := [.ref q12]) ⟨hx, hb, hml, hown, ht⟩ (c_M_init l D _ q12 ) (cwI 0 ht (zt_good zm_749) rfl rfl rfl (ht _ zm_79) (ht _ zm_747) (ht _ zm_748) rfl (by decide +kernel) ⟨Nat.le_of_ble_eq_true rfl, Nat.le_of_ble_eq_true rfl⟩) (zpre zBlind_t hK hP hD [5] [] rfl (by decide) rfl (fun _ _ _ => trivial)) rfl rfl hl.1 rfl (lv_room (Nat.le_of_ble_eq_true rfl)) d_L_law_12 ⟨Nat.le_of_ble_eq_true rfl, Nat.le_of_ble_eq_true rfl⟩) hK hP hD hS hA [5] [0, 1, 2, 3, 4] rfl rfl (by decide) (by decide) (fun u H locs hp33 hP hD hK hS => ?_)
  obtain ⟨m_tape13, m_methods14, m_packed15, m_sizes16, m_sums17, m_datas18, m_locals19, m_localEnds20, m_names21, m_nameSizes22, m_states23, m_starts24, m_counts25, m_written26, m_lengths27, m_small28, m_codes29, m_smallCodes30, cM31⟩ := u
  dsimp only at hp33 hP hD hK
  have hP : va_P D zcl [(q1, .inr (0, [.ref qt2, .ref qd3, .ref qa4, .ref qu5])), (qt2, .inr (1, [.ref qb6, .int 0])), (qb6, .inl (cB9, 20000, .inl (fun _ => 0))), (qd3, .inr (2, [.ref qe7, .int 0, .int 0, .int (-1), .ref qt2])), (qa4, .inr (3, [.int 20000, .int 100, .int 0, .ref qo8, .int (-1)])), (q12, .inr (8, [.ref m_tape13, .int 0, .int 0, .int (-1), .int 20000, .int 100, .int 0, .ref m_methods14, .ref m_packed15, .ref m_sizes16, .ref m_sums17, .ref m_datas18, .ref m_locals19, .ref m_localEnds20, .ref m_names21, .ref m_nameSizes22, .ref m_states23, .ref m_starts24, .ref m_counts25, .ref m_written26, .int 0, .int 0, .int 0, .int 0, .ref m_lengths27, .ref m_small28, .ref m_codes29, .ref m_smallCodes30, .int 0, .int 0, .int 0])), (m_tape13, .inl (cM31, 20000, .inl (fun _ => 0)))] H := hP
  have hD : va_D A [(q1, .inr (0, [.ref qt2, .ref qd3, .ref qa4, .ref qu5])), (qt2, .inr (1, [.ref qb6, .int 0])), (qb6, .inl (cB9, 20000, .inl (fun _ => 0))), (qd3, .inr (2, [.ref qe7, .int 0, .int 0, .int (-1), .ref qt2])), (qa4, .inr (3, [.int 20000, .int 100, .int 0, .ref qo8, .int (-1)])), (q12, .inr (8, [.ref m_tape13, .int 0, .int 0, .int (-1), .int 20000, .int 100, .int 0, .ref m_methods14, .ref m_packed15, .ref m_sizes16, .ref m_sums17, .ref m_datas18, .ref m_locals19, .ref m_localEnds20, .ref m_names21, .ref m_nameSizes22, .ref m_states23, .ref m_starts24, .ref m_counts25, .ref m_written26, .int 0, .int 0, .int 0, .int 0, .ref m_lengths27, .ref m_small28, .ref m_codes29, .ref m_smallCodes30, .int 0, .int 0, .int 0])), (m_tape13, .inl (cM31, 20000, .inl (fun _ => 0)))] := hD
  have hK : va_K D zcl [(cB9, .byte), (cM31, .byte)] s := hK
  refine lv_astore_n (lv' := [(2, .ref q12), (1, .ref q1), (0, .ref b)]) hx hb d_L_law_15 rfl hl (by decide) rfl (fun ls hl => ?_)
  refine lv_iconst (v := 1) hx hb d_L_law_16 (by decide) ?_
  refine va_newa (atype := .long) (ty := .long) (n := 1) (N' := 1) (a0 := (1, .inr (.inl (fun _ => 0)))) hx hb (ht _ zm_846) rfl hK hP hD hS hA (fun _ => rfl) (by decide) (by decide) (by decide) (Nat.le_of_ble_eq_true rfl) (Nat.le_of_ble_eq_true rfl) d_L_law_17 (fun q34 cA35 H hK hP hD hS => ?_)
  have hP : va_P D zcl [(q1, .inr (0, [.ref qt2, .ref qd3, .ref qa4, .ref qu5])), (qt2, .inr (1, [.ref qb6, .int 0])), (qb6, .inl (cB9, 20000, .inl (fun _ => 0))), (qd3, .inr (2, [.ref qe7, .int 0, .int 0, .int (-1), .ref qt2])), (qa4, .inr (3, [.int 20000, .int 100, .int 0, .ref qo8, .int (-1)])), (q12, .inr (8, [.ref m_tape13, .int 0, .int 0, .int (-1), .int 20000, .int 100, .int 0, .ref m_methods14, .ref m_packed15, .ref m_sizes16, .ref m_sums17, .ref m_datas18, .ref m_locals19, .ref m_localEnds20, .ref m_names21, .ref m_nameSizes22, .ref m_states23, .ref m_starts24, .ref m_counts25, .ref m_written26, .int 0, .int 0, .int 0, .int 0, .ref m_lengths27, .ref m_small28, .ref m_codes29, .ref m_smallCodes30, .int 0, .int 0, .int 0])), (m_tape13, .inl (cM31, 20000, .inl (fun _ => 0))), (q34, .inl (cA35, 1, .inr (.inl (fun _ => 0))))] H := hP
  have hD : va_D A [(q1, .inr (0, [.ref qt2, .ref qd3, .ref qa4, .ref qu5])), (qt2, .inr (1, [.ref qb6, .int 0])), (qb6, .inl (cB9, 20000, .inl (fun _ => 0))), (qd3, .inr (2, [.ref qe7, .int 0, .int 0, .int (-1), .ref qt2])), (qa4, .inr (3, [.int 20000, .int 100, .int 0, .ref qo8, .int (-1)])), (q12, .inr (8, [.ref m_tape13, .int 0, .int 0, .int (-1), .int 20000, .int 100, .int 0, .ref m_methods14, .ref m_packed15, .ref m_sizes16, .ref m_sums17, .ref m_datas18, .ref m_locals19, .ref m_localEnds20, .ref m_names21, .ref m_nameSizes22, .ref m_states23, .ref m_starts24, .ref m_counts25, .ref m_written26, .int 0, .int 0, .int 0, .int 0, .ref m_lengths27, .ref m_small28, .ref m_codes29, .ref m_smallCodes30, .int 0, .int 0, .int 0])), (m_tape13, .inl (cM31, 20000, .inl (fun _ => 0))), (q34, .inl (cA35, 1, .inr (.inl (fun _ => 0))))] := hD
  have hK : va_K D zcl [(cB9, .byte), (cM31, .byte), (cA35, .long)] s := hK
  refine lv_astore_n (lv' := [(3, .ref q34), (2, .ref q12), (1, .ref q1), (0, .ref b)]) hx hb d_L_law_19 rfl hl (by decide) rfl (fun ls hl => ?_)
  refine lv_iconst (v := 0) hx hb d_L_law_20 (by decide) ?_
  refine lv_istore (lv' := [(4, .int 0), (3, .ref q34), (2, .ref q12), (1, .ref q1), (0, .ref b)]) hx hb d_L_law_21 hl (by decide) rfl (fun ls hl => ?_)
  refine lv_iload hx hb d_L_law_23 (lv_at hl 0 rfl) ?_
  refine lv_aload_n hx hb d_L_law_25 rfl (lv_at hl 4 rfl) ?_
  refine va_slen hx hb hX hbl hbA hS d_L_law_26 ?_
  refine lv_bipush (v := 6) hx hb d_L_law_27 (by decide) ?_
  refine lv_isub hx hb d_L_law_29 ?_
  refine lv_icmp_gt (tgt := 752) hx hb d_L_law_30 (by decide) (fun _ => ?_) (fun h => absurd (show nI L - nI 6 < 0 from pk_sneg (by omega) hL) h)
  refine lv_iconst (v := 1) hx hb d_L_law_752 (by decide) ?_
  exact va_forget (fun q hq => hAe _ (hS.2.2 q hq)) (W.widen (Nat.le_of_ble_eq_true rfl) (Nat.le_of_ble_eq_true rfl) (lw_ret hx hb hr hlk d_L_law_753))
set_option maxHeartbeats 4000000 in
set_option maxRecDepth 100000 in
theorem zl_full {p : Program} {l : Launch} {e : Env} {s : State} {m : MethodId} {below : List Frame} {meth : Method} {c : Code} {b : Nat} {xs : Nat → Int32} {A : Nat → Prop} {D : va_G} {H : Heap} {locs : List Loc} {ls : Array Slot} (hx : p.tables.exec = Jvm.exec) (hb : c.code = code) (hr : meth.sig.returnType = ret) (hml : c.maxLocals = 7) (hown : s.vm.findClass "ZipGuardLaw" = some m.cls) (ht : ∀ w ∈ zt, w.before #[Value.ref b] s = true) (hX : va_X b 6 xs s s.heap) (hbl : b < s.heap.size) (hlk : meth.locks = false) (hl9 : l.stackTraces = false) (hG : zG s) (hA : ∀ q, s.heap.size ≤ q → A q) (hAe : ∀ q, A q → s.heap.size ≤ q)  (hAO : va_AO "ZipGuard$Entry" s) (hK : va_K D zcl [] s) (hP : va_P D zcl [] H) (hD : va_D A []) (hS : va_S A s.heap H locs) (hl : lv_has ls 7 [(0, .ref b)]) : W p l e room_1 s m #[Value.ref b] below meth c H locs 0 0 (lw_Z below #[Value.ref b] s) (F0 m 0 ls []) := by
  have hbA : ¬ A b := fun h => absurd (hAe b h) (Nat.not_le.mpr hbl)
  refine va_new (ci := 0) (fs := [.null, .null, .null, .null]) (C := "ZipGuard") (T := F_G) (N := 4) hx hb ht zi_G ty_G tk_G hown (ht _ zm_81) (ht _ zm_82) (ht _ zm_65) hK hP hD hS hA rfl zdf_G (Nat.le_of_ble_eq_true rfl) (Nat.le_of_ble_eq_true rfl) d_L_law_0 (fun q1 H hP hD hS => ?_)
  have hP : va_P D zcl [(q1, .inr (0, [.null, .null, .null, .null]))] H := hP
  have hD : va_D A [(q1, .inr (0, [.null, .null, .null, .null]))] := hD
  refine lv_dup hx hb d_L_law_3 rfl ?_
  refine zjv (wr := []) (va_runI (As := []) (rest := [.ref q1]) ⟨hx, hb, hml, hown, ht⟩ (c_G_init0 l D _ q1 ) (cwI 0 ht (zt_good zm_85) rfl rfl rfl (ht _ zm_65) (ht _ zm_83) (ht _ zm_84) rfl (by decide +kernel) ⟨Nat.le_of_ble_eq_true rfl, Nat.le_of_ble_eq_true rfl⟩) (zpre zBlind_AO hK hP hD [0] [] rfl (by decide) rfl (fun U _ hW => hAO.moved hW.alike)) rfl rfl hl.1 rfl (lv_room (Nat.le_of_ble_eq_true rfl)) d_L_law_4 ⟨Nat.le_of_ble_eq_true rfl, Nat.le_of_ble_eq_true rfl⟩) hK hP hD hS hA [0] [] rfl rfl (by decide) (by decide) (fun u H locs hp11 hP hD hK hS => ?_)
  obtain ⟨qt2, qd3, qa4, qu5, qb6, qe7, qo8, cB9⟩ := u
  dsimp only at hp11 hP hD hK
  have hP : va_P D zcl [(q1, .inr (0, [.ref qt2, .ref qd3, .ref qa4, .ref qu5])), (qt2, .inr (1, [.ref qb6, .int 0])), (qb6, .inl (cB9, 20000, .inl (fun _ => 0))), (qd3, .inr (2, [.ref qe7, .int 0, .int 0, .int (-1), .ref qt2])), (qa4, .inr (3, [.int 20000, .int 100, .int 0, .ref qo8, .int (-1)]))] H := hP
  have hD : va_D A [(q1, .inr (0, [.ref qt2, .ref qd3, .ref qa4, .ref qu5])), (qt2, .inr (1, [.ref qb6, .int 0])), (qb6, .inl (cB9, 20000, .inl (fun _ => 0))), (qd3, .inr (2, [.ref qe7, .int 0, .int 0, .int (-1), .ref qt2])), (qa4, .inr (3, [.int 20000, .int 100, .int 0, .ref qo8, .int (-1)]))] := hD
  have hK : va_K D zcl [(cB9, .byte)] s := hK
  refine lv_astore_n (lv' := [(1, .ref q1), (0, .ref b)]) hx hb d_L_law_7 rfl hl (by decide) rfl (fun ls hl => ?_)
  refine va_new (ci := 8) (fs := [.null, .int 0, .int 0, .int 0, .int 0, .int 0, .int 0, .null, .null, .null, .null, .null, .null, .null, .null, .null, .null, .null, .null, .null, .int 0, .int 0, .int 0, .int 0, .null, .null, .null, .null, .int 0, .int 0, .int 0]) (C := "ZipGuardModel") (T := F_M) (N := 31) hx hb ht zi_M ty_M tk_M hown (ht _ zm_745) (ht _ zm_746) (ht _ zm_79) hK hP hD hS hA rfl zdf_M (Nat.le_of_ble_eq_true rfl) (Nat.le_of_ble_eq_true rfl) d_L_law_8 (fun q12 H hP hD hS => ?_)
  have hP : va_P D zcl [(q1, .inr (0, [.ref qt2, .ref qd3, .ref qa4, .ref qu5])), (qt2, .inr (1, [.ref qb6, .int 0])), (qb6, .inl (cB9, 20000, .inl (fun _ => 0))), (qd3, .inr (2, [.ref qe7, .int 0, .int 0, .int (-1), .ref qt2])), (qa4, .inr (3, [.int 20000, .int 100, .int 0, .ref qo8, .int (-1)])), (q12, .inr (8, [.null, .int 0, .int 0, .int 0, .int 0, .int 0, .int 0, .null, .null, .null, .null, .null, .null, .null, .null, .null, .null, .null, .null, .null, .int 0, .int 0, .int 0, .int 0, .null, .null, .null, .null, .int 0, .int 0, .int 0]))] H := hP
  have hD : va_D A [(q1, .inr (0, [.ref qt2, .ref qd3, .ref qa4, .ref qu5])), (qt2, .inr (1, [.ref qb6, .int 0])), (qb6, .inl (cB9, 20000, .inl (fun _ => 0))), (qd3, .inr (2, [.ref qe7, .int 0, .int 0, .int (-1), .ref qt2])), (qa4, .inr (3, [.int 20000, .int 100, .int 0, .ref qo8, .int (-1)])), (q12, .inr (8, [.null, .int 0, .int 0, .int 0, .int 0, .int 0, .int 0, .null, .null, .null, .null, .null, .null, .null, .null, .null, .null, .null, .null, .null, .int 0, .int 0, .int 0, .int 0, .null, .null, .null, .null, .int 0, .int 0, .int 0]))] := hD
  refine lv_dup hx hb d_L_law_11 rfl ?_
  refine zjv (wr := [(q1, .inr (0, [.ref qt2, .ref qd3, .ref qa4, .ref qu5])), (qt2, .inr (1, [.ref qb6, .int 0])), (qb6, .inl (cB9, 20000, .inl (fun _ => 0))), (qd3, .inr (2, [.ref qe7, .int 0, .int 0, .int (-1), .ref qt2])), (qa4, .inr (3, [.int 20000, .int 100, .int 0, .ref qo8, .int (-1)]))]) (va_runI (As := []) (rest := [.ref q12]) ⟨hx, hb, hml, hown, ht⟩ (c_M_init l D _ q12 ) (cwI 0 ht (zt_good zm_749) rfl rfl rfl (ht _ zm_79) (ht _ zm_747) (ht _ zm_748) rfl (by decide +kernel) ⟨Nat.le_of_ble_eq_true rfl, Nat.le_of_ble_eq_true rfl⟩) (zpre zBlind_t hK hP hD [5] [] rfl (by decide) rfl (fun _ _ _ => trivial)) rfl rfl hl.1 rfl (lv_room (Nat.le_of_ble_eq_true rfl)) d_L_law_12 ⟨Nat.le_of_ble_eq_true rfl, Nat.le_of_ble_eq_true rfl⟩) hK hP hD hS hA [5] [0, 1, 2, 3, 4] rfl rfl (by decide) (by decide) (fun u H locs hp33 hP hD hK hS => ?_)
  obtain ⟨m_tape13, m_methods14, m_packed15, m_sizes16, m_sums17, m_datas18, m_locals19, m_localEnds20, m_names21, m_nameSizes22, m_states23, m_starts24, m_counts25, m_written26, m_lengths27, m_small28, m_codes29, m_smallCodes30, cM31⟩ := u
  dsimp only at hp33 hP hD hK
  have hP : va_P D zcl [(q1, .inr (0, [.ref qt2, .ref qd3, .ref qa4, .ref qu5])), (qt2, .inr (1, [.ref qb6, .int 0])), (qb6, .inl (cB9, 20000, .inl (fun _ => 0))), (qd3, .inr (2, [.ref qe7, .int 0, .int 0, .int (-1), .ref qt2])), (qa4, .inr (3, [.int 20000, .int 100, .int 0, .ref qo8, .int (-1)])), (q12, .inr (8, [.ref m_tape13, .int 0, .int 0, .int (-1), .int 20000, .int 100, .int 0, .ref m_methods14, .ref m_packed15, .ref m_sizes16, .ref m_sums17, .ref m_datas18, .ref m_locals19, .ref m_localEnds20, .ref m_names21, .ref m_nameSizes22, .ref m_states23, .ref m_starts24, .ref m_counts25, .ref m_written26, .int 0, .int 0, .int 0, .int 0, .ref m_lengths27, .ref m_small28, .ref m_codes29, .ref m_smallCodes30, .int 0, .int 0, .int 0])), (m_tape13, .inl (cM31, 20000, .inl (fun _ => 0)))] H := hP
  have hD : va_D A [(q1, .inr (0, [.ref qt2, .ref qd3, .ref qa4, .ref qu5])), (qt2, .inr (1, [.ref qb6, .int 0])), (qb6, .inl (cB9, 20000, .inl (fun _ => 0))), (qd3, .inr (2, [.ref qe7, .int 0, .int 0, .int (-1), .ref qt2])), (qa4, .inr (3, [.int 20000, .int 100, .int 0, .ref qo8, .int (-1)])), (q12, .inr (8, [.ref m_tape13, .int 0, .int 0, .int (-1), .int 20000, .int 100, .int 0, .ref m_methods14, .ref m_packed15, .ref m_sizes16, .ref m_sums17, .ref m_datas18, .ref m_locals19, .ref m_localEnds20, .ref m_names21, .ref m_nameSizes22, .ref m_states23, .ref m_starts24, .ref m_counts25, .ref m_written26, .int 0, .int 0, .int 0, .int 0, .ref m_lengths27, .ref m_small28, .ref m_codes29, .ref m_smallCodes30, .int 0, .int 0, .int 0])), (m_tape13, .inl (cM31, 20000, .inl (fun _ => 0)))] := hD
  have hK : va_K D zcl [(cB9, .byte), (cM31, .byte)] s := hK
  refine lv_astore_n (lv' := [(2, .ref q12), (1, .ref q1), (0, .ref b)]) hx hb d_L_law_15 rfl hl (by decide) rfl (fun ls hl => ?_)
  refine lv_iconst (v := 1) hx hb d_L_law_16 (by decide) ?_
  refine va_newa (atype := .long) (ty := .long) (n := 1) (N' := 1) (a0 := (1, .inr (.inl (fun _ => 0)))) hx hb (ht _ zm_846) rfl hK hP hD hS hA (fun _ => rfl) (by decide) (by decide) (by decide) (Nat.le_of_ble_eq_true rfl) (Nat.le_of_ble_eq_true rfl) d_L_law_17 (fun q34 cA35 H hK hP hD hS => ?_)
  have hP : va_P D zcl [(q1, .inr (0, [.ref qt2, .ref qd3, .ref qa4, .ref qu5])), (qt2, .inr (1, [.ref qb6, .int 0])), (qb6, .inl (cB9, 20000, .inl (fun _ => 0))), (qd3, .inr (2, [.ref qe7, .int 0, .int 0, .int (-1), .ref qt2])), (qa4, .inr (3, [.int 20000, .int 100, .int 0, .ref qo8, .int (-1)])), (q12, .inr (8, [.ref m_tape13, .int 0, .int 0, .int (-1), .int 20000, .int 100, .int 0, .ref m_methods14, .ref m_packed15, .ref m_sizes16, .ref m_sums17, .ref m_datas18, .ref m_locals19, .ref m_localEnds20, .ref m_names21, .ref m_nameSizes22, .ref m_states23, .ref m_starts24, .ref m_counts25, .ref m_written26, .int 0, .int 0, .int 0, .int 0, .ref m_lengths27, .ref m_small28, .ref m_codes29, .ref m_smallCodes30, .int 0, .int 0, .int 0])), (m_tape13, .inl (cM31, 20000, .inl (fun _ => 0))), (q34, .inl (cA35, 1, .inr (.inl (fun _ => 0))))] H := hP
  have hD : va_D A [(q1, .inr (0, [.ref qt2, .ref qd3, .ref qa4, .ref qu5])), (qt2, .inr (1, [.ref qb6, .int 0])), (qb6, .inl (cB9, 20000, .inl (fun _ => 0))), (qd3, .inr (2, [.ref qe7, .int 0, .int 0, .int (-1), .ref qt2])), (qa4, .inr (3, [.int 20000, .int 100, .int 0, .ref qo8, .int (-1)])), (q12, .inr (8, [.ref m_tape13, .int 0, .int 0, .int (-1), .int 20000, .int 100, .int 0, .ref m_methods14, .ref m_packed15, .ref m_sizes16, .ref m_sums17, .ref m_datas18, .ref m_locals19, .ref m_localEnds20, .ref m_names21, .ref m_nameSizes22, .ref m_states23, .ref m_starts24, .ref m_counts25, .ref m_written26, .int 0, .int 0, .int 0, .int 0, .ref m_lengths27, .ref m_small28, .ref m_codes29, .ref m_smallCodes30, .int 0, .int 0, .int 0])), (m_tape13, .inl (cM31, 20000, .inl (fun _ => 0))), (q34, .inl (cA35, 1, .inr (.inl (fun _ => 0))))] := hD
  have hK : va_K D zcl [(cB9, .byte), (cM31, .byte), (cA35, .long)] s := hK
  refine lv_astore_n (lv' := [(3, .ref q34), (2, .ref q12), (1, .ref q1), (0, .ref b)]) hx hb d_L_law_19 rfl hl (by decide) rfl (fun ls hl => ?_)
  refine lv_iconst (v := 0) hx hb d_L_law_20 (by decide) ?_
  refine lv_istore (lv' := [(4, .int 0), (3, .ref q34), (2, .ref q12), (1, .ref q1), (0, .ref b)]) hx hb d_L_law_21 hl (by decide) rfl (fun ls hl => ?_)
  refine lv_iload hx hb d_L_law_23 (lv_at hl 0 rfl) ?_
  refine lv_aload_n hx hb d_L_law_25 rfl (lv_at hl 4 rfl) ?_
  refine va_slen hx hb hX hbl hbA hS d_L_law_26 ?_
  refine lv_bipush (v := 6) hx hb d_L_law_27 (by decide) ?_
  refine lv_isub hx hb d_L_law_29 ?_
  refine lv_icmp_gt (tgt := 752) hx hb d_L_law_30 (by decide) (fun h => absurd h (by decide)) (fun _ => ?_)
  refine lv_aload_n hx hb d_L_law_33 rfl (lv_at hl 4 rfl) ?_
  refine lv_iload hx hb d_L_law_34 (lv_at hl 0 rfl) ?_
  refine va_sld hx hb hX hbl hbA hS (by unfold vp_in; decide) d_L_law_36 ?_
  refine lv_bipush (v := 15) hx hb d_L_law_37 (by decide) ?_
  refine lv_iand hx hb d_L_law_39 ?_
  refine W.widen (k := 178) (n := 131109) (Nat.le_of_ble_eq_true rfl) (Nat.le_of_ble_eq_true rfl) ?_
  have hP := hP.sub (ws' := [(q1, .inr (0, [.ref qt2, .ref qd3, .ref qa4, .ref qu5])), (qt2, .inr (1, [.ref qb6, .int 0])), (qb6, .inl (cB9, 20000, .inl (fun _ => 0))), (qd3, .inr (2, [.ref qe7, .int 0, .int 0, .int (-1), .ref qt2])), (qa4, .inr (3, [.int 20000, .int 100, .int 0, .ref qo8, .int (-1)])), (q12, .inr (8, [.ref m_tape13, .int 0, .int 0, .int (-1), .int 20000, .int 100, .int 0, .ref m_methods14, .ref m_packed15, .ref m_sizes16, .ref m_sums17, .ref m_datas18, .ref m_locals19, .ref m_localEnds20, .ref m_names21, .ref m_nameSizes22, .ref m_states23, .ref m_starts24, .ref m_counts25, .ref m_written26, .int 0, .int 0, .int 0, .int 0, .ref m_lengths27, .ref m_small28, .ref m_codes29, .ref m_smallCodes30, .int 0, .int 0, .int 0])), (m_tape13, .inl (cM31, 20000, .inl (fun _ => 0))), (q34, .inl (cA35, 1, .inr (.inl (fun _ => 0))))]) [0, 1, 2, 3, 4, 5, 6, 7] rfl
  have hD := hD.sub (ws' := [(q1, .inr (0, [.ref qt2, .ref qd3, .ref qa4, .ref qu5])), (qt2, .inr (1, [.ref qb6, .int 0])), (qb6, .inl (cB9, 20000, .inl (fun _ => 0))), (qd3, .inr (2, [.ref qe7, .int 0, .int 0, .int (-1), .ref qt2])), (qa4, .inr (3, [.int 20000, .int 100, .int 0, .ref qo8, .int (-1)])), (q12, .inr (8, [.ref m_tape13, .int 0, .int 0, .int (-1), .int 20000, .int 100, .int 0, .ref m_methods14, .ref m_packed15, .ref m_sizes16, .ref m_sums17, .ref m_datas18, .ref m_locals19, .ref m_localEnds20, .ref m_names21, .ref m_nameSizes22, .ref m_states23, .ref m_starts24, .ref m_counts25, .ref m_written26, .int 0, .int 0, .int 0, .int 0, .ref m_lengths27, .ref m_small28, .ref m_codes29, .ref m_smallCodes30, .int 0, .int 0, .int 0])), (m_tape13, .inl (cM31, 20000, .inl (fun _ => 0))), (q34, .inl (cA35, 1, .inr (.inl (fun _ => 0))))]) [0, 1, 2, 3, 4, 5, 6, 7] (by decide) rfl
  have hK := hK.sub (tys' := [(cB9, .byte), (cM31, .byte), (cA35, .long)]) [0, 1, 2] rfl
  have hl : lv_has ls 7 [(4, .int 0), (3, .ref q34), (2, .ref q12), (1, .ref q1), (0, .ref b)] := lv_sub hl [0, 1, 2, 3, 4] rfl
  obtain ⟨j, hj, ej⟩ := pk_andE (xs (0 : Int32).toNatClampNeg) (m := 15) 4 (by decide)
  rw [ej]
  have hj : j = 0 ∨ j = 1 ∨ j = 2 ∨ j = 3 ∨ j = 4 ∨ j = 5 ∨ j = 6 ∨ j = 7 ∨ j = 8 ∨ j = 9 ∨ j = 10 ∨ j = 11 ∨ j = 12 ∨ j = 13 ∨ j = 14 ∨ j = 15 := by omega
  rcases hj with rfl | rfl | rfl | rfl | rfl | rfl | rfl | rfl | rfl | rfl | rfl | rfl | rfl | rfl | rfl | rfl
  · refine lv_tableIn (off := 64) (tgt := 104) hx hb d_L_law_40 (by decide) (by decide) (by decide) (by decide) ?_
    exact zl_0 hx hb hr hml hown ht hX hbl hlk hl9 hG hA hAe q1 qt2 qd3 qa4 qu5 qb6 qe7 qo8 cB9 q12 m_tape13 m_methods14 m_packed15 m_sizes16 m_sums17 m_datas18 m_locals19 m_localEnds20 m_names21 m_nameSizes22 m_states23 m_starts24 m_counts25 m_written26 m_lengths27 m_small28 m_codes29 m_smallCodes30 cM31 q34 cA35 (xs (1 : Int32).toNatClampNeg) (xs (2 : Int32).toNatClampNeg) (xs (3 : Int32).toNatClampNeg) (xs (4 : Int32).toNatClampNeg) (xs (5 : Int32).toNatClampNeg) rfl rfl rfl rfl rfl hK hP hD hS hl
  · refine lv_tableIn (off := 168) (tgt := 208) hx hb d_L_law_40 (by decide) (by decide) (by decide) (by decide) ?_
    by_cases hbad : (xs (1 : Int32).toNatClampNeg) < 0 ∨ ¬ (xs (1 : Int32).toNatClampNeg) ≤ 0
    · exact zl_1b hx hb hr hml hown ht hX hbl hlk hl9 hG hA hAe q1 qt2 qd3 qa4 qu5 qb6 qe7 qo8 cB9 q12 m_tape13 m_methods14 m_packed15 m_sizes16 m_sums17 m_datas18 m_locals19 m_localEnds20 m_names21 m_nameSizes22 m_states23 m_starts24 m_counts25 m_written26 m_lengths27 m_small28 m_codes29 m_smallCodes30 cM31 q34 cA35 (xs (1 : Int32).toNatClampNeg) rfl hbad hK hP hD hS hl
    · exact zl_1a hx hb hr hml hown ht hX hbl hlk hl9 hG hA hAe q1 qt2 qd3 qa4 qu5 qb6 qe7 qo8 cB9 q12 m_tape13 m_methods14 m_packed15 m_sizes16 m_sums17 m_datas18 m_locals19 m_localEnds20 m_names21 m_nameSizes22 m_states23 m_starts24 m_counts25 m_written26 m_lengths27 m_small28 m_codes29 m_smallCodes30 cM31 q34 cA35 (xs (1 : Int32).toNatClampNeg) rfl (fun h => hbad (Or.inl h)) (Classical.byContradiction fun h => hbad (Or.inr h)) hK hP hD hS hl
  · refine lv_tableIn (off := 204) (tgt := 244) hx hb d_L_law_40 (by decide) (by decide) (by decide) (by decide) ?_
    exact zl_2 hx hb hr hml hown ht hX hbl hlk hl9 hG hA hAe q1 qt2 qd3 qa4 qu5 qb6 qe7 qo8 cB9 q12 m_tape13 m_methods14 m_packed15 m_sizes16 m_sums17 m_datas18 m_locals19 m_localEnds20 m_names21 m_nameSizes22 m_states23 m_starts24 m_counts25 m_written26 m_lengths27 m_small28 m_codes29 m_smallCodes30 cM31 q34 cA35 (xs (1 : Int32).toNatClampNeg) (xs (2 : Int32).toNatClampNeg) rfl rfl (Classical.em _) hK hP hD hS hl
  · refine lv_tableIn (off := 272) (tgt := 312) hx hb d_L_law_40 (by decide) (by decide) (by decide) (by decide) ?_
    exact zl_3 hx hb hr hml hown ht hX hbl hlk hl9 hG hA hAe q1 qt2 qd3 qa4 qu5 qb6 qe7 qo8 cB9 q12 m_tape13 m_methods14 m_packed15 m_sizes16 m_sums17 m_datas18 m_locals19 m_localEnds20 m_names21 m_nameSizes22 m_states23 m_starts24 m_counts25 m_written26 m_lengths27 m_small28 m_codes29 m_smallCodes30 cM31 q34 cA35 hK hP hD hS hl
  · refine lv_tableIn (off := 285) (tgt := 325) hx hb d_L_law_40 (by decide) (by decide) (by decide) (by decide) ?_
    exact zl_4 hx hb hr hml hown ht hX hbl hlk hl9 hG hA hAe q1 qt2 qd3 qa4 qu5 qb6 qe7 qo8 cB9 q12 m_tape13 m_methods14 m_packed15 m_sizes16 m_sums17 m_datas18 m_locals19 m_localEnds20 m_names21 m_nameSizes22 m_states23 m_starts24 m_counts25 m_written26 m_lengths27 m_small28 m_codes29 m_smallCodes30 cM31 q34 cA35 hK hP hD hS hl
  · refine lv_tableIn (off := 298) (tgt := 338) hx hb d_L_law_40 (by decide) (by decide) (by decide) (by decide) ?_
    by_cases hbad : (xs (1 : Int32).toNatClampNeg) < 0 ∨ 40000 < (xs (1 : Int32).toNatClampNeg) ∨ (xs (2 : Int32).toNatClampNeg) < 0 ∨ ¬ (xs (2 : Int32).toNatClampNeg) ≤ 2000
    · exact zl_5b hx hb hr hml hown ht hX hbl hlk hl9 hG hA hAe q1 qt2 qd3 qa4 qu5 qb6 qe7 qo8 cB9 q12 m_tape13 m_methods14 m_packed15 m_sizes16 m_sums17 m_datas18 m_locals19 m_localEnds20 m_names21 m_nameSizes22 m_states23 m_starts24 m_counts25 m_written26 m_lengths27 m_small28 m_codes29 m_smallCodes30 cM31 q34 cA35 (xs (1 : Int32).toNatClampNeg) (xs (2 : Int32).toNatClampNeg) rfl rfl hbad hK hP hD hS hl
    · exact zl_5a hx hb hr hml hown ht hX hbl hlk hl9 hG hA hAe q1 qt2 qd3 qa4 qu5 qb6 qe7 qo8 cB9 q12 m_tape13 m_methods14 m_packed15 m_sizes16 m_sums17 m_datas18 m_locals19 m_localEnds20 m_names21 m_nameSizes22 m_states23 m_starts24 m_counts25 m_written26 m_lengths27 m_small28 m_codes29 m_smallCodes30 cM31 q34 cA35 (xs (1 : Int32).toNatClampNeg) (xs (2 : Int32).toNatClampNeg) rfl rfl (fun h => hbad (Or.inl h)) (fun h => hbad (Or.inr (Or.inl h))) (fun h => hbad (Or.inr (Or.inr (Or.inl h)))) (Classical.byContradiction fun h => hbad (Or.inr (Or.inr (Or.inr h)))) hK hP hD hS hl
  · refine lv_tableIn (off := 346) (tgt := 386) hx hb d_L_law_40 (by decide) (by decide) (by decide) (by decide) ?_
    exact zl_6 hx hb hr hml hown ht hX hbl hlk hl9 hG hA hAe q1 qt2 qd3 qa4 qu5 qb6 qe7 qo8 cB9 q12 m_tape13 m_methods14 m_packed15 m_sizes16 m_sums17 m_datas18 m_locals19 m_localEnds20 m_names21 m_nameSizes22 m_states23 m_starts24 m_counts25 m_written26 m_lengths27 m_small28 m_codes29 m_smallCodes30 cM31 q34 cA35 (xs (1 : Int32).toNatClampNeg) rfl hK hP hD hS hl
  · refine lv_tableIn (off := 402) (tgt := 442) hx hb d_L_law_40 (by decide) (by decide) (by decide) (by decide) ?_
    exact zl_7 hx hb hr hml hown ht hX hbl hlk hl9 hG hA hAe q1 qt2 qd3 qa4 qu5 qb6 qe7 qo8 cB9 q12 m_tape13 m_methods14 m_packed15 m_sizes16 m_sums17 m_datas18 m_locals19 m_localEnds20 m_names21 m_nameSizes22 m_states23 m_starts24 m_counts25 m_written26 m_lengths27 m_small28 m_codes29 m_smallCodes30 cM31 q34 cA35 hK hP hD hS hl
  · refine lv_tableIn (off := 446) (tgt := 486) hx hb d_L_law_40 (by decide) (by decide) (by decide) (by decide) ?_
    exact zl_8 hx hb hr hml hown ht hX hbl hlk hl9 hG hA hAe q1 qt2 qd3 qa4 qu5 qb6 qe7 qo8 cB9 q12 m_tape13 m_methods14 m_packed15 m_sizes16 m_sums17 m_datas18 m_locals19 m_localEnds20 m_names21 m_nameSizes22 m_states23 m_starts24 m_counts25 m_written26 m_lengths27 m_small28 m_codes29 m_smallCodes30 cM31 q34 cA35 (xs (1 : Int32).toNatClampNeg) (xs (2 : Int32).toNatClampNeg) rfl rfl hK hP hD hS hl
  · refine lv_tableIn (off := 514) (tgt := 554) hx hb d_L_law_40 (by decide) (by decide) (by decide) (by decide) ?_
    exact zl_9 hx hb hr hml hown ht hX hbl hlk hl9 hG hA hAe q1 qt2 qd3 qa4 qu5 qb6 qe7 qo8 cB9 q12 m_tape13 m_methods14 m_packed15 m_sizes16 m_sums17 m_datas18 m_locals19 m_localEnds20 m_names21 m_nameSizes22 m_states23 m_starts24 m_counts25 m_written26 m_lengths27 m_small28 m_codes29 m_smallCodes30 cM31 q34 cA35 (xs (1 : Int32).toNatClampNeg) (xs (2 : Int32).toNatClampNeg) rfl rfl hK hP hD hS hl
  · refine lv_tableIn (off := 582) (tgt := 622) hx hb d_L_law_40 (by decide) (by decide) (by decide) (by decide) ?_
    exact zl_10 hx hb hr hml hown ht hX hbl hlk hl9 hG hA hAe q1 qt2 qd3 qa4 qu5 qb6 qe7 qo8 cB9 q12 m_tape13 m_methods14 m_packed15 m_sizes16 m_sums17 m_datas18 m_locals19 m_localEnds20 m_names21 m_nameSizes22 m_states23 m_starts24 m_counts25 m_written26 m_lengths27 m_small28 m_codes29 m_smallCodes30 cM31 q34 cA35 (xs (1 : Int32).toNatClampNeg) (xs (2 : Int32).toNatClampNeg) rfl rfl hK hP hD hS hl
  · refine lv_tableIn (off := 650) (tgt := 690) hx hb d_L_law_40 (by decide) (by decide) (by decide) (by decide) ?_
    by_cases hbad : (xs (1 : Int32).toNatClampNeg).toInt < 0 ∨ 4 < (xs (1 : Int32).toNatClampNeg).toInt
    · exact zl_11_X hx hb hr hml hown ht hX hbl hlk hl9 hG hA hAe q1 qt2 qd3 qa4 qu5 qb6 qe7 qo8 cB9 q12 m_tape13 m_methods14 m_packed15 m_sizes16 m_sums17 m_datas18 m_locals19 m_localEnds20 m_names21 m_nameSizes22 m_states23 m_starts24 m_counts25 m_written26 m_lengths27 m_small28 m_codes29 m_smallCodes30 cM31 q34 cA35 (xs (1 : Int32).toNatClampNeg) rfl hbad (hbad.elim (fun h => Or.inl (Int32.lt_iff_toInt_lt.mpr h)) (fun h => Or.inr (fun h2 => absurd (Int32.le_iff_toInt_le.mp h2) (Int.not_le.mpr h)))) hK hP hD hS hl
    · have h5 : (xs (1 : Int32).toNatClampNeg).toInt = 0 ∨ (xs (1 : Int32).toNatClampNeg).toInt = 1 ∨ (xs (1 : Int32).toNatClampNeg).toInt = 2 ∨ (xs (1 : Int32).toNatClampNeg).toInt = 3 ∨ (xs (1 : Int32).toNatClampNeg).toInt = 4 := by omega
      rcases h5 with h | h | h | h | h
      · exact zl_11_0 hx hb hr hml hown ht hX hbl hlk hl9 hG hA hAe q1 qt2 qd3 qa4 qu5 qb6 qe7 qo8 cB9 q12 m_tape13 m_methods14 m_packed15 m_sizes16 m_sums17 m_datas18 m_locals19 m_localEnds20 m_names21 m_nameSizes22 m_states23 m_starts24 m_counts25 m_written26 m_lengths27 m_small28 m_codes29 m_smallCodes30 cM31 q34 cA35 (Int32.toInt_inj.mp (h.trans (by decide))) hK hP hD hS hl
      · exact zl_11_1 hx hb hr hml hown ht hX hbl hlk hl9 hG hA hAe q1 qt2 qd3 qa4 qu5 qb6 qe7 qo8 cB9 q12 m_tape13 m_methods14 m_packed15 m_sizes16 m_sums17 m_datas18 m_locals19 m_localEnds20 m_names21 m_nameSizes22 m_states23 m_starts24 m_counts25 m_written26 m_lengths27 m_small28 m_codes29 m_smallCodes30 cM31 q34 cA35 (Int32.toInt_inj.mp (h.trans (by decide))) hK hP hD hS hl
      · exact zl_11_2 hx hb hr hml hown ht hX hbl hlk hl9 hG hA hAe q1 qt2 qd3 qa4 qu5 qb6 qe7 qo8 cB9 q12 m_tape13 m_methods14 m_packed15 m_sizes16 m_sums17 m_datas18 m_locals19 m_localEnds20 m_names21 m_nameSizes22 m_states23 m_starts24 m_counts25 m_written26 m_lengths27 m_small28 m_codes29 m_smallCodes30 cM31 q34 cA35 (Int32.toInt_inj.mp (h.trans (by decide))) hK hP hD hS hl
      · exact zl_11_3 hx hb hr hml hown ht hX hbl hlk hl9 hG hA hAe q1 qt2 qd3 qa4 qu5 qb6 qe7 qo8 cB9 q12 m_tape13 m_methods14 m_packed15 m_sizes16 m_sums17 m_datas18 m_locals19 m_localEnds20 m_names21 m_nameSizes22 m_states23 m_starts24 m_counts25 m_written26 m_lengths27 m_small28 m_codes29 m_smallCodes30 cM31 q34 cA35 (Int32.toInt_inj.mp (h.trans (by decide))) hK hP hD hS hl
      · exact zl_11_4 hx hb hr hml hown ht hX hbl hlk hl9 hG hA hAe q1 qt2 qd3 qa4 qu5 qb6 qe7 qo8 cB9 q12 m_tape13 m_methods14 m_packed15 m_sizes16 m_sums17 m_datas18 m_locals19 m_localEnds20 m_names21 m_nameSizes22 m_states23 m_starts24 m_counts25 m_written26 m_lengths27 m_small28 m_codes29 m_smallCodes30 cM31 q34 cA35 (Int32.toInt_inj.mp (h.trans (by decide))) hK hP hD hS hl
  · refine lv_tableOut (tgt := 746) hx hb d_L_law_40 (by decide) (by decide) ?_
    exact zl_tail hx hb hr hml hown ht hX hbl hlk hl9 hG hA hAe hS (lv_sub hl [0, 4] rfl) (Nat.le_of_ble_eq_true rfl) (Nat.le_of_ble_eq_true rfl)
  · refine lv_tableOut (tgt := 746) hx hb d_L_law_40 (by decide) (by decide) ?_
    exact zl_tail hx hb hr hml hown ht hX hbl hlk hl9 hG hA hAe hS (lv_sub hl [0, 4] rfl) (Nat.le_of_ble_eq_true rfl) (Nat.le_of_ble_eq_true rfl)
  · refine lv_tableOut (tgt := 746) hx hb d_L_law_40 (by decide) (by decide) ?_
    exact zl_tail hx hb hr hml hown ht hX hbl hlk hl9 hG hA hAe hS (lv_sub hl [0, 4] rfl) (Nat.le_of_ble_eq_true rfl) (Nat.le_of_ble_eq_true rfl)
  · refine lv_tableOut (tgt := 746) hx hb d_L_law_40 (by decide) (by decide) ?_
    exact zl_tail hx hb hr hml hown ht hX hbl hlk hl9 hG hA hAe hS (lv_sub hl [0, 4] rfl) (Nat.le_of_ble_eq_true rfl) (Nat.le_of_ble_eq_true rfl)
/-- what holds at the law's entry: the machine, the code, the tables' words (any of lw_tbl by 'hts w (by decide +kernel)'), the script of L ints xs at the cell b, what the Statement gives of the start (any of its parts by flat_of_before) -/
def lw_At (p : Program) (s : State) (m : MethodId) (meth : Method) (c : Code) (b L : Nat) (xs : Nat → Int32) : Prop :=
  p.tables.exec = Jvm.exec ∧ c.code = code ∧ meth.sig.returnType = ret ∧ c.maxLocals = 7 ∧ s.vm.findClass R_law = some m.cls ∧ (∀ w ∈ lw_tbl, w.before #[Value.ref b] s = true) ∧ va_X b L xs s s.heap ∧ b < s.heap.size ∧ meth.locks = false ∧ (Jvm.Cond.and given_1 narrow_1).before #[Value.ref b] s = true
theorem zG_start {args : Array Value} {s : State} (hts : ∀ w ∈ lw_tbl, w.before args s = true) (hgv : (Jvm.Cond.and given_1 narrow_1).before args s = true) : zG s := by
  have hs := flat_of_before _ hgv
  intro a
  refine ⟨fun w hw => ?_, fun w hw => ?_, fun q hq => ?_⟩
  · simp only [zbadC, List.mem_cons, List.not_mem_nil, or_false] at hw
    rcases hw with rfl | rfl | rfl
    · exact zcast_keep (Vm.Alike.refl s.vm) (hts _ (by decide +kernel))
    · exact zcast_keep (Vm.Alike.refl s.vm) (hts _ (by decide +kernel))
    · exact zcast_keep (Vm.Alike.refl s.vm) (hts _ (by decide +kernel))
  · simp only [zbadD, List.mem_cons, List.not_mem_nil, or_false] at hw
    rcases hw with rfl | rfl | rfl
    · exact zdecl_keep (Vm.Alike.refl s.vm) (hts _ (by decide +kernel))
    · exact zdecl_keep (Vm.Alike.refl s.vm) (hts _ (by decide +kernel))
    · exact zdecl_keep (Vm.Alike.refl s.vm) (hts _ (by decide +kernel))
  · simp only [zbadS, List.mem_cons, List.not_mem_nil, or_false] at hq
    rcases hq with rfl | rfl
    · exact zstat_keep (Vm.Alike.refl s.vm) (fun _ _ => rfl) (hts _ (by decide +kernel)) (hs _ (by decide +kernel))
    · exact zstat_keep (Vm.Alike.refl s.vm) (fun _ _ => rfl) (hts _ (by decide +kernel)) (hs _ (by decide +kernel))
theorem zK_start {args : Array Value} {s : State} (ht : ∀ w ∈ zt, w.before args s = true) : ∃ D : va_G, va_K D zcl [] s := by
  obtain ⟨c0, i0, k0⟩ := u_known ht zi_G (ht _ zm_82)
  obtain ⟨c1, i1, k1⟩ := u_known ht zi_T (ht _ zm_90)
  obtain ⟨c2, i2, k2⟩ := u_known ht zi_D (ht _ zm_107)
  obtain ⟨c3, i3, k3⟩ := u_known ht zi_A (ht _ zm_200)
  obtain ⟨c4, i4, k4⟩ := u_known ht zi_U (ht _ zm_226)
  obtain ⟨c5, i5, k5⟩ := u_known ht zi_B (ht _ zm_232)
  obtain ⟨c6, i6, k6⟩ := u_known ht zi_C (ht _ zm_251)
  obtain ⟨c7, i7, k7⟩ := u_known ht zi_E (ht _ zm_113)
  obtain ⟨c8, i8, k8⟩ := u_known ht zi_M (ht _ zm_746)
  refine ⟨(fun i => ([c0, c1, c2, c3, c4, c5, c6, c7, c8] : List ClassId).getD i 0, fun i => ([i0, i1, i2, i3, i4, i5, i6, i7, i8] : List (Nat → Nat)).getD i (fun _ => 0)), fun c q hq => ?_, fun k q hk => by simp at hk⟩
  have hc : c < 9 := (List.getElem?_eq_some_iff.mp hq).1
  have h : c = 0 ∨ c = 1 ∨ c = 2 ∨ c = 3 ∨ c = 4 ∨ c = 5 ∨ c = 6 ∨ c = 7 ∨ c = 8 := by omega
  rcases h with rfl | rfl | rfl | rfl | rfl | rfl | rfl | rfl | rfl
  · cases hq; exact k0
  · cases hq; exact k1
  · cases hq; exact k2
  · cases hq; exact k3
  · cases hq; exact k4
  · cases hq; exact k5
  · cases hq; exact k6
  · cases hq; exact k7
  · cases hq; exact k8
set_option maxHeartbeats 4000000 in
theorem whole_start {p : Program} {e : Env} {s : State} {m : MethodId} {below : List Frame} {meth : Method} {c : Code} (l : Launch) (hl9 : l.stackTraces = false) {b L : Nat} {xs : Nat → Int32} (hL : L ≤ 6) (C0 : lw_At p s m meth c b L xs) : W p l e room_1 s m #[Value.ref b] below meth c s.heap [] 0 0 (lw_Z below #[Value.ref b] s) (entryFrame m ([Value.ref b] : List Value).toArray 7) := by
  obtain ⟨hx, hb, hr, hml, hown, hts, hX, hbl, hlk, hgv⟩ := C0
  have ht : ∀ w ∈ zt, w.before #[Value.ref b] s = true := fun w h => hts w (zt_in w h)
  have hG : zG s := zG_start hts hgv
  have hAO : va_AO "ZipGuard$Entry" s := va_AO.of (hts (.arrayOver (.object "ZipGuard$Entry")) (by decide +kernel))
  obtain ⟨D, hK⟩ := zK_start ht
  have hl := lv_entry ([.ref b]) (n := 7) (Nat.le_of_ble_eq_true rfl)
  rw [lg_entry_eq]
  generalize (lg_sl ([.ref b]) ++ List.replicate (7 - (lg_sl ([.ref b])).length) Slot.unset).toArray = ls at hl ⊢
  have hl : lv_has ls 7 [(0, .ref b)] := hl
  have hP : va_P D zcl [] s.heap := fun k q h => by simp at h
  have hD : va_D (fun q => s.heap.size ≤ q) [] := ⟨fun i j p q h => by simp at h, fun k q h => by simp at h⟩
  by_cases h6 : L = 6
  · subst h6
    exact zl_full hx hb hr hml hown ht hX hbl hlk hl9 hG (fun q h => h) (fun q h => h) hAO hK hP hD va_S.rf hl
  · exact zl_short hx hb hr hml hown ht hX hbl hlk hl9 hG (fun q h => h) (fun q h => h) hAO (by omega) hK hP hD va_S.rf hl
set_option maxHeartbeats 4000000 in
theorem lw_walk (l : Launch) (hl9 : l.stackTraces = false) (b : Addr) (xs : List Int32) : MetFree l x (headSpec (Jvm.Cond.code x code maxLocals ret :: tables_1) room_1) (lw_P b xs) (fun _ _ _ _ _ => True) lw_Q := by
  refine MetFree.of_bodyS (code := code) (maxLocals := maxLocals) (ret := ret) (by decide) ?_ ?_
  · intro args s m h hn
    obtain ⟨meth, c, h1, h2, h3, h4, h5, h6, -, -⟩ := Cond.code_spec hn (atoms_spec (ws := Jvm.Cond.code x code maxLocals ret :: tables_1) h _ List.mem_cons_self)
    exact ⟨meth, c, h1, h2, h3, h4, h5, h6⟩
  · intro p e s m args below meth c s₁ B hml0 hP _
    obtain ⟨rfl, hx, hbd, hgv⟩ := hP
    obtain ⟨scr, harrAt, hlist, hof, hsmall⟩ := hx
    obtain ⟨hcb, hkn, -, -⟩ := State.arrayAt?_spec harrAt
    have hown : s.vm.findClass R_law = some m.cls := findClass_of_methodNamed B.named
    have hts0 : ∀ c ∈ (Jvm.Cond.code x code maxLocals ret :: tables_1), c.before #[Value.ref b] s = true := atoms_spec (ws := Jvm.Cond.code x code maxLocals ret :: tables_1) B.pre
    have hts : ∀ w ∈ lw_tbl, w.before #[Value.ref b] s = true := k2_hts_sels lw_privs (fun w hw => hts0 w (List.mem_cons_of_mem _ hw)) lw_privs_ok
    have hml : c.maxLocals = 7 := B.maxLocals_eq (hts0 _ List.mem_cons_self)
    have X₀ : Stand p l e room_1 s m #[Value.ref b] below meth c s₁ [] 0 0 := Stand.of_body B
    have hh0 : s₁.heap = s.heap := by rw [B.state]; rfl
    have hsz : scr.slots.size = xs.length := by rw [← Array.length_toList, hlist, List.length_map]
    have hval : ∀ j : Nat, j < xs.length → scr.slots[j]? = some (.int (xs.getD j 0)) := fun j hj => by
      rw [← Array.getElem?_toList, hlist]
      simp [hj]
    have hbl : b < s.heap.size := (Array.getElem?_eq_some_iff.mp hcb).1
    have hX : va_X b xs.length (fun j => xs.getD j 0) s s.heap := ⟨scr, hcb, hof, hkn, hsz, hval⟩
    have K : W p l e room_1 s m #[Value.ref b] below meth c s₁.heap [] 0 0 (lw_Z below #[Value.ref b] s) (entryFrame m ([Value.ref b] : List Value).toArray 7) := by
      rw [hh0]
      exact whole_start l hl9 hbd ⟨B.exec, B.bytes, B.returns, hml, hown, hts, hX, hbl, B.notSynchronized, hgv⟩
    obtain ⟨t, a1, o, b1, b2, b3⟩ := K s₁ rfl X₀
    exact ⟨t, o, a1, b1, b2, b3⟩
theorem lw_pre_spec {args : Array Value} {s : State} (h : (Jvm.Cond.and given_1 narrow_1).before args s = true) (hr : rest_1_c.before args s = true) : ∃ (b : Addr) (xs : List Int32), lw_P b xs args s := by
  have hs := flat_of_before _ h
  have hq := flat_of_before _ hr
  have hc : (Cond.count 1).before args s = true := hs _ (by decide +kernel)
  have harr : (Cond.arrayOf (.arg 0) .int).before args s = true := hs _ (by decide +kernel)
  have hle : (Cond.le (.length (.arg 0)) (.int 6)).before args s = true := hs _ (by decide +kernel)
  have hlen : (Cond.isInt (.length (.arg 0))).before args s = true := hq _ (by decide +kernel)
  have hall : (Cond.all (.arg 0) (.isInt (.elem (.arg 0) (.index 0)))).before args s = true := hq _ (by decide +kernel)
  obtain ⟨b, xs, hb, hx⟩ := State.ints_of_pre rfl harr hlen hall
  have hsm : xs.length < 2 ^ 31 := hx.choose_spec.2.2.2
  have hev : (Term.length (.arg 0)).eval args s none [] s = some (.int xs.length.toInt32) := hx.length_eval hb
  have hv := Cond.le_ints hev (show (Term.int 6).eval args s none [] s = some (.int 6) from rfl)
  have hd : xs.length.toInt32 ≤ 6 := by
    simpa [Cond.before, Cond.holds, hv] using hle
  have hN : xs.length ≤ 6 := (Int32.ofNat_le_ofNat hsm (by decide)).mp (show Int32.ofNat xs.length ≤ Int32.ofNat 6 from hd)
  exact ⟨b, xs, Cond.one_arg hc (show args[0]? = some (.ref b) from hb), hx, hN, h⟩
theorem lw_comes (l : Launch) (hl9 : l.stackTraces = false) : Comes l x (Jvm.Cond.code x code maxLocals ret :: tables_1) room_1 (fun tb e args s => Calls_1 tb e args s ∧ rest_1 tb e args s ∧ Pre_1 tb e args s)
    (fun _ _ args s o t => lw_Q args s o t) := by
  intro p e ha hc hk s m args below hf hfit hheap happ hpre
  obtain ⟨b, xs, hP⟩ := lw_pre_spec hpre.2.2 hpre.2.1
  obtain ⟨k, o, h1, h2, h3, hQ⟩ := lw_walk l hl9 b xs p e ha hc hk s m args below hf ((Spec.applies_iff_loose hf).mp happ).1 hP trivial
  exact ⟨k, o, h1, h2, h3, hQ⟩
theorem lw_frame {s t : State} {o : Outcome} {args : Array Value} (h : Framed s o t [] 600002 7302232) :
    Framed s o t (fieldLocs frame_1_writes args s ++ arrayLocs frame_1_arrays args s ++ staticLocs frame_1_statics s) 600002 7302232 := h
theorem lw_limb (L : Cond) (hL : ∀ (args : Array Value) (s t : State), L.after args s (.returned (some (.int 1))) t = true) :
    ArmFor flags0 classFile x code maxLocals ret World_1 tables_1 room_1 Calls_1 rest_1 Pre_1
      (fun tb e a s o t => postC L tb e a s o t ∧ Framed s o t (fieldLocs frame_1_writes a s ++ arrayLocs frame_1_arrays a s ++ staticLocs frame_1_statics s) 600002 7302232) := by
  intro l hfl _ _ p e ha hc hk s m args below hf hfit hheap happ hpre
  have hl9 : l.stackTraces = false := by
    unfold Launch.stackTraces
    rw [hfl]
    decide +kernel
  obtain ⟨k, o, h1, h2, h3, rfl, hF⟩ := lw_comes l hl9 p e ha hc hk s m args below hf hfit hheap happ hpre
  exact ⟨k, _, h1, h2, h3, hL args s _, lw_frame hF⟩
theorem i_vc : Claimed_1_1 ∧ Claimed_1_2 := ⟨lw_limb limb_1_1 (fun args s t => by simp [limb_1_1, Cond.after, Cond.holds, Cond.value]), lw_limb limb_1_2 (fun args s t => Cond.after_iff.mpr (by
  first | (rw [show limb_1_2 = Cond.eq .result (.int 1) from rfl, Cond.eq_ints (x := 1) (y := 1) rfl rfl]; simp; done) | (simp [limb_1_2, Cond.value, Term.eval]; done)))⟩
