set_option maxRecDepth 100000 in
theorem zm_82 : Jvm.Cond.instantiable "ZipGuard" (4 : Nat) ∈ zt := zt_m1 (List.mem_of_getElem? (i := 18) rfl)
set_option maxRecDepth 100000 in
theorem zm_746 : Jvm.Cond.instantiable "ZipGuardModel" (31 : Nat) ∈ zt := zt_m5 (List.mem_of_getElem? (i := 16) rfl)
def R_law : String := "ZipGuardLaw"
def lw_P (b : Addr) (xs : List Int32) (args : Array Value) (s : State) : Prop := args = #[.ref b] ∧ s.IntsAt b xs ∧ xs.length ≤ 3072 ∧ (Jvm.Cond.and given_1 narrow_1).before args s = true
def lw_Q (_ : Array Value) (s : State) (o : Outcome) (t : State) : Prop := o = .returned (some (.int 1)) ∧ Framed s o t [] 601024 7293034
def lw_Z (below : List Frame) (a : Array Value) (s : State) : State → Prop := fun t => ∃ o, t.status = .running ∧ Ended t below o ∧ lw_Q a s o t
/-- the law's own end, with 1 on the stack, nothing written that was there before, its room as the claim has it -/
theorem lw_ret {p : Program} {l : Launch} {e : Env} {s : State} {m : MethodId} {below : List Frame} {meth : Method} {c : Code} {b : Nat} (hx : p.tables.exec = Jvm.exec) (hb : c.code = code) (hr : meth.sig.returnType = ret) (hlocks : meth.locks = false) {pc : Nat} {H : Heap} {ls : Array Slot} (hdg : decode code pc = .ok (.ireturn, 1)) : W p l e room_1 s m #[Value.ref b] below meth c H [] 601024 7293034 (lw_Z below #[Value.ref b] s) (F0 m pc ls [.int 1]) := by
  intro T hT X
  obtain ⟨fs, hret, hrun, hended, hW, hframe⟩ := X.leave (v := some (.int 1)) (hlocks := hlocks) (fun h => by rw [hr] at h; cases h)
  have hmeth' : T.vm.method? m = some meth := X.method'
  refine ⟨T.setFrames fs, ?_, .returned (some (.int 1)), hrun, hended, rfl, ⟨_, rfl⟩, hW, hframe⟩
  jvm_step X.here [X.here.top, hx, hb, hdg, hmeth', hr, ret, narrow_b1]
  (try refine ⟨rfl, ?_⟩); (try refine ⟨rfl, ?_⟩)
  first | (intro acts; rw [hret _ acts rfl rfl rfl]) | rw [hret _ _ rfl rfl rfl]
  exact Steps.refl _
/-- what holds at the law's entry: the machine, the code, the tables' words (any of lw_tbl by 'hts w (by decide +kernel)'), the script of L ints xs at the cell b, what the Statement gives of the start (any of its parts by flat_of_before) -/
def lw_At (p : Program) (s : State) (m : MethodId) (meth : Method) (c : Code) (b L : Nat) (xs : Nat → Int32) : Prop :=
  p.tables.exec = Jvm.exec ∧ c.code = code ∧ meth.sig.returnType = ret ∧ c.maxLocals = 7 ∧ s.vm.findClass R_law = some m.cls ∧ (∀ w ∈ lw_tbl, w.before #[Value.ref b] s = true) ∧ va_X b L xs s s.heap ∧ b < s.heap.size ∧ meth.locks = false ∧ (Jvm.Cond.and given_1 narrow_1).before #[Value.ref b] s = true
theorem zG_start {args : Array Value} {s : State} (hts : ∀ w ∈ lw_tbl, w.before args s = true) (hgv : (Jvm.Cond.and given_1 narrow_1).before args s = true) : zG s := by
  have hs := flat_of_before _ hgv
  intro a
  refine ⟨fun w hw => ?_, fun w hw => ?_, fun q hq => ?_⟩
  · simp only [zbadC, List.mem_cons, List.not_mem_nil, or_false] at hw
    rcases hw with rfl | rfl | rfl
    · exact zcast_keep (Vm.Alike.refl s.vm) (hts _ (by decide +kernel))
    · exact zcast_keep (Vm.Alike.refl s.vm) (hts _ (by decide +kernel))
    · exact zcast_keep (Vm.Alike.refl s.vm) (hts _ (by decide +kernel))
  · simp only [zbadD, List.mem_cons, List.not_mem_nil, or_false] at hw
    rcases hw with rfl | rfl | rfl
    · exact zdecl_keep (Vm.Alike.refl s.vm) (hts _ (by decide +kernel))
    · exact zdecl_keep (Vm.Alike.refl s.vm) (hts _ (by decide +kernel))
    · exact zdecl_keep (Vm.Alike.refl s.vm) (hts _ (by decide +kernel))
  · simp only [zbadS, List.mem_cons, List.not_mem_nil, or_false] at hq
    rcases hq with rfl | rfl
    · exact zstat_keep (Vm.Alike.refl s.vm) (fun _ _ => rfl) (hts _ (by decide +kernel)) (hs _ (by decide +kernel))
    · exact zstat_keep (Vm.Alike.refl s.vm) (fun _ _ => rfl) (hts _ (by decide +kernel)) (hs _ (by decide +kernel))
theorem zNo_start {args : Array Value} {s : State} (hgv : (Jvm.Cond.and given_1 narrow_1).before args s = true) : zNo s := fun a q hq => by
  have hs := flat_of_before _ hgv
  simp only [zneg, List.mem_cons, List.not_mem_nil, or_false] at hq
  have hm : ∀ (x y : String), (Cond.not (.castable x y)).before args s = true → (Cond.not (.castable x y)).before a s = true := fun x y h => by
    simp only [Cond.before, Cond.holds, Cond.value] at h ⊢
    exact h
  rcases hq with rfl | rfl | rfl
  · exact hm _ _ (hs _ (by decide +kernel))
  · exact hm _ _ (hs _ (by decide +kernel))
  · exact hm _ _ (hs _ (by decide +kernel))
theorem zK_start {args : Array Value} {s : State} (ht : ∀ w ∈ zt, w.before args s = true) : ∃ D : va_G, va_K D zcl [] s := by
  obtain ⟨c0, i0, k0⟩ := u_known ht zi_G (ht _ zm_82)
  obtain ⟨c1, i1, k1⟩ := u_known ht zi_T (ht _ zm_90)
  obtain ⟨c2, i2, k2⟩ := u_known ht zi_D (ht _ zm_107)
  obtain ⟨c3, i3, k3⟩ := u_known ht zi_A (ht _ zm_200)
  obtain ⟨c4, i4, k4⟩ := u_known ht zi_U (ht _ zm_226)
  obtain ⟨c5, i5, k5⟩ := u_known ht zi_B (ht _ zm_232)
  obtain ⟨c6, i6, k6⟩ := u_known ht zi_C (ht _ zm_251)
  obtain ⟨c7, i7, k7⟩ := u_known ht zi_E (ht _ zm_113)
  obtain ⟨c8, i8, k8⟩ := u_known ht zi_M (ht _ zm_746)
  refine ⟨(fun i => ([c0, c1, c2, c3, c4, c5, c6, c7, c8] : List ClassId).getD i 0, fun i => ([i0, i1, i2, i3, i4, i5, i6, i7, i8] : List (Nat → Nat)).getD i (fun _ => 0)), fun c q hq => ?_, fun k q hk => by simp at hk⟩
  have hc : c < 9 := (List.getElem?_eq_some_iff.mp hq).1
  have h : c = 0 ∨ c = 1 ∨ c = 2 ∨ c = 3 ∨ c = 4 ∨ c = 5 ∨ c = 6 ∨ c = 7 ∨ c = 8 := by omega
  rcases h with rfl | rfl | rfl | rfl | rfl | rfl | rfl | rfl | rfl
  · cases hq; exact k0
  · cases hq; exact k1
  · cases hq; exact k2
  · cases hq; exact k3
  · cases hq; exact k4
  · cases hq; exact k5
  · cases hq; exact k6
  · cases hq; exact k7
  · cases hq; exact k8
theorem zsub_all {l1 l2 : List Cond} {P : Cond → Prop} (h : ∀ w ∈ l2, P w) (q : l1.isSublist l2 = true) : ∀ w ∈ l1, P w := fun w hw => h w ((List.isSublist_iff_sublist.mp q).subset hw)
theorem zTab_0 {args : Array Value} {s : State} (hts : ∀ w ∈ lw_tbl, w.before args s = true) (hgv : (Jvm.Cond.and given_1 narrow_1).before args s = true) {A : Nat → Prop} (hA : ∀ a : Nat, a < s.heap.size → ¬ A a) : ∃ t : Nat, va_Z "ZipGuard$Target" "HALF_BYTE_SUMS" "[I" (.ref t) A s s.heap ∧ va_T .int t 16 (fun j => .int (ztab_0.getD j 0)) A s s.heap := by
  have hs := flat_of_before _ hgv
  have hq := zsub_all (l1 := (List.range 16).map (fun j => Cond.eq (.elem (.static "ZipGuard$Target" "HALF_BYTE_SUMS" "[I") (.int (Int32.ofNat j))) (.int (ztab_0.getD j 0)))) hs (by decide +kernel)
  have hel : ∀ j : Nat, j < 16 → (Cond.eq (.elem (.static "ZipGuard$Target" "HALF_BYTE_SUMS" "[I") (.int (Int32.ofNat j))) (.int (ztab_0.getD j 0))).before args s = true := fun j hj => hq _ (List.mem_map.mpr ⟨j, List.mem_range.mpr hj, rfl⟩)
  obtain ⟨t, h1, h2⟩ := va_Tof (tm := (.static "ZipGuard$Target" "HALF_BYTE_SUMS" "[I")) (ty := .int) (N := 16) (f := fun j => .int (ztab_0.getD j 0)) (A := A) (by decide) (hs _ (by decide +kernel)) (va_eqt (z := 16) (hs _ (by decide +kernel))) (fun j hj => va_eqt (hel j hj)) hA
  exact ⟨t, va_Zref (hts _ (by decide +kernel)) (hts _ (by decide +kernel)) h1 hA, h2⟩
theorem zTab_1 {args : Array Value} {s : State} (hts : ∀ w ∈ lw_tbl, w.before args s = true) (hgv : (Jvm.Cond.and given_1 narrow_1).before args s = true) {A : Nat → Prop} (hA : ∀ a : Nat, a < s.heap.size → ¬ A a) : ∃ t : Nat, va_Z "ZipGuard$Unpacker" "ORDER_OF_LENGTH_CODES" "[I" (.ref t) A s s.heap ∧ va_T .int t 19 (fun j => .int (ztab_1.getD j 0)) A s s.heap := by
  have hs := flat_of_before _ hgv
  have hq := zsub_all (l1 := (List.range 19).map (fun j => Cond.eq (.elem (.static "ZipGuard$Unpacker" "ORDER_OF_LENGTH_CODES" "[I") (.int (Int32.ofNat j))) (.int (ztab_1.getD j 0)))) hs (by decide +kernel)
  have hel : ∀ j : Nat, j < 19 → (Cond.eq (.elem (.static "ZipGuard$Unpacker" "ORDER_OF_LENGTH_CODES" "[I") (.int (Int32.ofNat j))) (.int (ztab_1.getD j 0))).before args s = true := fun j hj => hq _ (List.mem_map.mpr ⟨j, List.mem_range.mpr hj, rfl⟩)
  obtain ⟨t, h1, h2⟩ := va_Tof (tm := (.static "ZipGuard$Unpacker" "ORDER_OF_LENGTH_CODES" "[I")) (ty := .int) (N := 19) (f := fun j => .int (ztab_1.getD j 0)) (A := A) (by decide) (hs _ (by decide +kernel)) (va_eqt (z := 19) (hs _ (by decide +kernel))) (fun j hj => va_eqt (hel j hj)) hA
  exact ⟨t, va_Zref (hts _ (by decide +kernel)) (hts _ (by decide +kernel)) h1 hA, h2⟩
theorem zTab_2 {args : Array Value} {s : State} (hts : ∀ w ∈ lw_tbl, w.before args s = true) (hgv : (Jvm.Cond.and given_1 narrow_1).before args s = true) {A : Nat → Prop} (hA : ∀ a : Nat, a < s.heap.size → ¬ A a) : ∃ t : Nat, va_Z "ZipGuard$Unpacker" "LENGTHS" "[I" (.ref t) A s s.heap ∧ va_T .int t 29 (fun j => .int (ztab_2.getD j 0)) A s s.heap := by
  have hs := flat_of_before _ hgv
  have hq := zsub_all (l1 := (List.range 29).map (fun j => Cond.eq (.elem (.static "ZipGuard$Unpacker" "LENGTHS" "[I") (.int (Int32.ofNat j))) (.int (ztab_2.getD j 0)))) hs (by decide +kernel)
  have hel : ∀ j : Nat, j < 29 → (Cond.eq (.elem (.static "ZipGuard$Unpacker" "LENGTHS" "[I") (.int (Int32.ofNat j))) (.int (ztab_2.getD j 0))).before args s = true := fun j hj => hq _ (List.mem_map.mpr ⟨j, List.mem_range.mpr hj, rfl⟩)
  obtain ⟨t, h1, h2⟩ := va_Tof (tm := (.static "ZipGuard$Unpacker" "LENGTHS" "[I")) (ty := .int) (N := 29) (f := fun j => .int (ztab_2.getD j 0)) (A := A) (by decide) (hs _ (by decide +kernel)) (va_eqt (z := 29) (hs _ (by decide +kernel))) (fun j hj => va_eqt (hel j hj)) hA
  exact ⟨t, va_Zref (hts _ (by decide +kernel)) (hts _ (by decide +kernel)) h1 hA, h2⟩
theorem zTab_3 {args : Array Value} {s : State} (hts : ∀ w ∈ lw_tbl, w.before args s = true) (hgv : (Jvm.Cond.and given_1 narrow_1).before args s = true) {A : Nat → Prop} (hA : ∀ a : Nat, a < s.heap.size → ¬ A a) : ∃ t : Nat, va_Z "ZipGuard$Unpacker" "LENGTH_BITS" "[I" (.ref t) A s s.heap ∧ va_T .int t 29 (fun j => .int (ztab_3.getD j 0)) A s s.heap := by
  have hs := flat_of_before _ hgv
  have hq := zsub_all (l1 := (List.range 29).map (fun j => Cond.eq (.elem (.static "ZipGuard$Unpacker" "LENGTH_BITS" "[I") (.int (Int32.ofNat j))) (.int (ztab_3.getD j 0)))) hs (by decide +kernel)
  have hel : ∀ j : Nat, j < 29 → (Cond.eq (.elem (.static "ZipGuard$Unpacker" "LENGTH_BITS" "[I") (.int (Int32.ofNat j))) (.int (ztab_3.getD j 0))).before args s = true := fun j hj => hq _ (List.mem_map.mpr ⟨j, List.mem_range.mpr hj, rfl⟩)
  obtain ⟨t, h1, h2⟩ := va_Tof (tm := (.static "ZipGuard$Unpacker" "LENGTH_BITS" "[I")) (ty := .int) (N := 29) (f := fun j => .int (ztab_3.getD j 0)) (A := A) (by decide) (hs _ (by decide +kernel)) (va_eqt (z := 29) (hs _ (by decide +kernel))) (fun j hj => va_eqt (hel j hj)) hA
  exact ⟨t, va_Zref (hts _ (by decide +kernel)) (hts _ (by decide +kernel)) h1 hA, h2⟩
theorem zTab_4 {args : Array Value} {s : State} (hts : ∀ w ∈ lw_tbl, w.before args s = true) (hgv : (Jvm.Cond.and given_1 narrow_1).before args s = true) {A : Nat → Prop} (hA : ∀ a : Nat, a < s.heap.size → ¬ A a) : ∃ t : Nat, va_Z "ZipGuard$Unpacker" "DISTANCES" "[I" (.ref t) A s s.heap ∧ va_T .int t 30 (fun j => .int (ztab_4.getD j 0)) A s s.heap := by
  have hs := flat_of_before _ hgv
  have hq := zsub_all (l1 := (List.range 30).map (fun j => Cond.eq (.elem (.static "ZipGuard$Unpacker" "DISTANCES" "[I") (.int (Int32.ofNat j))) (.int (ztab_4.getD j 0)))) hs (by decide +kernel)
  have hel : ∀ j : Nat, j < 30 → (Cond.eq (.elem (.static "ZipGuard$Unpacker" "DISTANCES" "[I") (.int (Int32.ofNat j))) (.int (ztab_4.getD j 0))).before args s = true := fun j hj => hq _ (List.mem_map.mpr ⟨j, List.mem_range.mpr hj, rfl⟩)
  obtain ⟨t, h1, h2⟩ := va_Tof (tm := (.static "ZipGuard$Unpacker" "DISTANCES" "[I")) (ty := .int) (N := 30) (f := fun j => .int (ztab_4.getD j 0)) (A := A) (by decide) (hs _ (by decide +kernel)) (va_eqt (z := 30) (hs _ (by decide +kernel))) (fun j hj => va_eqt (hel j hj)) hA
  exact ⟨t, va_Zref (hts _ (by decide +kernel)) (hts _ (by decide +kernel)) h1 hA, h2⟩
theorem zTab_5 {args : Array Value} {s : State} (hts : ∀ w ∈ lw_tbl, w.before args s = true) (hgv : (Jvm.Cond.and given_1 narrow_1).before args s = true) {A : Nat → Prop} (hA : ∀ a : Nat, a < s.heap.size → ¬ A a) : ∃ t : Nat, va_Z "ZipGuard$Unpacker" "DISTANCE_BITS" "[I" (.ref t) A s s.heap ∧ va_T .int t 30 (fun j => .int (ztab_5.getD j 0)) A s s.heap := by
  have hs := flat_of_before _ hgv
  have hq := zsub_all (l1 := (List.range 30).map (fun j => Cond.eq (.elem (.static "ZipGuard$Unpacker" "DISTANCE_BITS" "[I") (.int (Int32.ofNat j))) (.int (ztab_5.getD j 0)))) hs (by decide +kernel)
  have hel : ∀ j : Nat, j < 30 → (Cond.eq (.elem (.static "ZipGuard$Unpacker" "DISTANCE_BITS" "[I") (.int (Int32.ofNat j))) (.int (ztab_5.getD j 0))).before args s = true := fun j hj => hq _ (List.mem_map.mpr ⟨j, List.mem_range.mpr hj, rfl⟩)
  obtain ⟨t, h1, h2⟩ := va_Tof (tm := (.static "ZipGuard$Unpacker" "DISTANCE_BITS" "[I")) (ty := .int) (N := 30) (f := fun j => .int (ztab_5.getD j 0)) (A := A) (by decide) (hs _ (by decide +kernel)) (va_eqt (z := 30) (hs _ (by decide +kernel))) (fun j hj => va_eqt (hel j hj)) hA
  exact ⟨t, va_Zref (hts _ (by decide +kernel)) (hts _ (by decide +kernel)) h1 hA, h2⟩
theorem zTab_start {args : Array Value} {s : State} (hts : ∀ w ∈ lw_tbl, w.before args s = true) (hgv : (Jvm.Cond.and given_1 narrow_1).before args s = true) {A : Nat → Prop} (hA : ∀ a : Nat, a < s.heap.size → ¬ A a) : zTab A s := fun x hx => by
  simp only [zTabs, List.mem_cons, List.not_mem_nil, or_false] at hx
  rcases hx with rfl | rfl | rfl | rfl | rfl | rfl
  · exact zTab_0 hts hgv hA
  · exact zTab_1 hts hgv hA
  · exact zTab_2 hts hgv hA
  · exact zTab_3 hts hgv hA
  · exact zTab_4 hts hgv hA
  · exact zTab_5 hts hgv hA
