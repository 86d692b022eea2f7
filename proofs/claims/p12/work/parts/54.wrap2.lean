/-! wrappers: further rows of a table, the tables' contents and more as premises, calls with the pool -/
theorem zexc2 {c : Code} {a b h k a1 b1 h1 k1 : Nat} {hh : List (Nat × Nat × Nat × Nat)} (hm : c.exceptionTable.toList.map (fun h => (h.startPc, h.endPc, h.handlerPc, h.catchType)) = (a, b, h, k) :: (a1, b1, h1, k1) :: hh) :
    ∃ (x x1 : ExceptionTableEntry) (suf : List ExceptionTableEntry), c.exceptionTable.toList = x :: x1 :: suf ∧ (x.startPc = a ∧ x.endPc = b ∧ x.handlerPc = h ∧ x.catchType = k) ∧ (x1.startPc = a1 ∧ x1.endPc = b1 ∧ x1.handlerPc = h1 ∧ x1.catchType = k1) := by
  cases hl : c.exceptionTable.toList with
  | nil => rw [hl] at hm; cases hm
  | cons x suf =>
    cases suf with
    | nil => rw [hl] at hm; simp at hm
    | cons x1 suf =>
      rw [hl] at hm
      simp only [List.map_cons, List.cons.injEq, Prod.mk.injEq] at hm
      exact ⟨x, x1, suf, rfl, ⟨hm.1.1, hm.1.2.1, hm.1.2.2.1, hm.1.2.2.2⟩, ⟨hm.2.1.1, hm.2.1.2.1, hm.2.1.2.2.1, hm.2.1.2.2.2⟩⟩
theorem zexc3 {c : Code} {a b h k a1 b1 h1 k1 a2 b2 h2 k2 : Nat} {hh : List (Nat × Nat × Nat × Nat)} (hm : c.exceptionTable.toList.map (fun h => (h.startPc, h.endPc, h.handlerPc, h.catchType)) = (a, b, h, k) :: (a1, b1, h1, k1) :: (a2, b2, h2, k2) :: hh) :
    ∃ (x x1 x2 : ExceptionTableEntry) (suf : List ExceptionTableEntry), c.exceptionTable.toList = x :: x1 :: x2 :: suf ∧ (x.startPc = a ∧ x.endPc = b ∧ x.handlerPc = h ∧ x.catchType = k) ∧ (x1.startPc = a1 ∧ x1.endPc = b1 ∧ x1.handlerPc = h1 ∧ x1.catchType = k1) ∧ (x2.startPc = a2 ∧ x2.endPc = b2 ∧ x2.handlerPc = h2 ∧ x2.catchType = k2) := by
  cases hl : c.exceptionTable.toList with
  | nil => rw [hl] at hm; cases hm
  | cons x suf =>
    cases suf with
    | nil => rw [hl] at hm; simp at hm
    | cons x1 suf =>
      cases suf with
      | nil => rw [hl] at hm; simp at hm
      | cons x2 suf =>
        rw [hl] at hm
        simp only [List.map_cons, List.cons.injEq, Prod.mk.injEq] at hm
        exact ⟨x, x1, x2, suf, rfl, ⟨hm.1.1, hm.1.2.1, hm.1.2.2.1, hm.1.2.2.2⟩, ⟨hm.2.1.1, hm.2.1.2.1, hm.2.1.2.2.1, hm.2.1.2.2.2⟩, ⟨hm.2.2.1.1, hm.2.2.1.2.1, hm.2.2.1.2.2.1, hm.2.2.1.2.2.2⟩⟩
theorem zBlind_and {X Y : State → Prop} (hX : zBlind X) (hY : zBlind Y) : zBlind (fun U => X U ∧ Y U) := fun U U' h hh q => ⟨hX U U' h hh q.1, hY U U' h hh q.2⟩
theorem zMetWA {l : Launch} {y : MethodName} {cc : ByteArray} {maxL : Nat} {ret : Option FieldType} {hh : List (Nat × Nat × Nat × Nat)} {rm : Room} {av : List Value} {D : va_G} {ws : va_W} {tys : List (ClassId × FieldType)} {X : State → Prop} {Qf : (Nat → Prop) → Array Value → State → Outcome → State → Prop} {mc ms sz : Nat} (hy : plainName y.cls = true) (hl : (lg_sl av).length ≤ maxL)
    (body : ∀ (p : Program) (e : Env) (s : State) (m : MethodId) (below : List Frame) (meth : Method) (c : Code) (A : Nat → Prop) (ls : Array Slot), p.tables.exec = Jvm.exec → c.code = cc → meth.sig.returnType = ret → c.maxLocals = maxL → s.vm.findClass y.cls = some m.cls → (∀ w ∈ zt, w.before av.toArray s = true) → meth.locks = false → c.exceptionTable.toList.map (fun h => (h.startPc, h.endPc, h.handlerPc, h.catchType)) = hh → (∀ q, s.heap.size ≤ q → A q) → va_K D zcl tys s → va_P D zcl ws s.heap → va_D A ws → zTab A s → X s → lv_has ls maxL (lv_args 0 av) →
      W p l e rm s m av.toArray below meth c s.heap [] 0 0 (MQ below (Qf A) av.toArray s mc ms A) (F0 m 0 ls [])) :
    Met l y (Cond.codeWith y cc maxL ret hh :: zt) rm (zPc av D ws tys sz (fun U => zXT ws U ∧ X U)) (Qf (va_A ws sz)) mc ms (va_A ws sz) := by
  refine va_MetW (cc := cc) (maxL := maxL) (ret := ret) (hh := hh) hy rfl ?_
  intro p e s m args below meth c s₁ B hml hv
  obtain ⟨rfl, hsz, hP, hK, hD0, hX, hX2⟩ := hv
  have hts := atoms_spec (ws := Cond.codeWith y cc maxL ret hh :: zt) B.pre
  subst hsz
  have hD := hD0.self (sz := s.heap.size)
  have hl := lv_entry av (n := maxL) hl
  have hex : c.exceptionTable.toList.map (fun h => (h.startPc, h.endPc, h.handlerPc, h.catchType)) = hh := by
    obtain ⟨m', meth', c', hn', hm', hc', -, -, htab, -⟩ := Cond.codeWith_spec (hts _ List.mem_cons_self)
    cases B.named.symm.trans hn'
    cases B.method.symm.trans hm'
    cases (Stand.of_body B).code.symm.trans hc'
    exact htab
  rw [lg_entry_eq]
  exact body p e s m below meth c _ _ B.exec B.bytes B.returns hml (findClass_of_methodNamed B.named) (fun w h => hts w (List.mem_cons_of_mem _ h)) B.notSynchronized hex (fun q h => Or.inr h) hK hP hD hX hX2 hl
section ZPS
variable {s : State} {H : Heap} {A : Nat → Prop} {D : va_G} {tys tc : List (ClassId × FieldType)} {X wc pl : va_W}
theorem zpreSP {X0 : State → Prop} (hX : zBlind X0) (hK : va_K D zcl tys s) (hP : va_P D zcl (X ++ pl) H) (hD : va_D A (X ++ pl)) (isC tC : List Nat) (hC : isC.map (fun i => X[i]?) = wc.map some) (hn : va_nd isC = true) (htC : tC.filterMap (fun i => tys[i]?) = tc) (hx : ∀ U : State, U.heap = H → s.WarmedH U.vm → X0 U) {av : List Value} : PreS s H (zPc av D (wc ++ pl) tc H.size X0) av :=
  ⟨zPc_blind hX, fun U hU hW => ⟨rfl, by rw [hU], by rw [hU]; exact hP.part isC hC, va_K.moved hW.alike (hK.sub tC htC), (hD.part isC hn hC).weaken (fun _ _ _ _ => trivial), hx U hU hW⟩⟩
theorem zXT_callP {locs : List Loc} (h : zTab A s) (hD : va_D A (X ++ pl)) (hS : va_S A s.heap H locs) (hA : ∀ q, s.heap.size ≤ q → A q) (isC : List Nat) (hC : isC.map (fun i => X[i]?) = wc.map some) : ∀ U : State, U.heap = H → s.WarmedH U.vm → zXT (wc ++ pl) U := fun U hU hW => by
  unfold zXT
  rw [hU]
  exact zTab_call h hS (va_freeP hD hS hA isC hC) hU hW.alike
end ZPS
