/-! exceptions, second part: the words of a throw that aren't of the tables alone; a row that catches -/
abbrev zISE : String := "java/lang/IllegalStateException"
abbrev zIAE : String := "java/lang/IllegalArgumentException"
abbrev zIOB : String := "java/lang/IndexOutOfBoundsException"
abbrev zUP : List String := ["java/lang/RuntimeException", "java/lang/Exception"]
def zbadC : List Cond := [.castable zISE zISE, .castable zIAE zIAE, .castable zIOB zIOB]
def zbadD : List Cond := [.declares ⟨"java/lang/RuntimeException", "<init>", "()V"⟩, .declares ⟨"java/lang/Exception", "<init>", "()V"⟩, .declares ⟨"java/lang/Throwable", "<init>", "()V"⟩]
def zbadS : List (String × String) := [("UNASSIGNED_STACK", "[Ljava/lang/StackTraceElement;"), ("SUPPRESSED_SENTINEL", "Ljava/util/List;")]
/-- what a throw asks beside the good words -/
def zG (U : State) : Prop := ∀ args : Array Value, (∀ w ∈ zbadC, w.before args U = true) ∧ (∀ w ∈ zbadD, w.before args U = true) ∧ ∀ q ∈ zbadS, (Cond.laysStatic "java/lang/Throwable" q.1 q.2).before args U = true ∧ (Cond.isRef (.static "java/lang/Throwable" q.1 q.2)).before args U = true
theorem zcast_keep {C E : String} {U U' : State} {a a' : Array Value} (h : U.vm.Alike U'.vm) (hw : (Cond.castable C E).before a U = true) : (Cond.castable C E).before a' U' = true := by
  obtain ⟨c, t, h1, h2, h3⟩ := Cond.castable_spec hw
  have h1' : U'.vm.findClass C = some c := by rw [h.findClass]; exact h1
  have h2' : U'.vm.findClass E = some t := by rw [h.findClass]; exact h2
  have h3' : U'.vm.assignable c t = true := by rw [h.assignable]; exact h3
  simp [Cond.before, Cond.holds, Cond.value, h1', h2', h3']
theorem zdecl_keep {y : MethodName} {U U' : State} {a a' : Array Value} (h : U.vm.Alike U'.vm) (hw : (Cond.declares y).before a U = true) : (Cond.declares y).before a' U' = true := by
  obtain ⟨r0, r, h1, h2, h3, h4⟩ := Cond.declares_spec hw
  have h1' : U'.methodNamed? y = some r0 := by
    have q : (U.setVm U'.vm).methodNamed? y = some r0 := by rw [State.methodNamed?_setVm h]; exact h1
    exact q
  have h2' : U'.vm.method? r0 = some r := by rw [h.method?]; exact h2
  simp [Cond.before, Cond.holds, Cond.value, h1', h2', h3, h4]
theorem zstat_keep {C n d : String} {U U' : State} {a a' : Array Value} (h : U.vm.Alike U'.vm) (hq : ∀ q : Nat, q < U.heap.size → U'.heap[q]? = U.heap[q]?)
    (hl : (Cond.laysStatic C n d).before a U = true) (hr : (Cond.isRef (.static C n d)).before a U = true) : (Cond.laysStatic C n d).before a' U' = true ∧ (Cond.isRef (.static C n d)).before a' U' = true := by
  obtain ⟨c, k, i, f, ad, cell, hc, hi, hst, ha, hcell, hs, hcls, hlt, hty⟩ := Cond.laysStatic_spec hl
  obtain ⟨k', hi', hek⟩ := State.fieldFound?_setVm h hi
  have hi2 : U'.fieldFound? C n d = some (c, k', i, f) := hi'
  have hc2 : U'.vm.findClass C = some c := by rw [h.findClass]; exact hc
  have ha2 : k'.statics = some ad := by rw [hek]; exact ha
  have hcell2 : U'.heap[ad]? = some cell := by rw [hq ad (Array.getElem?_eq_some_iff.mp hcell).1]; exact hcell
  have hv : cell.slots[f.slot]? = some cell.slots[f.slot] := Array.getElem?_eq_getElem hlt
  have he : (Term.static C n d).eval a U none [] U = some cell.slots[f.slot] := by
    simp [Term.eval, State.fieldNamed?, hi, hst, ha, hcell, hs, hv]
  have he2 : (Term.static C n d).eval a' U' none [] U' = some cell.slots[f.slot] := by
    simp [Term.eval, State.fieldNamed?, hi2, hst, ha2, hcell2, hs, hv]
  refine ⟨Cond.laysStatic_of hc2 hi2 hst ha2 hcell2 hs hcls hlt (by rw [hek]; exact hty), ?_⟩
  simp only [Cond.before, Cond.holds, Cond.value, he] at hr
  simp only [Cond.before, Cond.holds, Cond.value, he2]
  exact hr
theorem zG_keep {U U' : State} (h : U.vm.Alike U'.vm) (hq : ∀ q : Nat, q < U.heap.size → U'.heap[q]? = U.heap[q]?) (hG : zG U) : zG U' := by
  intro a
  obtain ⟨h1, h2, h3⟩ := hG #[]
  refine ⟨fun w hw => ?_, fun w hw => ?_, fun q hm => zstat_keep h hq (h3 q hm).1 (h3 q hm).2⟩
  · have hz := h1 w hw
    simp only [zbadC, List.mem_cons, List.not_mem_nil, or_false] at hw
    rcases hw with rfl | rfl | rfl <;> exact zcast_keep h hz
  · have hz := h2 w hw
    simp only [zbadD, List.mem_cons, List.not_mem_nil, or_false] at hw
    rcases hw with rfl | rfl | rfl <;> exact zdecl_keep h hz
theorem zBlind_G : zBlind zG := fun U U' h hh hG => zG_keep h (fun q _ => by rw [hh]) hG
/-- all that a throw asks -/
def zbad : List Cond := zbadC ++ zbadD ++ (zbadS.map fun q => Cond.laysStatic "java/lang/Throwable" q.1 q.2) ++ (zbadS.map fun q => Cond.isRef (.static "java/lang/Throwable" q.1 q.2))
theorem zG_bad {U : State} (hG : zG U) (args : Array Value) : ∀ w ∈ zbad, w.before args U = true := by
  intro w hw
  obtain ⟨h1, h2, h3⟩ := hG args
  unfold zbad at hw
  simp only [List.mem_append, List.mem_map] at hw
  rcases hw with ((h | h) | ⟨q, hq, rfl⟩) | ⟨q, hq, rfl⟩
  · exact h1 w h
  · exact h2 w h
  · exact (h3 q hq).1
  · exact (h3 q hq).2
set_option maxRecDepth 100000 in
theorem zkey_ISE : ∀ w ∈ Bundle.ownAtoms0 "ZipGuard" 47 zISE zUP, w ∈ zt ∨ w ∈ zbad := by decide +kernel
set_option maxRecDepth 100000 in
theorem zkey_IAE : ∀ w ∈ Bundle.ownAtoms0 "ZipGuard" 61 zIAE zUP, w ∈ zt ∨ w ∈ zbad := by decide +kernel
set_option maxRecDepth 100000 in
theorem zkey_IOB : ∀ w ∈ Bundle.ownAtoms0 "ZipGuard" 67 zIOB zUP, w ∈ zt ∨ w ∈ zbad := by decide +kernel
theorem zhat {L : List Cond} {args : Array Value} {s : State} (key : ∀ w ∈ L, w ∈ zt ∨ w ∈ zbad) (ht : ∀ w ∈ zt, w.before args s = true) (hG : zG s) : ∀ w ∈ L, w.before args s = true := fun w hw =>
  (key w hw).elim (ht w) (zG_bad hG args w)
section ZXC
variable {p : Program} {l : Launch} {e : Env} {R : Room} {s : State} {m : MethodId} {args : Array Value} {below : List Frame} {meth : Method} {c : Code} {H : Heap} {locs : List Loc} {cells slots : Nat} {Q : State → Prop}
variable {pc : Nat} {ls : Array Slot} {rest : List Value}
/-- the first row of the table catches -/
theorem zcatch {own name : String} {ce : Cell} {q : Addr} (hown : s.vm.findClass own = some m.cls) (x : ExceptionTableEntry) (suf : List ExceptionTableEntry) (hsplit : c.exceptionTable.toList = x :: suf) (hx : covers x pc = true) (h0 : x.catchType ≠ 0)
    (hlink : (Cond.classLink own x.catchType name).before args s = true) (hcast : (Cond.castable name name).before args s = true) (hcell : H[q]? = some ce) (hv : ce.vm = .none) (hcl : s.vm.findClass name = some ce.cls)
    (kk : W p l e R s m args below meth c H locs cells slots Q (F0 m x.handlerPc ls [.ref q])) : zTW p l e R s m args below meth c H locs cells slots Q (F0 m pc ls rest) q := by
  intro T hT X
  have hpl : e.platform.magicAccessors = ({} : Platform).magicAccessors := by rw [X.admits.platform]
  obtain ⟨c3, c4, hc3, hc4, hasg⟩ := Cond.castable_spec hcast
  cases Option.some.inj (hc3.symm.trans hcl)
  cases Option.some.inj (hc4.symm.trans hcl)
  obtain ⟨c5, hc5, hl5⟩ := Cond.classLink_spec hown hlink e.platform hpl
  cases Option.some.inj (hc5.symm.trans hcl)
  obtain ⟨dk, _, _, kt, hd, _, _, _, _, hkt, _, hopen⟩ := hl5.here
  have hW' : s.WarmedH (T.vm.noted m.cls x.catchType (.cls ce.cls)) := X.warmed.noted hd hopen (State.rightAt_cls hl5)
  have hl6 : T.vm.ClassLinks e.platform m.cls x.catchType ce.cls := X.warmed.classLinks hl5
  obtain ⟨kt', hkt', -⟩ := X.warmed.alike.2.2 _ _ hkt
  have hcT : T.heap[q]? = some ce := by rw [hT]; exact hcell
  have hobj : ∀ k, ce.vm ≠ .statics k := fun k h => by rw [hv] at h; cases h
  obtain ⟨t, a1, b1⟩ := kk (T.setVm (T.vm.noted m.cls x.catchType (.cls ce.cls))) hT (X.noted hW')
  refine ⟨t, ?_, b1⟩
  have hgo : ∀ (Q : Handler → Pre) (E : CtlPost) (d : Bool) (acts : List Action), wp (findHandler (F0 m pc ls rest) q) Q E e d acts ((T.setTop (F0 m pc ls rest)).pushFrame (.throwing q)) ↔ Q (.found x.handlerPc) d acts (((T.setTop (F0 m pc ls rest)).pushFrame (.throwing q)).setVm (T.vm.noted m.cls x.catchType (.cls ce.cls))) := by
    intro Q E d acts
    rw [Jvm.W.findHandler_eq (s := (T.setTop (F0 m pc ls rest)).pushFrame (.throwing q)) (f := F0 m pc ls rest) X.method' X.code, hsplit]
    have hx2 := hx
    simp only [covers] at hx2
    have hvmE : ((T.setTop (F0 m pc ls rest)).pushFrame (.throwing q)).vm = T.vm := Stand.throwing_vm _ _ _
    have hhE : ((T.setTop (F0 m pc ls rest)).pushFrame (.throwing q)).heap = T.heap := Stand.throwing_heap _ _ _
    obtain ⟨ha, ht⟩ := (resolveClass_links e.toSetting hl6).op (op := VmOp.resolveClass m.cls x.catchType) rfl
    have hal : T.vm.Alike (T.vm.noted m.cls x.catchType (.cls ce.cls)) := (Vm.Alike.refl T.vm).noted _ _ _
    obtain ⟨k1', hk1', -⟩ := hal.2.2 _ _ hkt'
    have hfit' : (T.vm.noted m.cls x.catchType (.cls ce.cls)).assignable ce.cls ce.cls = true := by rw [hal.assignable, X.warmed.alike.assignable]; exact hasg
    simp [findHandler.go, hx2, h0, hvmE, hhE, ha, ht, hcT, hobj, hk1', hfit', VmOp.dirties, VmOp.acts]
  have h : At T m c below := X.here
  obtain ⟨hgo2, hw2⟩ := h.throwing (g := F0 m pc ls rest) q
  refine Steps.head hgo2 hw2 ?_
  have hst : (stepThrowing e ((T.setTop (F0 m pc ls rest)).pushFrame (.throwing q)) q (.java (F0 m pc ls rest) :: T.frames.tail)).1 = (((T.setTop (F0 m pc ls rest)).pushFrame (.throwing q)).setVm (T.vm.noted m.cls x.catchType (.cls ce.cls))).setFrames (.java { F0 m pc ls rest with pc := x.handlerPc, stack := [.ref q] } :: T.frames.tail) := by
    simp only [stepThrowing, searchFrame, vmDo]
    generalize hr : Sem.go _ e false [] ((T.setTop (F0 m pc ls rest)).pushFrame (.throwing q)) = res
    obtain ⟨as, rfl, ha⟩ := Sem.eq_ok_of hr (a := Handler.found x.handlerPc) (s' := ((T.setTop (F0 m pc ls rest)).pushFrame (.throwing q)).setVm (T.vm.noted m.cls x.catchType (.cls ce.cls))) (acts' := []) (by simp [hgo _ _ _ _])
    rfl
  rw [stepThread_throwing (frames_entered h.top _), hst]
  obtain ⟨g₀, hg⟩ := Option.isSome_iff_exists.mp h.top
  obtain ⟨r, hr⟩ := State.topJava?_eq_some.mp hg
  have hr' : (T.setVm (T.vm.noted m.cls x.catchType (.cls ce.cls))).frames = .java g₀ :: r := hr
  rw [State.setTop_of_frames _ hr'] at a1
  have hsv : ∀ (u : State) (v : Vm) (F G : List Frame), ((u.setFrames F).setVm v).setFrames G = (u.setVm v).setFrames G := by
    intro u v F G
    have h1 : (u.setFrames F).setVm v = (u.setVm v).setFrames F := rfl
    rw [h1, State.setFrames_setFrames]
  rw [hr, List.tail_cons, State.pushFrame, hsv, State.setTop_of_frames _ hr, hsv]
  exact a1
end ZXC
