/-! answers that are references, and what a table's second and third row catch -/
def zQRr (post : Nat → Prop) : Array Value → State → Outcome → State → Prop := fun _ st o t => (∃ r : Nat, o = .returned (some (.ref r)) ∧ post r) ∧ t.heap = st.heap
section ZRR
variable {p : Program} {l : Launch} {e : Env} {R : Room} {s : State} {m : MethodId} {args : Array Value} {below : List Frame} {meth : Method} {c : Code} {H : Heap} {locs : List Loc} {cells slots : Nat} {Q : State → Prop}
variable {cc : ByteArray} {pc : Nat} {ls : Array Slot} {rest st0 : List Value} {a : Array Value}
theorem zjRr {post : Nat → Prop} (hr : va_Run p l e R s m args below meth c H locs cells slots 0 0 (F0 m pc ls st0) rest (zQRr post a) (fun _ => False))
    (kk : ∀ r : Nat, post r → W p l e R s m args below meth c H locs cells slots Q (F0 m (pc + 3) ls (.ref r :: rest))) : W p l e R s m args below meth c H locs cells slots Q (F0 m pc ls st0) := by
  intro T hT X
  obtain ⟨v, st₀, t, T', L, h0, X', hL, e1, e2, ⟨⟨r, hv, hp⟩, hh⟩, st⟩ := hr T hT X
  cases hv
  have hL0 : L = [] := by
    cases L with
    | nil => rfl
    | cons q _ => exact (hL q List.mem_cons_self).elim
  subst hL0
  rw [List.append_nil] at X'
  obtain ⟨t2, a1, b1⟩ := kk r hp T' (by rw [e1, hh, h0]) X'
  exact ⟨t2, st t2 a1, b1⟩
theorem zretRr {post : Nat → Prop} {r : Nat} {C : String} (hx : p.tables.exec = Jvm.exec) (hb : c.code = cc) (hr : meth.sig.returnType = some (.object C)) (hlk : meth.locks = false) (hp : post r) (hdg : decode cc pc = .ok (.areturn, 1)) :
    W p l e R s m args below meth c s.heap [] 0 0 (MQ below (zQRr post) args s 0 0 (fun _ => False)) (F0 m pc ls [.ref r]) :=
  W.aret hx hb hr (Or.inl ⟨C, rfl⟩) (Or.inr ⟨r, rfl⟩) (fun _ ht _ => ⟨⟨r, rfl, hp⟩, ht⟩) (fun _ h => nomatch h) hdg hlk
end ZRR
def zneg : List (String × String) := [(zIOB, zISE), (zIAE, zISE), (zIAE, zIOB)]
def zNo (U : State) : Prop := ∀ args : Array Value, ∀ q ∈ zneg, (Cond.not (.castable q.1 q.2)).before args U = true
theorem zNo_keep {U U' : State} (h : U.vm.Alike U'.vm) (hN : zNo U) : zNo U' := fun args q hq => by
  have h1 := hN args q hq
  simp only [Cond.before, Cond.holds, Cond.value] at h1 ⊢
  rw [h.findClass, h.findClass]
  revert h1
  cases U.vm.findClass q.1 <;> cases U.vm.findClass q.2 <;> simp [h.assignable]
theorem zNo_blind : zBlind zNo := fun _ _ h _ hN => zNo_keep h hN
theorem znotcast {a b : String} {args : Array Value} {U : State} {c t : ClassId} (h : (Cond.not (.castable a b)).before args U = true) (hc : U.vm.findClass a = some c) (ht : U.vm.findClass b = some t) : U.vm.assignable c t = false := by
  simp only [Cond.before, Cond.holds, Cond.value, hc, ht] at h
  simpa using h
section ZXD
variable {p : Program} {l : Launch} {e : Env} {R : Room} {s : State} {m : MethodId} {args : Array Value} {below : List Frame} {meth : Method} {c : Code} {H : Heap} {locs : List Loc} {cells slots : Nat} {Q : State → Prop}
variable {pc : Nat} {ls : Array Slot} {rest : List Value}
/-- row 2 of the table catches, those ahead of it don't -/
theorem zcatch2 {own name n1 : String} {ce : Cell} {q : Addr} (hown : s.vm.findClass own = some m.cls) (x1 x : ExceptionTableEntry) (suf : List ExceptionTableEntry) (hsplit : c.exceptionTable.toList = x1 :: x :: suf) (hx1 : covers x1 pc = true) (h01 : x1.catchType ≠ 0) (hlink1 : (Cond.classLink own x1.catchType n1).before args s = true) (hno1 : (Cond.not (.castable name n1)).before args s = true) (hx : covers x pc = true) (h0 : x.catchType ≠ 0)
    (hlink : (Cond.classLink own x.catchType name).before args s = true) (hcast : (Cond.castable name name).before args s = true) (hcell : H[q]? = some ce) (hv : ce.vm = .none) (hcl : s.vm.findClass name = some ce.cls)
    (kk : W p l e R s m args below meth c H locs cells slots Q (F0 m x.handlerPc ls [.ref q])) : zTW p l e R s m args below meth c H locs cells slots Q (F0 m pc ls rest) q := by
  intro T hT X
  have hpl : e.platform.magicAccessors = ({} : Platform).magicAccessors := by rw [X.admits.platform]
  obtain ⟨c3, c4, hc3, hc4, hasg⟩ := Cond.castable_spec hcast
  cases Option.some.inj (hc3.symm.trans hcl)
  cases Option.some.inj (hc4.symm.trans hcl)
  have X0 := X
  obtain ⟨d1, hd1, hl1⟩ := Cond.classLink_spec hown hlink1 e.platform hpl
  have hna1 := znotcast hno1 hcl hd1
  obtain ⟨_, _, _, kt1, hdd1, _, _, _, _, hkt1, _, hopen1⟩ := hl1.here
  have hW1 : s.WarmedH (T.vm.noted m.cls x1.catchType (.cls d1)) := X0.warmed.noted hdd1 hopen1 (State.rightAt_cls hl1)
  have hlT1 : T.vm.ClassLinks e.platform m.cls x1.catchType d1 := X0.warmed.classLinks hl1
  have X1 := X0.noted hW1
  obtain ⟨ktd1, hktd1, -⟩ := X.warmed.alike.2.2 _ _ hkt1
  obtain ⟨c5, hc5, hl5⟩ := Cond.classLink_spec hown hlink e.platform hpl
  cases Option.some.inj (hc5.symm.trans hcl)
  obtain ⟨dk, _, _, kt, hd, _, _, _, _, hkt, _, hopen⟩ := hl5.here
  have hW' : s.WarmedH ((T.vm.noted m.cls x1.catchType (.cls d1)).noted m.cls x.catchType (.cls ce.cls)) := X1.warmed.noted hd hopen (State.rightAt_cls hl5)
  have hl6 : (T.vm.noted m.cls x1.catchType (.cls d1)).ClassLinks e.platform m.cls x.catchType ce.cls := X1.warmed.classLinks hl5
  obtain ⟨kt', hkt', -⟩ := X.warmed.alike.2.2 _ _ hkt
  have hcT : T.heap[q]? = some ce := by rw [hT]; exact hcell
  have hobj : ∀ k, ce.vm ≠ .statics k := fun k h => by rw [hv] at h; cases h
  obtain ⟨t, a1, b1⟩ := kk (T.setVm ((T.vm.noted m.cls x1.catchType (.cls d1)).noted m.cls x.catchType (.cls ce.cls))) hT (X1.noted hW')
  refine ⟨t, ?_, b1⟩
  have hgo : ∀ (Q : Handler → Pre) (E : CtlPost) (d : Bool) (acts : List Action), wp (findHandler (F0 m pc ls rest) q) Q E e d acts ((T.setTop (F0 m pc ls rest)).pushFrame (.throwing q)) ↔ Q (.found x.handlerPc) d acts (((T.setTop (F0 m pc ls rest)).pushFrame (.throwing q)).setVm ((T.vm.noted m.cls x1.catchType (.cls d1)).noted m.cls x.catchType (.cls ce.cls))) := by
    intro Q E d acts
    rw [Jvm.W.findHandler_eq (s := (T.setTop (F0 m pc ls rest)).pushFrame (.throwing q)) (f := F0 m pc ls rest) X.method' X.code, hsplit]
    have hxx := hx
    simp only [covers] at hxx
    have hxx1 := hx1
    simp only [covers] at hxx1
    have hvmE : ((T.setTop (F0 m pc ls rest)).pushFrame (.throwing q)).vm = T.vm := Stand.throwing_vm _ _ _
    have hhE : ((T.setTop (F0 m pc ls rest)).pushFrame (.throwing q)).heap = T.heap := Stand.throwing_heap _ _ _
    have hal0 := Vm.Alike.refl T.vm
    obtain ⟨ha1, ht1⟩ := (resolveClass_links e.toSetting hlT1).op (op := VmOp.resolveClass m.cls x1.catchType) rfl
    have hal1 : T.vm.Alike (T.vm.noted m.cls x1.catchType (.cls d1)) := hal0.noted _ _ _
    obtain ⟨ka1, hka1, -⟩ := hal1.2.2 _ _ hkt'
    obtain ⟨kb1, hkb1, -⟩ := hal1.2.2 _ _ hktd1
    have hnf1 : (T.vm.noted m.cls x1.catchType (.cls d1)).assignable ce.cls d1 = false := by rw [hal1.assignable, X.warmed.alike.assignable]; exact hna1
    obtain ⟨ha, ht⟩ := (resolveClass_links e.toSetting hl6).op (op := VmOp.resolveClass m.cls x.catchType) rfl
    have hal : T.vm.Alike ((T.vm.noted m.cls x1.catchType (.cls d1)).noted m.cls x.catchType (.cls ce.cls)) := hal1.noted _ _ _
    obtain ⟨k3', hk3', -⟩ := hal.2.2 _ _ hkt'
    have hfit' : ((T.vm.noted m.cls x1.catchType (.cls d1)).noted m.cls x.catchType (.cls ce.cls)).assignable ce.cls ce.cls = true := by rw [hal.assignable, X.warmed.alike.assignable]; exact hasg
    simp [findHandler.go, hxx, h0, hvmE, hhE, ha, ht, hcT, hobj, hk3', hfit', hxx1, h01, ha1, ht1, hka1, hkb1, hnf1, VmOp.dirties, VmOp.acts]
    exact Iff.rfl
  have h : At T m c below := X.here
  obtain ⟨hgo2, hw2⟩ := h.throwing (g := F0 m pc ls rest) q
  refine Steps.head hgo2 hw2 ?_
  have hst : (stepThrowing e ((T.setTop (F0 m pc ls rest)).pushFrame (.throwing q)) q (.java (F0 m pc ls rest) :: T.frames.tail)).1 = (((T.setTop (F0 m pc ls rest)).pushFrame (.throwing q)).setVm ((T.vm.noted m.cls x1.catchType (.cls d1)).noted m.cls x.catchType (.cls ce.cls))).setFrames (.java { F0 m pc ls rest with pc := x.handlerPc, stack := [.ref q] } :: T.frames.tail) := by
    simp only [stepThrowing, searchFrame, vmDo]
    generalize hr : Sem.go _ e false [] ((T.setTop (F0 m pc ls rest)).pushFrame (.throwing q)) = res
    obtain ⟨as, rfl, ha⟩ := Sem.eq_ok_of hr (a := Handler.found x.handlerPc) (s' := ((T.setTop (F0 m pc ls rest)).pushFrame (.throwing q)).setVm ((T.vm.noted m.cls x1.catchType (.cls d1)).noted m.cls x.catchType (.cls ce.cls))) (acts' := []) (by simp [hgo _ _ _ _])
    rfl
  rw [stepThread_throwing (frames_entered h.top _), hst]
  obtain ⟨g₀, hg⟩ := Option.isSome_iff_exists.mp h.top
  obtain ⟨r, hr⟩ := State.topJava?_eq_some.mp hg
  have hr' : (T.setVm ((T.vm.noted m.cls x1.catchType (.cls d1)).noted m.cls x.catchType (.cls ce.cls))).frames = .java g₀ :: r := hr
  rw [State.setTop_of_frames _ hr'] at a1
  have hsv : ∀ (u : State) (v : Vm) (F G : List Frame), ((u.setFrames F).setVm v).setFrames G = (u.setVm v).setFrames G := by
    intro u v F G
    have h1 : (u.setFrames F).setVm v = (u.setVm v).setFrames F := rfl
    rw [h1, State.setFrames_setFrames]
  rw [hr, List.tail_cons, State.pushFrame, hsv, State.setTop_of_frames _ hr, hsv]
  exact a1
/-- row 3 of the table catches, those ahead of it don't -/
theorem zcatch3 {own name n1 n2 : String} {ce : Cell} {q : Addr} (hown : s.vm.findClass own = some m.cls) (x1 x2 x : ExceptionTableEntry) (suf : List ExceptionTableEntry) (hsplit : c.exceptionTable.toList = x1 :: x2 :: x :: suf) (hx1 : covers x1 pc = true) (h01 : x1.catchType ≠ 0) (hlink1 : (Cond.classLink own x1.catchType n1).before args s = true) (hno1 : (Cond.not (.castable name n1)).before args s = true) (hx2 : covers x2 pc = true) (h02 : x2.catchType ≠ 0) (hlink2 : (Cond.classLink own x2.catchType n2).before args s = true) (hno2 : (Cond.not (.castable name n2)).before args s = true) (hx : covers x pc = true) (h0 : x.catchType ≠ 0)
    (hlink : (Cond.classLink own x.catchType name).before args s = true) (hcast : (Cond.castable name name).before args s = true) (hcell : H[q]? = some ce) (hv : ce.vm = .none) (hcl : s.vm.findClass name = some ce.cls)
    (kk : W p l e R s m args below meth c H locs cells slots Q (F0 m x.handlerPc ls [.ref q])) : zTW p l e R s m args below meth c H locs cells slots Q (F0 m pc ls rest) q := by
  intro T hT X
  have hpl : e.platform.magicAccessors = ({} : Platform).magicAccessors := by rw [X.admits.platform]
  obtain ⟨c3, c4, hc3, hc4, hasg⟩ := Cond.castable_spec hcast
  cases Option.some.inj (hc3.symm.trans hcl)
  cases Option.some.inj (hc4.symm.trans hcl)
  have X0 := X
  obtain ⟨d1, hd1, hl1⟩ := Cond.classLink_spec hown hlink1 e.platform hpl
  have hna1 := znotcast hno1 hcl hd1
  obtain ⟨_, _, _, kt1, hdd1, _, _, _, _, hkt1, _, hopen1⟩ := hl1.here
  have hW1 : s.WarmedH (T.vm.noted m.cls x1.catchType (.cls d1)) := X0.warmed.noted hdd1 hopen1 (State.rightAt_cls hl1)
  have hlT1 : T.vm.ClassLinks e.platform m.cls x1.catchType d1 := X0.warmed.classLinks hl1
  have X1 := X0.noted hW1
  obtain ⟨ktd1, hktd1, -⟩ := X.warmed.alike.2.2 _ _ hkt1
  obtain ⟨d2, hd2, hl2⟩ := Cond.classLink_spec hown hlink2 e.platform hpl
  have hna2 := znotcast hno2 hcl hd2
  obtain ⟨_, _, _, kt2, hdd2, _, _, _, _, hkt2, _, hopen2⟩ := hl2.here
  have hW2 : s.WarmedH ((T.vm.noted m.cls x1.catchType (.cls d1)).noted m.cls x2.catchType (.cls d2)) := X1.warmed.noted hdd2 hopen2 (State.rightAt_cls hl2)
  have hlT2 : (T.vm.noted m.cls x1.catchType (.cls d1)).ClassLinks e.platform m.cls x2.catchType d2 := X1.warmed.classLinks hl2
  have X2 := X1.noted hW2
  obtain ⟨ktd2, hktd2, -⟩ := X.warmed.alike.2.2 _ _ hkt2
  obtain ⟨c5, hc5, hl5⟩ := Cond.classLink_spec hown hlink e.platform hpl
  cases Option.some.inj (hc5.symm.trans hcl)
  obtain ⟨dk, _, _, kt, hd, _, _, _, _, hkt, _, hopen⟩ := hl5.here
  have hW' : s.WarmedH (((T.vm.noted m.cls x1.catchType (.cls d1)).noted m.cls x2.catchType (.cls d2)).noted m.cls x.catchType (.cls ce.cls)) := X2.warmed.noted hd hopen (State.rightAt_cls hl5)
  have hl6 : ((T.vm.noted m.cls x1.catchType (.cls d1)).noted m.cls x2.catchType (.cls d2)).ClassLinks e.platform m.cls x.catchType ce.cls := X2.warmed.classLinks hl5
  obtain ⟨kt', hkt', -⟩ := X.warmed.alike.2.2 _ _ hkt
  have hcT : T.heap[q]? = some ce := by rw [hT]; exact hcell
  have hobj : ∀ k, ce.vm ≠ .statics k := fun k h => by rw [hv] at h; cases h
  obtain ⟨t, a1, b1⟩ := kk (T.setVm (((T.vm.noted m.cls x1.catchType (.cls d1)).noted m.cls x2.catchType (.cls d2)).noted m.cls x.catchType (.cls ce.cls))) hT (X2.noted hW')
  refine ⟨t, ?_, b1⟩
  have hgo : ∀ (Q : Handler → Pre) (E : CtlPost) (d : Bool) (acts : List Action), wp (findHandler (F0 m pc ls rest) q) Q E e d acts ((T.setTop (F0 m pc ls rest)).pushFrame (.throwing q)) ↔ Q (.found x.handlerPc) d acts (((T.setTop (F0 m pc ls rest)).pushFrame (.throwing q)).setVm (((T.vm.noted m.cls x1.catchType (.cls d1)).noted m.cls x2.catchType (.cls d2)).noted m.cls x.catchType (.cls ce.cls))) := by
    intro Q E d acts
    rw [Jvm.W.findHandler_eq (s := (T.setTop (F0 m pc ls rest)).pushFrame (.throwing q)) (f := F0 m pc ls rest) X.method' X.code, hsplit]
    have hxx := hx
    simp only [covers] at hxx
    have hxx1 := hx1
    simp only [covers] at hxx1
    have hxx2 := hx2
    simp only [covers] at hxx2
    have hvmE : ((T.setTop (F0 m pc ls rest)).pushFrame (.throwing q)).vm = T.vm := Stand.throwing_vm _ _ _
    have hhE : ((T.setTop (F0 m pc ls rest)).pushFrame (.throwing q)).heap = T.heap := Stand.throwing_heap _ _ _
    have hal0 := Vm.Alike.refl T.vm
    obtain ⟨ha1, ht1⟩ := (resolveClass_links e.toSetting hlT1).op (op := VmOp.resolveClass m.cls x1.catchType) rfl
    have hal1 : T.vm.Alike (T.vm.noted m.cls x1.catchType (.cls d1)) := hal0.noted _ _ _
    obtain ⟨ka1, hka1, -⟩ := hal1.2.2 _ _ hkt'
    obtain ⟨kb1, hkb1, -⟩ := hal1.2.2 _ _ hktd1
    have hnf1 : (T.vm.noted m.cls x1.catchType (.cls d1)).assignable ce.cls d1 = false := by rw [hal1.assignable, X.warmed.alike.assignable]; exact hna1
    obtain ⟨ha2, ht2⟩ := (resolveClass_links e.toSetting hlT2).op (op := VmOp.resolveClass m.cls x2.catchType) rfl
    have hal2 : T.vm.Alike ((T.vm.noted m.cls x1.catchType (.cls d1)).noted m.cls x2.catchType (.cls d2)) := hal1.noted _ _ _
    obtain ⟨ka2, hka2, -⟩ := hal2.2.2 _ _ hkt'
    obtain ⟨kb2, hkb2, -⟩ := hal2.2.2 _ _ hktd2
    have hnf2 : ((T.vm.noted m.cls x1.catchType (.cls d1)).noted m.cls x2.catchType (.cls d2)).assignable ce.cls d2 = false := by rw [hal2.assignable, X.warmed.alike.assignable]; exact hna2
    obtain ⟨ha, ht⟩ := (resolveClass_links e.toSetting hl6).op (op := VmOp.resolveClass m.cls x.catchType) rfl
    have hal : T.vm.Alike (((T.vm.noted m.cls x1.catchType (.cls d1)).noted m.cls x2.catchType (.cls d2)).noted m.cls x.catchType (.cls ce.cls)) := hal2.noted _ _ _
    obtain ⟨k3', hk3', -⟩ := hal.2.2 _ _ hkt'
    have hfit' : (((T.vm.noted m.cls x1.catchType (.cls d1)).noted m.cls x2.catchType (.cls d2)).noted m.cls x.catchType (.cls ce.cls)).assignable ce.cls ce.cls = true := by rw [hal.assignable, X.warmed.alike.assignable]; exact hasg
    simp [findHandler.go, hxx, h0, hvmE, hhE, ha, ht, hcT, hobj, hk3', hfit', hxx1, h01, ha1, ht1, hka1, hkb1, hnf1, hxx2, h02, ha2, ht2, hka2, hkb2, hnf2, VmOp.dirties, VmOp.acts]
    exact Iff.rfl
  have h : At T m c below := X.here
  obtain ⟨hgo2, hw2⟩ := h.throwing (g := F0 m pc ls rest) q
  refine Steps.head hgo2 hw2 ?_
  have hst : (stepThrowing e ((T.setTop (F0 m pc ls rest)).pushFrame (.throwing q)) q (.java (F0 m pc ls rest) :: T.frames.tail)).1 = (((T.setTop (F0 m pc ls rest)).pushFrame (.throwing q)).setVm (((T.vm.noted m.cls x1.catchType (.cls d1)).noted m.cls x2.catchType (.cls d2)).noted m.cls x.catchType (.cls ce.cls))).setFrames (.java { F0 m pc ls rest with pc := x.handlerPc, stack := [.ref q] } :: T.frames.tail) := by
    simp only [stepThrowing, searchFrame, vmDo]
    generalize hr : Sem.go _ e false [] ((T.setTop (F0 m pc ls rest)).pushFrame (.throwing q)) = res
    obtain ⟨as, rfl, ha⟩ := Sem.eq_ok_of hr (a := Handler.found x.handlerPc) (s' := ((T.setTop (F0 m pc ls rest)).pushFrame (.throwing q)).setVm (((T.vm.noted m.cls x1.catchType (.cls d1)).noted m.cls x2.catchType (.cls d2)).noted m.cls x.catchType (.cls ce.cls))) (acts' := []) (by simp [hgo _ _ _ _])
    rfl
  rw [stepThread_throwing (frames_entered h.top _), hst]
  obtain ⟨g₀, hg⟩ := Option.isSome_iff_exists.mp h.top
  obtain ⟨r, hr⟩ := State.topJava?_eq_some.mp hg
  have hr' : (T.setVm (((T.vm.noted m.cls x1.catchType (.cls d1)).noted m.cls x2.catchType (.cls d2)).noted m.cls x.catchType (.cls ce.cls))).frames = .java g₀ :: r := hr
  rw [State.setTop_of_frames _ hr'] at a1
  have hsv : ∀ (u : State) (v : Vm) (F G : List Frame), ((u.setFrames F).setVm v).setFrames G = (u.setVm v).setFrames G := by
    intro u v F G
    have h1 : (u.setFrames F).setVm v = (u.setVm v).setFrames F := rfl
    rw [h1, State.setFrames_setFrames]
  rw [hr, List.tail_cons, State.pushFrame, hsv, State.setTop_of_frames _ hr, hsv]
  exact a1
end ZXD
