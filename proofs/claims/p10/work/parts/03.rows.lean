/-! rows of this proof's own: worlds at a call, a method's start and end -/
theorem zfm {α : Type} {f : Nat → Option α} : ∀ {is : List Nat} {w : List α}, is.map f = w.map some → is.filterMap f = w
  | [], [], _ => rfl
  | [], _ :: _, h => by simp at h
  | _ :: _, [], h => by simp at h
  | i :: is, x :: w, h => by
    simp only [List.map_cons, List.cons.injEq] at h
    rw [List.filterMap_cons, h.1, zfm h.2]
/-- says the same of a state with the same heap and alike tables -/
def zBlind (X : State → Prop) : Prop := ∀ U U' : State, U.vm.Alike U'.vm → U'.heap = U.heap → X U → X U'
theorem zBlind_t : zBlind (fun _ => True) := fun _ _ _ _ _ => trivial
def zPc (av : List Value) (D : va_G) (ws : va_W) (tys : List (ClassId × FieldType)) (sz : Nat) (X : State → Prop) : Array Value → State → Prop :=
  va_Pc av (fun U => U.heap.size = sz ∧ va_P D zcl ws U.heap ∧ va_K D zcl tys U ∧ va_D (fun _ => True) ws ∧ X U)
theorem zPc_blind {av : List Value} {D : va_G} {ws : va_W} {tys : List (ClassId × FieldType)} {sz : Nat} {X : State → Prop} (hX : zBlind X) : FrameBlind (zPc av D ws tys sz X) := fun a U g mk q => by
  obtain ⟨q0, q1, qP, qK, qD, qX⟩ := q
  exact ⟨q0, q1, qP, va_K.moved (u := U) (U := U.calling g mk a) (Vm.Alike.refl U.vm) qK, qD, hX U _ (Vm.Alike.refl U.vm) rfl qX⟩
def zB (D : va_G) (ws : va_W) (tys : List (ClassId × FieldType)) (A : Nat → Prop) (t : State) : Prop := va_P D zcl ws t.heap ∧ va_K D zcl tys t ∧ va_D A ws
section ZKA
variable {p : Program} {l : Launch} {e : Env} {R : Room} {s : State} {m : MethodId} {args : Array Value} {below : List Frame} {meth : Method} {c : Code} {H : Heap} {locs : List Loc} {cells slots : Nat} {Q : State → Prop}
variable {cc : ByteArray} {pc : Nat} {ls : Array Slot} {rest st0 : List Value} {a : Array Value} {A : Nat → Prop} {mc ms : Nat} {D : va_G} {tys tc : List (ClassId × FieldType)} {ws wc wr : va_W}
theorem zpre {X : State → Prop} (hX : zBlind X) (hK : va_K D zcl tys s) (hP : va_P D zcl ws H) (hD : va_D A ws) (isC tC : List Nat) (hC : isC.map (fun i => ws[i]?) = wc.map some) (hn : va_nd isC = true) (htC : tC.filterMap (fun i => tys[i]?) = tc) (hx : ∀ U : State, U.heap = H → s.WarmedH U.vm → X U) {av : List Value} : PreS s H (zPc av D wc tc H.size X) av :=
  ⟨zPc_blind hX, fun U hU hW => ⟨rfl, by rw [hU], by rw [hU]; exact hP.sub isC (zfm hC), va_K.moved hW.alike (hK.sub tC htC), (hD.sub isC hn hC).weaken (fun _ _ _ _ => trivial), hx U hU hW⟩⟩
theorem zpreV {X : State → Prop} (hX : zBlind X) (hK : va_K D zcl tys s) (hP : va_P D zcl ws H) (hD : va_D A ws) (isC tC : List Nat) (hC : isC.map (fun i => ws[i]?) = wc.map some) (hn : va_nd isC = true) (htC : tC.filterMap (fun i => tys[i]?) = tc) (hx : ∀ U : State, U.heap = H → s.WarmedH U.vm → X U) {b : Nat} {C : String} {As : List Value} (hr : ∃ cellB : Cell, H[b]? = some cellB ∧ cellB.vm.isStatics = false ∧ s.vm.findClass C = some cellB.cls) : PreV s H C b (zPc (.ref b :: As) D wc tc H.size X) As :=
  ⟨zPc_blind hX, hr, (zpre hX hK hP hD isC tC hC hn htC hx).2⟩
theorem zji {S : Type} {post : Int32 → S → Prop} {w1 : S → va_W} {t1 : S → List (ClassId × FieldType)}
    (hr : va_Run p l e R s m args below meth c H locs cells slots mc ms (F0 m pc ls st0) rest (va_Qi post (fun u t => zB D (w1 u) (t1 u) (va_A wc H.size) t) (va_A wc H.size) a) (va_A wc H.size))
    (hK : va_K D zcl tys s) (hP : va_P D zcl ws H) (hD : va_D A ws) (hS : va_S A s.heap H locs) (hA : ∀ q, s.heap.size ≤ q → A q) (isC isR : List Nat) (hC : isC.map (fun i => ws[i]?) = wc.map some) (hR : isR.map (fun i => ws[i]?) = wr.map some) (hn : va_nd isR = true) (hdis : ∀ i ∈ isR, i ∉ isC)
    (kk : ∀ (r : Int32) (u : S) (H1 : Heap) (locs1 : List Loc), post r u → va_P D zcl (wr ++ w1 u) H1 → va_D A (wr ++ w1 u) → va_K D zcl (tys ++ t1 u) s → va_S A s.heap H1 locs1 → W p l e R s m args below meth c H1 locs1 (cells + mc) (slots + ms) Q (F0 m (pc + 3) ls (.int r :: rest))) : W p l e R s m args below meth c H locs cells slots Q (F0 m pc ls st0) := by
  have hF := va_free (wc := wc) hD hS hA isC hC
  refine va_calli hr hS (fun q _ h => hF q h) hF (fun r u t H1 locs1 ht hvm hp hB hz hk hS1 => ?_)
  obtain ⟨hP1, hK1, hD1⟩ := hB
  rw [ht] at hP1
  obtain ⟨hP2, hD2⟩ := va_join hP hD isC isR hC hR hn hdis hk hF hP1 hD1
  exact kk r u H1 locs1 hp hP2 hD2 (hK.app (va_K.moved hvm.symm hK1)) hS1
theorem zjl {S : Type} {post : Int64 → S → Prop} {w1 : S → va_W} {t1 : S → List (ClassId × FieldType)}
    (hr : va_Run p l e R s m args below meth c H locs cells slots mc ms (F0 m pc ls st0) rest (va_Ql post (fun u t => zB D (w1 u) (t1 u) (va_A wc H.size) t) (va_A wc H.size) a) (va_A wc H.size))
    (hK : va_K D zcl tys s) (hP : va_P D zcl ws H) (hD : va_D A ws) (hS : va_S A s.heap H locs) (hA : ∀ q, s.heap.size ≤ q → A q) (isC isR : List Nat) (hC : isC.map (fun i => ws[i]?) = wc.map some) (hR : isR.map (fun i => ws[i]?) = wr.map some) (hn : va_nd isR = true) (hdis : ∀ i ∈ isR, i ∉ isC)
    (kk : ∀ (r : Int64) (u : S) (H1 : Heap) (locs1 : List Loc), post r u → va_P D zcl (wr ++ w1 u) H1 → va_D A (wr ++ w1 u) → va_K D zcl (tys ++ t1 u) s → va_S A s.heap H1 locs1 → W p l e R s m args below meth c H1 locs1 (cells + mc) (slots + ms) Q (F0 m (pc + 3) ls (.long r :: rest))) : W p l e R s m args below meth c H locs cells slots Q (F0 m pc ls st0) := by
  have hF := va_free (wc := wc) hD hS hA isC hC
  refine va_calll hr hS (fun q _ h => hF q h) hF (fun r u t H1 locs1 ht hvm hp hB hz hk hS1 => ?_)
  obtain ⟨hP1, hK1, hD1⟩ := hB
  rw [ht] at hP1
  obtain ⟨hP2, hD2⟩ := va_join hP hD isC isR hC hR hn hdis hk hF hP1 hD1
  exact kk r u H1 locs1 hp hP2 hD2 (hK.app (va_K.moved hvm.symm hK1)) hS1
theorem zjv {S : Type} {post : S → Prop} {w1 : S → va_W} {t1 : S → List (ClassId × FieldType)}
    (hr : va_Run p l e R s m args below meth c H locs cells slots mc ms (F0 m pc ls st0) rest (va_Qv post (fun u t => zB D (w1 u) (t1 u) (va_A wc H.size) t) (va_A wc H.size) a) (va_A wc H.size))
    (hK : va_K D zcl tys s) (hP : va_P D zcl ws H) (hD : va_D A ws) (hS : va_S A s.heap H locs) (hA : ∀ q, s.heap.size ≤ q → A q) (isC isR : List Nat) (hC : isC.map (fun i => ws[i]?) = wc.map some) (hR : isR.map (fun i => ws[i]?) = wr.map some) (hn : va_nd isR = true) (hdis : ∀ i ∈ isR, i ∉ isC)
    (kk : ∀ (u : S) (H1 : Heap) (locs1 : List Loc), post u → va_P D zcl (wr ++ w1 u) H1 → va_D A (wr ++ w1 u) → va_K D zcl (tys ++ t1 u) s → va_S A s.heap H1 locs1 → W p l e R s m args below meth c H1 locs1 (cells + mc) (slots + ms) Q (F0 m (pc + 3) ls rest)) : W p l e R s m args below meth c H locs cells slots Q (F0 m pc ls st0) := by
  have hF := va_free (wc := wc) hD hS hA isC hC
  refine va_callv hr hS (fun q _ h => hF q h) hF (fun u t H1 locs1 ht hvm hp hB hz hk hS1 => ?_)
  obtain ⟨hP1, hK1, hD1⟩ := hB
  rw [ht] at hP1
  obtain ⟨hP2, hD2⟩ := va_join hP hD isC isR hC hR hn hdis hk hF hP1 hD1
  exact kk u H1 locs1 hp hP2 hD2 (hK.app (va_K.moved hvm.symm hK1)) hS1
theorem zBend (hK : va_K D zcl tys s) (hP : va_P D zcl ws H) (hD : va_D A ws) (is ts : List Nat) (hC : is.map (fun i => ws[i]?) = wc.map some) (hn : va_nd is = true) (htC : ts.filterMap (fun i => tys[i]?) = tc) {t : State} (ht : t.heap = H) (hW : s.WarmedH t.vm) : zB D wc tc A t :=
  ⟨by rw [ht]; exact hP.sub is (zfm hC), va_K.moved hW.alike (hK.sub ts htC), hD.sub is hn hC⟩
theorem zreti {S : Type} {post : Int32 → S → Prop} {w1 : S → va_W} {t1 : S → List (ClassId × FieldType)} {v : Int32} (hx : p.tables.exec = Jvm.exec) (hb : c.code = cc) (hr : meth.sig.returnType = some .int) (hlk : meth.locks = false)
    (hK : va_K D zcl tys s) (hP : va_P D zcl ws H) (hD : va_D A ws) (hS : va_S A s.heap H locs) (u : S) (is ts : List Nat) (hC : is.map (fun i => ws[i]?) = (w1 u).map some) (hn : va_nd is = true) (htC : ts.filterMap (fun i => tys[i]?) = t1 u) (hp : post v u) (hc : cells ≤ mc) (hs : slots ≤ ms) (hdg : decode cc pc = .ok (.ireturn, 1)) :
    W p l e R s m args below meth c H locs cells slots (MQ below (va_Qi post (fun u t => zB D (w1 u) (t1 u) A t) A) args s mc ms A) (F0 m pc ls [.int v]) :=
  W.widen hc hs (W.iret hx hb hr (fun _ ht hW => ⟨⟨v, u, rfl, hp, zBend hK hP hD is ts hC hn htC ht hW⟩, hS.F ht⟩) hS.2.2 hdg hlk)
theorem zretz {S : Type} {post : Int32 → S → Prop} {w1 : S → va_W} {t1 : S → List (ClassId × FieldType)} {v : Int32} (hx : p.tables.exec = Jvm.exec) (hb : c.code = cc) (hr : meth.sig.returnType = some .boolean) (hlk : meth.locks = false)
    (hK : va_K D zcl tys s) (hP : va_P D zcl ws H) (hD : va_D A ws) (hS : va_S A s.heap H locs) (u : S) (is ts : List Nat) (hC : is.map (fun i => ws[i]?) = (w1 u).map some) (hn : va_nd is = true) (htC : ts.filterMap (fun i => tys[i]?) = t1 u) (hp : post v u) (hv : narrow .boolean (.int v) = .int v) (hc : cells ≤ mc) (hs : slots ≤ ms) (hdg : decode cc pc = .ok (.ireturn, 1)) :
    W p l e R s m args below meth c H locs cells slots (MQ below (va_Qi post (fun u t => zB D (w1 u) (t1 u) A t) A) args s mc ms A) (F0 m pc ls [.int v]) :=
  W.widen hc hs (W.zret hx hb hr hv (fun _ ht hW => ⟨⟨v, u, rfl, hp, zBend hK hP hD is ts hC hn htC ht hW⟩, hS.F ht⟩) hS.2.2 hdg hlk)
theorem zretl {S : Type} {post : Int64 → S → Prop} {w1 : S → va_W} {t1 : S → List (ClassId × FieldType)} {v : Int64} (hx : p.tables.exec = Jvm.exec) (hb : c.code = cc) (hr : meth.sig.returnType = some .long) (hlk : meth.locks = false)
    (hK : va_K D zcl tys s) (hP : va_P D zcl ws H) (hD : va_D A ws) (hS : va_S A s.heap H locs) (u : S) (is ts : List Nat) (hC : is.map (fun i => ws[i]?) = (w1 u).map some) (hn : va_nd is = true) (htC : ts.filterMap (fun i => tys[i]?) = t1 u) (hp : post v u) (hc : cells ≤ mc) (hs : slots ≤ ms) (hdg : decode cc pc = .ok (.lreturn, 1)) :
    W p l e R s m args below meth c H locs cells slots (MQ below (va_Ql post (fun u t => zB D (w1 u) (t1 u) A t) A) args s mc ms A) (F0 m pc ls [.long v]) :=
  W.widen hc hs (W.lret hx hb hr (fun _ ht hW => ⟨⟨v, u, rfl, hp, zBend hK hP hD is ts hC hn htC ht hW⟩, hS.F ht⟩) hS.2.2 hdg hlk)
theorem zretv {S : Type} {post : S → Prop} {w1 : S → va_W} {t1 : S → List (ClassId × FieldType)} (hx : p.tables.exec = Jvm.exec) (hb : c.code = cc) (hr : meth.sig.returnType = none) (hlk : meth.locks = false)
    (hK : va_K D zcl tys s) (hP : va_P D zcl ws H) (hD : va_D A ws) (hS : va_S A s.heap H locs) (u : S) (is ts : List Nat) (hC : is.map (fun i => ws[i]?) = (w1 u).map some) (hn : va_nd is = true) (htC : ts.filterMap (fun i => tys[i]?) = t1 u) (hp : post u) (hc : cells ≤ mc) (hs : slots ≤ ms) (hdg : decode cc pc = .ok (.return_, 1)) :
    W p l e R s m args below meth c H locs cells slots (MQ below (va_Qv post (fun u t => zB D (w1 u) (t1 u) A t) A) args s mc ms A) (F0 m pc ls []) :=
  W.widen hc hs (W.vret hx hb hr (fun _ ht hW => ⟨⟨u, rfl, hp, zBend hK hP hD is ts hC hn htC ht hW⟩, hS.F ht⟩) hS.2.2 hdg hlk)
end ZKA
/-- a method's contract out of its body's walk, for any set A that holds its cells and all that are made -/
theorem zMet {l : Launch} {y : MethodName} {cc : ByteArray} {maxL : Nat} {ret : Option FieldType} {rm : Room} {av : List Value} {D : va_G} {ws : va_W} {tys : List (ClassId × FieldType)} {X : State → Prop} {Qf : (Nat → Prop) → Array Value → State → Outcome → State → Prop} {mc ms sz : Nat} (hy : plainName y.cls = true) (hl : (lg_sl av).length ≤ maxL)
    (body : ∀ (p : Program) (e : Env) (s : State) (m : MethodId) (below : List Frame) (meth : Method) (c : Code) (A : Nat → Prop) (ls : Array Slot), p.tables.exec = Jvm.exec → c.code = cc → meth.sig.returnType = ret → c.maxLocals = maxL → s.vm.findClass y.cls = some m.cls → (∀ w ∈ zt, w.before av.toArray s = true) → meth.locks = false → meth.name = y.name → (∀ q, s.heap.size ≤ q → A q) → va_K D zcl tys s → va_P D zcl ws s.heap → va_D A ws → X s → lv_has ls maxL (lv_args 0 av) →
      W p l e rm s m av.toArray below meth c s.heap [] 0 0 (MQ below (Qf A) av.toArray s mc ms A) (F0 m 0 ls [])) :
    Met l y (Cond.code y cc maxL ret :: zt) rm (zPc av D ws tys sz X) (Qf (va_A ws sz)) mc ms (va_A ws sz) := by
  refine Met.ofW (cc := cc) (maxL := maxL) (ret := ret) hy rfl ?_
  intro p e s m args below meth c s₁ B hml hv
  obtain ⟨rfl, hsz, hP, hK, hD0, hX⟩ := hv
  have hts := atoms_spec (ws := Cond.code y cc maxL ret :: zt) B.pre
  subst hsz
  have hD := hD0.self (sz := s.heap.size)
  have hl := lv_entry av (n := maxL) hl
  rw [lg_entry_eq]
  exact body p e s m below meth c _ _ B.exec B.bytes B.returns hml (findClass_of_methodNamed B.named) (fun w h => hts w (List.mem_cons_of_mem _ h)) B.notSynchronized (name_of_methodNamed B.named B.method).1 (fun q h => Or.inr h) hK hP hD hX hl
