/-! methods that change nothing: the heap behind them is the heap ahead -/
def zQR (post : Int32 → Prop) : Array Value → State → Outcome → State → Prop := fun _ st o t => (∃ r : Int32, o = .returned (some (.int r)) ∧ post r) ∧ t.heap = st.heap
def zQRl (post : Int64 → Prop) : Array Value → State → Outcome → State → Prop := fun _ st o t => (∃ r : Int64, o = .returned (some (.long r)) ∧ post r) ∧ t.heap = st.heap
def zPcR (av : List Value) (D : va_G) (ws : va_W) (tys : List (ClassId × FieldType)) (X : State → Prop) : Array Value → State → Prop :=
  va_Pc av (fun U => va_P D zcl ws U.heap ∧ va_K D zcl tys U ∧ X U)
theorem zPcR_blind {av : List Value} {D : va_G} {ws : va_W} {tys : List (ClassId × FieldType)} {X : State → Prop} (hX : zBlind X) : FrameBlind (zPcR av D ws tys X) := fun a U g mk q => by
  obtain ⟨q0, qP, qK, qX⟩ := q
  exact ⟨q0, qP, va_K.moved (u := U) (U := U.calling g mk a) (Vm.Alike.refl U.vm) qK, hX U _ (Vm.Alike.refl U.vm) rfl qX⟩
section ZRD
variable {p : Program} {l : Launch} {e : Env} {R : Room} {s : State} {m : MethodId} {args : Array Value} {below : List Frame} {meth : Method} {c : Code} {H : Heap} {locs : List Loc} {cells slots : Nat} {Q : State → Prop}
variable {cc : ByteArray} {pc : Nat} {ls : Array Slot} {rest st0 : List Value} {a : Array Value} {D : va_G} {tys tc : List (ClassId × FieldType)} {ws wc : va_W}
theorem zpreR {X : State → Prop} (hX : zBlind X) (hK : va_K D zcl tys s) (hP : va_P D zcl ws H) (isC tC : List Nat) (hC : isC.map (fun i => ws[i]?) = wc.map some) (htC : tC.filterMap (fun i => tys[i]?) = tc) (hx : ∀ U : State, U.heap = H → s.WarmedH U.vm → X U) {av : List Value} : PreS s H (zPcR av D wc tc X) av :=
  ⟨zPcR_blind hX, fun U hU hW => ⟨rfl, by rw [hU]; exact hP.sub isC (zfm hC), va_K.moved hW.alike (hK.sub tC htC), hx U hU hW⟩⟩
theorem zpreRV {X : State → Prop} (hX : zBlind X) (hK : va_K D zcl tys s) (hP : va_P D zcl ws H) (isC tC : List Nat) (hC : isC.map (fun i => ws[i]?) = wc.map some) (htC : tC.filterMap (fun i => tys[i]?) = tc) (hx : ∀ U : State, U.heap = H → s.WarmedH U.vm → X U) {b : Nat} {C : String} {As : List Value} (hr : ∃ cellB : Cell, H[b]? = some cellB ∧ cellB.vm.isStatics = false ∧ s.vm.findClass C = some cellB.cls) : PreV s H C b (zPcR (.ref b :: As) D wc tc X) As :=
  ⟨zPcR_blind hX, hr, (zpreR hX hK hP isC tC hC htC hx).2⟩
theorem zjR {post : Int32 → Prop} (hr : va_Run p l e R s m args below meth c H locs cells slots 0 0 (F0 m pc ls st0) rest (zQR post a) (fun _ => False))
    (kk : ∀ r : Int32, post r → W p l e R s m args below meth c H locs cells slots Q (F0 m (pc + 3) ls (.int r :: rest))) : W p l e R s m args below meth c H locs cells slots Q (F0 m pc ls st0) := by
  intro T hT X
  obtain ⟨v, st₀, t, T', L, h0, X', hL, e1, e2, ⟨⟨r, hv, hp⟩, hh⟩, st⟩ := hr T hT X
  cases hv
  have hL0 : L = [] := by
    cases L with
    | nil => rfl
    | cons q _ => exact (hL q List.mem_cons_self).elim
  subst hL0
  rw [List.append_nil] at X'
  obtain ⟨t2, a1, b1⟩ := kk r hp T' (by rw [e1, hh, h0]) X'
  exact ⟨t2, st t2 a1, b1⟩
theorem zjRl {post : Int64 → Prop} (hr : va_Run p l e R s m args below meth c H locs cells slots 0 0 (F0 m pc ls st0) rest (zQRl post a) (fun _ => False))
    (kk : ∀ r : Int64, post r → W p l e R s m args below meth c H locs cells slots Q (F0 m (pc + 3) ls (.long r :: rest))) : W p l e R s m args below meth c H locs cells slots Q (F0 m pc ls st0) := by
  intro T hT X
  obtain ⟨v, st₀, t, T', L, h0, X', hL, e1, e2, ⟨⟨r, hv, hp⟩, hh⟩, st⟩ := hr T hT X
  cases hv
  have hL0 : L = [] := by
    cases L with
    | nil => rfl
    | cons q _ => exact (hL q List.mem_cons_self).elim
  subst hL0
  rw [List.append_nil] at X'
  obtain ⟨t2, a1, b1⟩ := kk r hp T' (by rw [e1, hh, h0]) X'
  exact ⟨t2, st t2 a1, b1⟩
theorem zretR {post : Int32 → Prop} {v : Int32} (hx : p.tables.exec = Jvm.exec) (hb : c.code = cc) (hr : meth.sig.returnType = some .int) (hlk : meth.locks = false) (hp : post v) (hdg : decode cc pc = .ok (.ireturn, 1)) :
    W p l e R s m args below meth c s.heap [] 0 0 (MQ below (zQR post) args s 0 0 (fun _ => False)) (F0 m pc ls [.int v]) :=
  W.iret hx hb hr (fun _ ht _ => ⟨⟨v, rfl, hp⟩, ht⟩) (fun _ h => nomatch h) hdg hlk
theorem zretRz {post : Int32 → Prop} {v : Int32} (hx : p.tables.exec = Jvm.exec) (hb : c.code = cc) (hr : meth.sig.returnType = some .boolean) (hlk : meth.locks = false) (hp : post v) (hn : narrow .boolean (.int v) = .int v) (hdg : decode cc pc = .ok (.ireturn, 1)) :
    W p l e R s m args below meth c s.heap [] 0 0 (MQ below (zQR post) args s 0 0 (fun _ => False)) (F0 m pc ls [.int v]) :=
  W.zret hx hb hr hn (fun _ ht _ => ⟨⟨v, rfl, hp⟩, ht⟩) (fun _ h => nomatch h) hdg hlk
theorem zretRl {post : Int64 → Prop} {v : Int64} (hx : p.tables.exec = Jvm.exec) (hb : c.code = cc) (hr : meth.sig.returnType = some .long) (hlk : meth.locks = false) (hp : post v) (hdg : decode cc pc = .ok (.lreturn, 1)) :
    W p l e R s m args below meth c s.heap [] 0 0 (MQ below (zQRl post) args s 0 0 (fun _ => False)) (F0 m pc ls [.long v]) :=
  W.lret hx hb hr (fun _ ht _ => ⟨⟨v, rfl, hp⟩, ht⟩) (fun _ h => nomatch h) hdg hlk
end ZRD
theorem zMetR {l : Launch} {y : MethodName} {cc : ByteArray} {maxL : Nat} {ret : Option FieldType} {rm : Room} {av : List Value} {D : va_G} {ws : va_W} {tys : List (ClassId × FieldType)} {X : State → Prop} {Qc : Array Value → State → Outcome → State → Prop} (hy : plainName y.cls = true) (hl : (lg_sl av).length ≤ maxL)
    (body : ∀ (p : Program) (e : Env) (s : State) (m : MethodId) (below : List Frame) (meth : Method) (c : Code) (ls : Array Slot), p.tables.exec = Jvm.exec → c.code = cc → meth.sig.returnType = ret → c.maxLocals = maxL → s.vm.findClass y.cls = some m.cls → (∀ w ∈ zt, w.before av.toArray s = true) → meth.locks = false → va_K D zcl tys s → va_P D zcl ws s.heap → X s → lv_has ls maxL (lv_args 0 av) →
      W p l e rm s m av.toArray below meth c s.heap [] 0 0 (MQ below Qc av.toArray s 0 0 (fun _ => False)) (F0 m 0 ls [])) :
    Met l y (Cond.code y cc maxL ret :: zt) rm (zPcR av D ws tys X) Qc 0 0 (fun _ => False) := by
  refine Met.ofW (cc := cc) (maxL := maxL) (ret := ret) hy rfl ?_
  intro p e s m args below meth c s₁ B hml hv
  obtain ⟨rfl, hP, hK, hX⟩ := hv
  have hts := atoms_spec (ws := Cond.code y cc maxL ret :: zt) B.pre
  have hl := lv_entry av (n := maxL) hl
  rw [lg_entry_eq]
  exact body p e s m below meth c _ B.exec B.bytes B.returns hml (findClass_of_methodNamed B.named) (fun w h => hts w (List.mem_cons_of_mem _ h)) B.notSynchronized hK hP hX hl
/-! numbers of a tape: a byte by its place, two and four bytes -/
def zb (f : Nat → Int32) (k : Nat) : Nat := (f k &&& 255).toBitVec.toNat
theorem zb_eq (f : Nat → Int32) (k : Nat) : f k &&& 255 = nI (zb f k) := by
  obtain ⟨j, hj, e⟩ := pk_andE (f k) (m := 255) 8 (by decide)
  unfold zb
  rw [e, pk_tn (by omega)]
theorem zb_lt (f : Nat → Int32) (k : Nat) : zb f k < 256 := by
  obtain ⟨j, hj, e⟩ := pk_andE (f k) (m := 255) 8 (by decide)
  unfold zb
  rw [e, pk_tn (by omega)]
  omega
