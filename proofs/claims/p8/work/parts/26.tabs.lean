/-! the class's tables: static arrays that nobody writes -/
def ztab_0 : List Int32 := [0, 498536548, 997073096, 651767980, 1994146192, 1802195444, 1303535960, 1342533948, (-306674912), (-267414716), (-690576408), (-882789492), (-1687895376), (-2032938284), (-1609899400), (-1111625188)]
def ztab_1 : List Int32 := [16, 17, 18, 0, 8, 7, 9, 6, 10, 5, 11, 4, 12, 3, 13, 2, 14, 1, 15]
def ztab_2 : List Int32 := [3, 4, 5, 6, 7, 8, 9, 10, 11, 13, 15, 17, 19, 23, 27, 31, 35, 43, 51, 59, 67, 83, 99, 115, 131, 163, 195, 227, 258]
def ztab_3 : List Int32 := [0, 0, 0, 0, 0, 0, 0, 0, 1, 1, 1, 1, 2, 2, 2, 2, 3, 3, 3, 3, 4, 4, 4, 4, 5, 5, 5, 5, 0]
def ztab_4 : List Int32 := [1, 2, 3, 4, 5, 7, 9, 13, 17, 25, 33, 49, 65, 97, 129, 193, 257, 385, 513, 769, 1025, 1537, 2049, 3073, 4097, 6145, 8193, 12289, 16385, 24577]
def ztab_5 : List Int32 := [0, 0, 0, 0, 1, 1, 2, 2, 3, 3, 4, 4, 5, 5, 6, 6, 7, 7, 8, 8, 9, 9, 10, 10, 11, 11, 12, 12, 13, 13]
def zTabs : List (String × String × Nat × List Int32) := [("ZipGuard$Target", "HALF_BYTE_SUMS", 16, ztab_0), ("ZipGuard$Unpacker", "ORDER_OF_LENGTH_CODES", 19, ztab_1), ("ZipGuard$Unpacker", "LENGTHS", 29, ztab_2), ("ZipGuard$Unpacker", "LENGTH_BITS", 29, ztab_3), ("ZipGuard$Unpacker", "DISTANCES", 30, ztab_4), ("ZipGuard$Unpacker", "DISTANCE_BITS", 30, ztab_5)]
def zTab (A : Nat → Prop) (U : State) : Prop := ∀ x ∈ zTabs, ∃ t : Nat, va_Z x.1 x.2.1 "[I" (.ref t) A U U.heap ∧ va_T .int t x.2.2.1 (fun j => .int (x.2.2.2.getD j 0)) A U U.heap
theorem zTab_call {A A' : Nat → Prop} {s U : State} {H : Heap} {locs : List Loc} (h : zTab A s) (hS : va_S A s.heap H locs) (hF : ∀ q, A' q → A q) (hU : U.heap = H) (hvm : s.vm.Alike U.vm) : zTab A' U := fun x hx => by
  obtain ⟨t, hz, hT⟩ := h x hx
  exact ⟨t, by rw [hU]; exact ((hz.kept hS.2.1).moved hvm).narrow hF, by rw [hU]; exact ((hT.kept hS.2.1).moved hvm).narrow hF⟩
/-- the tables as a premise on a method's start: its own cells are none of them -/
def zXT (ws : va_W) (U : State) : Prop := zTab (va_A ws U.heap.size) U
theorem zBlind_XT (ws : va_W) : zBlind (zXT ws) := fun U U' h hh hx => by
  unfold zXT at hx ⊢
  rw [hh]
  exact zTab_call hx va_S.rf (fun _ h => h) hh h
theorem zXT_call {A : Nat → Prop} {s : State} {H : Heap} {locs : List Loc} {ws wc : va_W} (h : zTab A s) (hD : va_D A ws) (hS : va_S A s.heap H locs) (hA : ∀ q, s.heap.size ≤ q → A q) (isC : List Nat) (hC : isC.map (fun i => ws[i]?) = wc.map some) : ∀ U : State, U.heap = H → s.WarmedH U.vm → zXT wc U := fun U hU hW => by
  unfold zXT
  rw [hU]
  exact zTab_call h hS (va_free (wc := wc) hD hS hA isC hC) hU hW.alike
/-- as zMet; the set A is known -/
theorem zMetA {l : Launch} {y : MethodName} {cc : ByteArray} {maxL : Nat} {ret : Option FieldType} {rm : Room} {av : List Value} {D : va_G} {ws : va_W} {tys : List (ClassId × FieldType)} {Qf : (Nat → Prop) → Array Value → State → Outcome → State → Prop} {mc ms sz : Nat} (hy : plainName y.cls = true) (hl : (lg_sl av).length ≤ maxL)
    (body : ∀ (p : Program) (e : Env) (s : State) (m : MethodId) (below : List Frame) (meth : Method) (c : Code) (A : Nat → Prop) (ls : Array Slot), p.tables.exec = Jvm.exec → c.code = cc → meth.sig.returnType = ret → c.maxLocals = maxL → s.vm.findClass y.cls = some m.cls → (∀ w ∈ zt, w.before av.toArray s = true) → meth.locks = false → meth.name = y.name → (∀ q, s.heap.size ≤ q → A q) → va_K D zcl tys s → va_P D zcl ws s.heap → va_D A ws → zTab A s → lv_has ls maxL (lv_args 0 av) →
      W p l e rm s m av.toArray below meth c s.heap [] 0 0 (MQ below (Qf A) av.toArray s mc ms A) (F0 m 0 ls [])) :
    Met l y (Cond.code y cc maxL ret :: zt) rm (zPc av D ws tys sz (zXT ws)) (Qf (va_A ws sz)) mc ms (va_A ws sz) := by
  refine Met.ofW (cc := cc) (maxL := maxL) (ret := ret) hy rfl ?_
  intro p e s m args below meth c s₁ B hml hv
  obtain ⟨rfl, hsz, hP, hK, hD0, hX⟩ := hv
  have hts := atoms_spec (ws := Cond.code y cc maxL ret :: zt) B.pre
  subst hsz
  have hD := hD0.self (sz := s.heap.size)
  have hl := lv_entry av (n := maxL) hl
  rw [lg_entry_eq]
  exact body p e s m below meth c _ _ B.exec B.bytes B.returns hml (findClass_of_methodNamed B.named) (fun w h => hts w (List.mem_cons_of_mem _ h)) B.notSynchronized (name_of_methodNamed B.named B.method).1 (fun q h => Or.inr h) hK hP hD hX hl
theorem zcmp_lt (x y : Int64) : lg_cmp x y < 0 ↔ x < y := by
  unfold lg_cmp
  by_cases h1 : y < x
  · simp only [h1, if_true]
    refine ⟨fun h => absurd h (by decide), fun h => absurd h1 (fun h2 => absurd (Int64.lt_iff_toInt_lt.mp h) (by have := Int64.lt_iff_toInt_lt.mp h2; omega))⟩
  · by_cases h2 : x = y
    · subst h2
      simp only [h1, if_false, if_true]
      exact ⟨fun h => absurd h (by decide), fun h => h.elim⟩
    · simp only [h1, h2, if_false]
      refine ⟨fun _ => ?_, fun _ => by decide⟩
      rw [Int64.lt_iff_toInt_lt] at h1 ⊢
      have h3 : x.toInt ≠ y.toInt := fun h => h2 (Int64.toInt_inj.mp h)
      omega
