/-! worlds with a pool behind them -/
theorem zP_perm {D : va_G} {cl : List vw_C} {ws ws' : va_W} {H : Heap} (h : va_P D cl ws H) (hp : ws.Perm ws') : va_P D cl ws' H := fun k q hk => by
  obtain ⟨i, hi⟩ := List.getElem?_of_mem (hp.mem_iff.mpr (List.mem_of_getElem? hk))
  exact h i q hi
theorem zD_iff {A : Nat → Prop} {ws : va_W} : va_D A ws ↔ (ws.map Prod.fst).Nodup ∧ ∀ q ∈ ws, A q.1 := by
  unfold va_D
  constructor
  · intro h
    refine ⟨List.pairwise_iff_getElem.mpr (fun i j hi hj hij e => ?_), fun q hq => ?_⟩
    · rw [List.length_map] at hi hj
      rw [List.getElem_map, List.getElem_map] at e
      have := h.1 i j _ _ (List.getElem?_eq_getElem hi) (List.getElem?_eq_getElem hj) e
      omega
    · obtain ⟨i, hi⟩ := List.getElem?_of_mem hq
      exact h.2 i q hi
  · intro h
    refine ⟨fun i j p q hi hj e => ?_, fun k q hk => h.2 q (List.mem_of_getElem? hk)⟩
    have hn := List.pairwise_iff_getElem.mp h.1
    obtain ⟨hil, hi2⟩ := List.getElem?_eq_some_iff.mp hi
    obtain ⟨hjl, hj2⟩ := List.getElem?_eq_some_iff.mp hj
    have e1 : (ws.map Prod.fst)[i]'(by rw [List.length_map]; exact hil) = (ws.map Prod.fst)[j]'(by rw [List.length_map]; exact hjl) := by rw [List.getElem_map, List.getElem_map, hi2, hj2]; exact e
    rcases Nat.lt_trichotomy i j with h1 | h1 | h1
    · exact absurd e1 (hn i j _ _ h1)
    · exact h1
    · exact absurd e1.symm (hn j i _ _ h1)
theorem zD_perm {A : Nat → Prop} {ws ws' : va_W} (h : va_D A ws) (hp : ws.Perm ws') : va_D A ws' := by
  have h1 := zD_iff.mp h
  exact zD_iff.mpr ⟨(hp.map Prod.fst).nodup_iff.mp h1.1, fun q hq => h1.2 q (hp.mem_iff.mpr hq)⟩
theorem zcut {α : Type} {L : List α} {k : Nat} {x : α} (h : L[k]? = some x) : L = L.take k ++ x :: L.drop (k + 1) := by
  have hk := (List.getElem?_eq_some_iff.mp h).1
  have e := (List.getElem?_eq_some_iff.mp h).2
  rw [← e, List.getElem_cons_drop, List.take_append_drop]
theorem zcut2 {α : Type} {L : List α} {k : Nat} (y : α) (hk : k < L.length) : L.set k y = L.take k ++ y :: L.drop (k + 1) := by
  rw [List.set_eq_take_append_cons_drop, if_pos hk]
theorem zper {α β : Type} (X : List β) {L : List α} (F : α → List β) {k : Nat} {x : α} (h : L[k]? = some x) : (X ++ L.flatMap F).Perm ((X ++ F x) ++ (L.eraseIdx k).flatMap F) := by
  have e := zcut h
  have e2 : L.eraseIdx k = L.take k ++ L.drop (k + 1) := List.eraseIdx_eq_take_drop_succ _ _
  have e3 : L.flatMap F = (L.take k).flatMap F ++ (F x ++ (L.drop (k + 1)).flatMap F) := by
    conv => lhs; rw [e]
    rw [List.flatMap_append, List.flatMap_cons]
  rw [e3, e2, List.flatMap_append, List.append_assoc]
  refine List.Perm.append_left X ?_
  rw [← List.append_assoc, ← List.append_assoc]
  exact List.Perm.append_right _ List.perm_append_comm
theorem zper2 {α β : Type} (X : List β) {L : List α} (F : α → List β) {k : Nat} (y : α) (hk : k < L.length) : ((X ++ F y) ++ (L.eraseIdx k).flatMap F).Perm (X ++ (L.set k y).flatMap F) := by
  have h : (L.set k y)[k]? = some y := by rw [List.getElem?_set_self hk]
  have h2 := (zper X F h).symm
  have e : (L.set k y).eraseIdx k = L.eraseIdx k := by
    rw [List.eraseIdx_eq_take_drop_succ, List.eraseIdx_eq_take_drop_succ, List.take_set_of_le (Nat.le_refl k), List.drop_set_of_lt (Nat.lt_succ_self k)]
  rw [e] at h2
  exact h2
/-- an entry: its place and its row's, name length, folder, method, packed, size, sum, local place, packed place, state, out place, out length, name -/
abbrev zE : Type := Nat × Nat × Int × Int × Int × Int × Int × Int × Int × Int × Int × Int × Int × (Nat → Int32)
def zEe (cN : ClassId) : zE → va_W
  | (a, nd, nl, fo, me, pk, sz, su, lp, pp, st, op, ol, nf) => [(a, .inr (7, [.ref nd, .int (iI nl), .int (iI fo), .int (iI me), .int (iI pk), .long (lI sz), .int (iI su), .int (iI lp), .int (iI pp), .int (iI st), .int (iI op), .int (iI ol)])), (nd, .inl (cN, 60, .inl nf))]
def zPl (cN : ClassId) (L : List zE) : va_W := L.flatMap (zEe cN)
def zEk : zE → Prop
  | (_, _, nl, fo, _, pk, sz, _, lp, pp, _, op, ol, _) => 0 ≤ nl ∧ nl ≤ 60 ∧ 0 ≤ fo ∧ fo ≤ 1 ∧ 0 ≤ pk ∧ 0 ≤ pp ∧ pp + pk ≤ 20000 ∧ (-2147483648 ≤ lp ∧ lp ≤ 2147483647) ∧ 0 ≤ sz ∧ sz ≤ 4294967295 ∧ 0 ≤ op ∧ op ≤ 40000 ∧ 0 ≤ ol ∧ ol ≤ 40000
def zPo (ad : Nat → Nat) (L : List zE) : Prop := L.length = 64 ∧ ∀ k, k < 64 → ∃ x, L[k]? = some (ad k, x) ∧ zEk (ad k, x)
theorem zpl_out {D : va_G} {cl : List vw_C} {X : va_W} {H : Heap} {cN : ClassId} {L : List zE} {k : Nat} {y : zE} (h : va_P D cl (X ++ zPl cN L) H) (hy : L[k]? = some y) : va_P D cl ((X ++ zEe cN y) ++ zPl cN (L.eraseIdx k)) H := zP_perm h (zper X (zEe cN) hy)
theorem zpl_outD {A : Nat → Prop} {X : va_W} {cN : ClassId} {L : List zE} {k : Nat} {y : zE} (h : va_D A (X ++ zPl cN L)) (hy : L[k]? = some y) : va_D A ((X ++ zEe cN y) ++ zPl cN (L.eraseIdx k)) := zD_perm h (zper X (zEe cN) hy)
theorem zpl_in {D : va_G} {cl : List vw_C} {X : va_W} {H : Heap} {cN : ClassId} {L : List zE} {k : Nat} (y : zE) (h : va_P D cl ((X ++ zEe cN y) ++ zPl cN (L.eraseIdx k)) H) (hk : k < L.length) : va_P D cl (X ++ zPl cN (L.set k y)) H := zP_perm h (zper2 X (zEe cN) y hk)
theorem zpl_inD {A : Nat → Prop} {X : va_W} {cN : ClassId} {L : List zE} {k : Nat} (y : zE) (h : va_D A ((X ++ zEe cN y) ++ zPl cN (L.eraseIdx k))) (hk : k < L.length) : va_D A (X ++ zPl cN (L.set k y)) := zD_perm h (zper2 X (zEe cN) y hk)
theorem zPo_set {ad : Nat → Nat} {L : List zE} (h : zPo ad L) {k : Nat} {x : Nat × Int × Int × Int × Int × Int × Int × Int × Int × Int × Int × Int × (Nat → Int32)} (hk : k < 64) (hx : zEk (ad k, x)) : zPo ad (L.set k (ad k, x)) := by
  refine ⟨by rw [List.length_set]; exact h.1, fun j hj => ?_⟩
  by_cases e : k = j
  · subst e
    exact ⟨x, by rw [List.getElem?_set_self (by rw [h.1]; exact hk)], hx⟩
  · obtain ⟨y, h1, h2⟩ := h.2 j hj
    exact ⟨y, by rw [List.getElem?_set_ne e]; exact h1, h2⟩
theorem zapp {X pl : va_W} : ∀ {is : List Nat} {wc : va_W}, is.map (fun i => X[i]?) = wc.map some → is.map (fun i => (X ++ pl)[i]?) = wc.map some
  | [], [], _ => rfl
  | [], _ :: _, h => by simp at h
  | _ :: _, [], h => by simp at h
  | i :: is, x :: w, h => by
    simp only [List.map_cons, List.cons.injEq] at h ⊢
    exact ⟨by rw [List.getElem?_append_left (List.getElem?_eq_some_iff.mp h.1).1]; exact h.1, zapp h.2⟩
section ZPO
variable {p : Program} {l : Launch} {e : Env} {R : Room} {s : State} {m : MethodId} {args : Array Value} {below : List Frame} {meth : Method} {c : Code} {H : Heap} {locs : List Loc} {cells slots : Nat} {Q : State → Prop}
variable {cc : ByteArray} {pc : Nat} {ls : Array Slot} {rest st0 : List Value} {a : Array Value} {A : Nat → Prop} {mc ms : Nat} {D : va_G} {tys tc : List (ClassId × FieldType)} {X wc wr pl : va_W}
theorem zjiQ {S : Type} {post : Int32 → S → Prop} {w1 : S → va_W} {t1 : S → List (ClassId × FieldType)}
    (hr : va_Run p l e R s m args below meth c H locs cells slots mc ms (F0 m pc ls st0) rest (va_Qi post (fun u t => zB D (w1 u) (t1 u) (va_A wc H.size) t) (va_A wc H.size) a) (va_A wc H.size))
    (hK : va_K D zcl tys s) (hP : va_P D zcl (X ++ pl) H) (hD : va_D A (X ++ pl)) (hS : va_S A s.heap H locs) (hA : ∀ q, s.heap.size ≤ q → A q) (isC isR : List Nat) (hC : isC.map (fun i => X[i]?) = wc.map some) (hR : isR.map (fun i => X[i]?) = wr.map some) (hn : va_nd isR = true) (hdis : ∀ i ∈ isR, i ∉ isC)
    (kk : ∀ (r : Int32) (u : S) (H1 : Heap) (locs1 : List Loc), post r u → va_P D zcl ((wr ++ w1 u) ++ pl) H1 → va_D A ((wr ++ w1 u) ++ pl) → va_K D zcl (tys ++ t1 u) s → va_S A s.heap H1 locs1 → W p l e R s m args below meth c H1 locs1 (cells + mc) (slots + ms) Q (F0 m (pc + 3) ls (.int r :: rest))) : W p l e R s m args below meth c H locs cells slots Q (F0 m pc ls st0) := by
  have hF := va_free (wc := wc) hD hS hA isC (zapp hC)
  refine va_calli hr hS (fun q _ h => hF q h) hF (fun r u t H1 locs1 ht hvm hp hB hz hk hS1 => ?_)
  obtain ⟨hP1, hK1, hD1⟩ := hB
  rw [ht] at hP1
  obtain ⟨hP2, hD2⟩ := va_joinQ hP hD isC isR hC hR hn hdis hk hF hP1 hD1
  exact kk r u H1 locs1 hp hP2 hD2 (hK.app (va_K.moved hvm.symm hK1)) hS1
theorem zjiP {S : Type} {post : Int32 → S → Prop} {w1 : S → va_W} {p1 : S → va_W} {t1 : S → List (ClassId × FieldType)}
    (hr : va_Run p l e R s m args below meth c H locs cells slots mc ms (F0 m pc ls st0) rest (va_Qi post (fun u t => zB D (w1 u ++ p1 u) (t1 u) (va_A (wc ++ pl) H.size) t) (va_A (wc ++ pl) H.size) a) (va_A (wc ++ pl) H.size))
    (hK : va_K D zcl tys s) (hP : va_P D zcl (X ++ pl) H) (hD : va_D A (X ++ pl)) (hS : va_S A s.heap H locs) (hA : ∀ q, s.heap.size ≤ q → A q) (isC isR : List Nat) (hC : isC.map (fun i => X[i]?) = wc.map some) (hR : isR.map (fun i => X[i]?) = wr.map some) (hn : va_nd isR = true) (hdis : ∀ i ∈ isR, i ∉ isC)
    (kk : ∀ (r : Int32) (u : S) (H1 : Heap) (locs1 : List Loc), post r u → va_P D zcl ((wr ++ w1 u) ++ p1 u) H1 → va_D A ((wr ++ w1 u) ++ p1 u) → va_K D zcl (tys ++ t1 u) s → va_S A s.heap H1 locs1 → W p l e R s m args below meth c H1 locs1 (cells + mc) (slots + ms) Q (F0 m (pc + 3) ls (.int r :: rest))) : W p l e R s m args below meth c H locs cells slots Q (F0 m pc ls st0) := by
  have hF := va_freeP hD hS hA isC hC
  refine va_calli hr hS (fun q _ h => hF q h) hF (fun r u t H1 locs1 ht hvm hp hB hz hk hS1 => ?_)
  obtain ⟨hP1, hK1, hD1⟩ := hB
  rw [ht] at hP1
  obtain ⟨hP2, hD2⟩ := va_joinP hP hD isC isR hC hR hn hdis hk hF hP1 hD1
  exact kk r u H1 locs1 hp hP2 hD2 (hK.app (va_K.moved hvm.symm hK1)) hS1
theorem zjvQ {S : Type} {post : S → Prop} {w1 : S → va_W} {t1 : S → List (ClassId × FieldType)}
    (hr : va_Run p l e R s m args below meth c H locs cells slots mc ms (F0 m pc ls st0) rest (va_Qv post (fun u t => zB D (w1 u) (t1 u) (va_A wc H.size) t) (va_A wc H.size) a) (va_A wc H.size))
    (hK : va_K D zcl tys s) (hP : va_P D zcl (X ++ pl) H) (hD : va_D A (X ++ pl)) (hS : va_S A s.heap H locs) (hA : ∀ q, s.heap.size ≤ q → A q) (isC isR : List Nat) (hC : isC.map (fun i => X[i]?) = wc.map some) (hR : isR.map (fun i => X[i]?) = wr.map some) (hn : va_nd isR = true) (hdis : ∀ i ∈ isR, i ∉ isC)
    (kk : ∀ (u : S) (H1 : Heap) (locs1 : List Loc), post u → va_P D zcl ((wr ++ w1 u) ++ pl) H1 → va_D A ((wr ++ w1 u) ++ pl) → va_K D zcl (tys ++ t1 u) s → va_S A s.heap H1 locs1 → W p l e R s m args below meth c H1 locs1 (cells + mc) (slots + ms) Q (F0 m (pc + 3) ls rest)) : W p l e R s m args below meth c H locs cells slots Q (F0 m pc ls st0) := by
  have hF := va_free (wc := wc) hD hS hA isC (zapp hC)
  refine va_callv hr hS (fun q _ h => hF q h) hF (fun u t H1 locs1 ht hvm hp hB hz hk hS1 => ?_)
  obtain ⟨hP1, hK1, hD1⟩ := hB
  rw [ht] at hP1
  obtain ⟨hP2, hD2⟩ := va_joinQ hP hD isC isR hC hR hn hdis hk hF hP1 hD1
  exact kk u H1 locs1 hp hP2 hD2 (hK.app (va_K.moved hvm.symm hK1)) hS1
theorem zjvP {S : Type} {post : S → Prop} {w1 : S → va_W} {p1 : S → va_W} {t1 : S → List (ClassId × FieldType)}
    (hr : va_Run p l e R s m args below meth c H locs cells slots mc ms (F0 m pc ls st0) rest (va_Qv post (fun u t => zB D (w1 u ++ p1 u) (t1 u) (va_A (wc ++ pl) H.size) t) (va_A (wc ++ pl) H.size) a) (va_A (wc ++ pl) H.size))
    (hK : va_K D zcl tys s) (hP : va_P D zcl (X ++ pl) H) (hD : va_D A (X ++ pl)) (hS : va_S A s.heap H locs) (hA : ∀ q, s.heap.size ≤ q → A q) (isC isR : List Nat) (hC : isC.map (fun i => X[i]?) = wc.map some) (hR : isR.map (fun i => X[i]?) = wr.map some) (hn : va_nd isR = true) (hdis : ∀ i ∈ isR, i ∉ isC)
    (kk : ∀ (u : S) (H1 : Heap) (locs1 : List Loc), post u → va_P D zcl ((wr ++ w1 u) ++ p1 u) H1 → va_D A ((wr ++ w1 u) ++ p1 u) → va_K D zcl (tys ++ t1 u) s → va_S A s.heap H1 locs1 → W p l e R s m args below meth c H1 locs1 (cells + mc) (slots + ms) Q (F0 m (pc + 3) ls rest)) : W p l e R s m args below meth c H locs cells slots Q (F0 m pc ls st0) := by
  have hF := va_freeP hD hS hA isC hC
  refine va_callv hr hS (fun q _ h => hF q h) hF (fun u t H1 locs1 ht hvm hp hB hz hk hS1 => ?_)
  obtain ⟨hP1, hK1, hD1⟩ := hB
  rw [ht] at hP1
  obtain ⟨hP2, hD2⟩ := va_joinP hP hD isC isR hC hR hn hdis hk hF hP1 hD1
  exact kk u H1 locs1 hp hP2 hD2 (hK.app (va_K.moved hvm.symm hK1)) hS1
theorem zpreVP {X0 : State → Prop} (hX : zBlind X0) (hK : va_K D zcl tys s) (hP : va_P D zcl (X ++ pl) H) (hD : va_D A (X ++ pl)) (isC tC : List Nat) (hC : isC.map (fun i => X[i]?) = wc.map some) (hn : va_nd isC = true) (htC : tC.filterMap (fun i => tys[i]?) = tc) (hx : ∀ U : State, U.heap = H → s.WarmedH U.vm → X0 U) {b : Nat} {C : String} {As : List Value} (hr : ∃ cellB : Cell, H[b]? = some cellB ∧ cellB.vm.isStatics = false ∧ s.vm.findClass C = some cellB.cls) : PreV s H C b (zPc (.ref b :: As) D (wc ++ pl) tc H.size X0) As :=
  ⟨zPc_blind hX, hr, fun U hU hW => ⟨rfl, by rw [hU], by rw [hU]; exact hP.part isC hC, va_K.moved hW.alike (hK.sub tC htC), (hD.part isC hn hC).weaken (fun _ _ _ _ => trivial), hx U hU hW⟩⟩
theorem zBendP {w : va_W} (hK : va_K D zcl tys s) (hP : va_P D zcl (X ++ pl) H) (hD : va_D A (X ++ pl)) (is ts : List Nat) (hC : is.map (fun i => X[i]?) = wc.map some) (hn : va_nd is = true) (htC : ts.filterMap (fun i => tys[i]?) = tc) (hw : pl = w) {t : State} (ht : t.heap = H) (hW : s.WarmedH t.vm) : zB D (wc ++ w) tc A t := by
  subst hw
  exact ⟨by rw [ht]; exact hP.part is hC, va_K.moved hW.alike (hK.sub ts htC), hD.part is hn hC⟩
theorem zretiP {S : Type} {post : Int32 → S → Prop} {w1 p1 : S → va_W} {t1 : S → List (ClassId × FieldType)} {v : Int32} (hx : p.tables.exec = Jvm.exec) (hb : c.code = cc) (hr : meth.sig.returnType = some .int) (hlk : meth.locks = false)
    (hK : va_K D zcl tys s) (hP : va_P D zcl (X ++ pl) H) (hD : va_D A (X ++ pl)) (hS : va_S A s.heap H locs) (u : S) (is ts : List Nat) (hC : is.map (fun i => X[i]?) = (w1 u).map some) (hn : va_nd is = true) (htC : ts.filterMap (fun i => tys[i]?) = t1 u) (hw : pl = p1 u) (hp : post v u) (hc : cells ≤ mc) (hs : slots ≤ ms) (hdg : decode cc pc = .ok (.ireturn, 1)) :
    W p l e R s m args below meth c H locs cells slots (MQ below (va_Qi post (fun u t => zB D (w1 u ++ p1 u) (t1 u) A t) A) args s mc ms A) (F0 m pc ls [.int v]) :=
  W.widen hc hs (W.iret hx hb hr (fun _ ht hW => ⟨⟨v, u, rfl, hp, zBendP hK hP hD is ts hC hn htC hw ht hW⟩, hS.F ht⟩) hS.2.2 hdg hlk)
theorem zretvP {S : Type} {post : S → Prop} {w1 p1 : S → va_W} {t1 : S → List (ClassId × FieldType)} (hx : p.tables.exec = Jvm.exec) (hb : c.code = cc) (hr : meth.sig.returnType = none) (hlk : meth.locks = false)
    (hK : va_K D zcl tys s) (hP : va_P D zcl (X ++ pl) H) (hD : va_D A (X ++ pl)) (hS : va_S A s.heap H locs) (u : S) (is ts : List Nat) (hC : is.map (fun i => X[i]?) = (w1 u).map some) (hn : va_nd is = true) (htC : ts.filterMap (fun i => tys[i]?) = t1 u) (hw : pl = p1 u) (hp : post u) (hc : cells ≤ mc) (hs : slots ≤ ms) (hdg : decode cc pc = .ok (.return_, 1)) :
    W p l e R s m args below meth c H locs cells slots (MQ below (va_Qv post (fun u t => zB D (w1 u ++ p1 u) (t1 u) A t) A) args s mc ms A) (F0 m pc ls []) :=
  W.widen hc hs (W.vret hx hb hr (fun _ ht hW => ⟨⟨u, rfl, hp, zBendP hK hP hD is ts hC hn htC hw ht hW⟩, hS.F ht⟩) hS.2.2 hdg hlk)
theorem zv_aald (hx : p.tables.exec = Jvm.exec) (hb : c.code = cc) {cl : List vw_C} {ws : va_W} {aa : Nat} (hK : va_K D cl tys s) (hP : va_P D cl ws H) (q0 t0 : Nat) {cA : ClassId} {C : String} {n : Nat} {fe : Nat → Option Nat} {ad : Nat → Nat} (hfe : ∀ k : Nat, k < n → fe k = some (ad k)) (ha : ws[q0]? = some (aa, .inl (cA, n, .inr (.inr (.inr (.inr fe)))))) (ht : tys[t0]? = some (cA, .object C)) {x : Int} (h : 0 ≤ x ∧ x < n) (hn : n < 2147483648) (hd : decode cc pc = .ok (.aaload, 1))
    (kk : W p l e R s m args below meth c H locs cells slots Q (F0 m (pc + 1) ls (.ref (ad x.toNat) :: rest))) : W p l e R s m args below meth c H locs cells slots Q (F0 m pc ls (.int (iI x) :: .ref aa :: rest)) := va_aldq hx hb hK hP q0 t0 ha ht (iI_in h.1 h.2 hn) hd (by
  rw [iI_clamp h.1 (by omega), hfe _ (by omega)]
  exact kk)
end ZPO
/-! what the entries of the pool hold, as the tape tells it -/
def zEn (g : Int → Int) (u : Int) : zE → Prop
  | (_, _, nl, fo, _, _, _, _, _, _, _, _, _, nf) => nl = zg2 g (u + 28) ∧ zTf fo (zrI nf (nl - 1) = 47) ∧ ∀ t : Int, 0 ≤ t → t < nl → zrI nf t = zrw g u t
def zEm (g : Int → Int) (u : Int) : zE → Prop
  | (_, _, _, _, me, pk, sz, su, lp, pp, st, op, ol, _) => me = zg2 g (u + 10) ∧ pk = zg4 g (u + 20) ∧ sz = zg4 g (u + 24) ∧ su = zg4 g (u + 16) ∧ lp = zg4 g (u + 42) ∧ pp = zDa g u ∧ st = 0 ∧ op = 0 ∧ ol = 0
def zPn (g : Int → Int) (a k : Int) (L : List zE) : Prop := ∀ (i : Int) (y : zE), 0 ≤ i → i < k → L[i.toNat]? = some y → zEn g (zcp g a i.toNat) y ∧ zEm g (zcp g a i.toNat) y
def zPa (g : Int → Int) (u k : Int) (L : List zE) : Prop := ∀ y : zE, L[k.toNat]? = some y → zEn g u y
def zPb (g : Int → Int) (u k : Int) (L : List zE) : Prop := ∀ y : zE, L[k.toNat]? = some y → zEn g u y ∧ zEm g u y
theorem zset_get {L : List zE} {k : Nat} {x y : zE} (q : (L.set k x)[k]? = some y) : y = x := by
  rw [List.getElem?_set_self'] at q
  cases h9 : L[k]? with
  | none => rw [h9] at q; simp at q
  | some z => rw [h9] at q; simp at q; exact q.symm
theorem zPn_set {g : Int → Int} {a k i : Int} {L : List zE} {x : zE} (q : zPn g a k L) (h1 : 0 ≤ k ∧ k ≤ i) : zPn g a k (L.set i.toNat x) := fun t y t1 t2 ty => q t y t1 t2 (by
  rw [List.getElem?_set_ne (by omega)] at ty
  exact ty)
theorem zPn_0 {g : Int → Int} {a k : Int} {L : List zE} (h1 : k ≤ 0) : zPn g a k L := fun t y t1 t2 => by omega
theorem zPn_s {g : Int → Int} {a k : Int} {L : List zE} (q : zPn g a k L) (r : zPb g (zcp g a k.toNat) k L) : zPn g a (k + 1) L := fun t y t1 t2 ty => by
  by_cases c : t = k
  · subst c
    exact r y ty
  · exact q t y t1 (by omega) ty
theorem zPa_set {g : Int → Int} {u k : Int} {L : List zE} {x : zE} (r : zEn g u x) : zPa g u k (L.set k.toNat x) := fun y hy => by
  rw [zset_get hy]
  exact r
theorem zPb_set {g : Int → Int} {u k : Int} {L : List zE} {x : zE} (r : zEn g u x) (s : zEm g u x) : zPb g u k (L.set k.toNat x) := fun y hy => by
  rw [zset_get hy]
  exact ⟨r, s⟩
theorem zCt_of {g : Int → Int} {u v x n1 n2 : Int} {P Q : Prop} {f1 f2 : Nat → Int32} (hA : n1 = zg2 g (u + 28) ∧ P ∧ ∀ t : Int, 0 ≤ t → t < n1 → zrI f1 t = zrw g u t) (hB : n2 = zg2 g (v + 28) ∧ Q ∧ ∀ t : Int, 0 ≤ t → t < n2 → zrI f2 t = zrw g v t) (h1 : 1 ≤ n1) (h2 : 1 ≤ n2) (q : zTf x (zCl n1 (zrI f1) n2 (zrI f2))) : zTf x (zCt g u v) := by
  refine zTf_w q ?_
  unfold zCt
  rw [← hA.1, ← hB.1]
  exact ⟨fun w => zCl_w h1 h2 hA.2.2 hB.2.2 w, fun w => zCl_w h1 h2 (fun t t1 t2 => (hA.2.2 t t1 t2).symm) (fun t t1 t2 => (hB.2.2 t t1 t2).symm) w⟩
theorem zOv_of {g : Int → Int} {u v x l1 p1 k1 l2 p2 k2 : Int} (hA : l1 = zg4 g (u + 42) ∧ p1 = zDa g u ∧ k1 = zg4 g (u + 20)) (hB : l2 = zg4 g (v + 42) ∧ p2 = zDa g v ∧ k2 = zg4 g (v + 20)) (q : zTf x (l1 < p2 + k2 ∧ l2 < p1 + k1)) : zTf x (zOv g u v) := by
  obtain ⟨a1, a2, a3⟩ := hA
  obtain ⟨b1, b2, b3⟩ := hB
  subst a1 a2 a3 b1 b2 b3
  exact q
/-- what stands behind each step of an entry's reading -/
def zJ1 (g : Int → Int) (a w k x p0 p : Int) : Prop := (x = 0 ∧ p = p0 ∧ zSp g (zcp g a k.toNat) w ∧ zNp g (zcp g a k.toNat) 0) ∨ (x < 0 ∧ zEf g a w k x p)
def zJ2 (g : Int → Int) (a w k x p0 p : Int) (L : List zE) : Prop := (x = 0 ∧ p = p0 ∧ zSp g (zcp g a k.toNat) w ∧ zNp g (zcp g a k.toNat) 0 ∧ zNm g (zcp g a k.toNat + 46) (zg2 g (zcp g a k.toNat + 28)) ∧ ¬ zTk g a k ∧ zPa g (zcp g a k.toNat) k L) ∨ (x < 0 ∧ zEf g a w k x p)
def zJ3 (g : Int → Int) (a w k x p0 p : Int) (L : List zE) : Prop := (x = 0 ∧ p = p0 ∧ zEo g a w k ∧ zPn g a (k + 1) L) ∨ (x < 0 ∧ zEf g a w k x p)
/-- what reading a name, and an entry's head, answer -/
def zRn (g : Int → Int) (a k x p0 p : Int) (L : List zE) : Prop := (x = 0 ∧ p = p0 ∧ zNm g (zcp g a k.toNat + 46) (zg2 g (zcp g a k.toNat + 28)) ∧ ¬ zTk g a k ∧ zPa g (zcp g a k.toNat) k L) ∨ (x = -7 ∧ p = zcp g a k.toNat + 46 ∧ ¬ zNm g (zcp g a k.toNat + 46) (zg2 g (zcp g a k.toNat + 28))) ∨ (x = -8 ∧ p = zcp g a k.toNat + 46 ∧ zNm g (zcp g a k.toNat + 46) (zg2 g (zcp g a k.toNat + 28)) ∧ zTk g a k)
def zRl (g : Int → Int) (a k x p0 p : Int) (L : List zE) : Prop := (x = 0 ∧ p = p0 ∧ zLo g (zcp g a k.toNat) a ∧ ¬ zOk g a k ∧ zPn g a (k + 1) L) ∨ (x = -9 ∧ p = zcp g a k.toNat + 42 ∧ ¬ zLo g (zcp g a k.toNat) a) ∨ (x = -10 ∧ p = zcp g a k.toNat + 42 ∧ zLo g (zcp g a k.toNat) a ∧ zOk g a k)
theorem zJ1_span {g : Int → Int} {a w k u x p0 p : Int} (hu : u = zcp g a k.toNat) (q : (x = 0 ∧ zSp g u w) ∨ (x = -5 ∧ p = u ∧ ¬ zSp g u w)) (hx : ¬ x = 0) : zJ1 g a w k x p0 p := by
  subst hu
  rcases q with q | q
  · exact absurd q.1 hx
  · exact Or.inr ⟨by omega, Or.inl ⟨q.2.2, q.1, q.2.1⟩⟩
theorem zJ1_num {g : Int → Int} {a w k u x x0 p0 p p1 : Int} (hu : u = zcp g a k.toNat) (q : (x0 = 0 ∧ zSp g u w) ∨ (x0 = -5 ∧ p1 = u ∧ ¬ zSp g u w)) (hx : x0 = 0) (r : (x = 0 ∧ zNp g u 0) ∨ (x = -6 ∧ ¬ p = 0 ∧ zNp g u p)) (hp : x = 0 → p = p0) : zJ1 g a w k x p0 p := by
  subst hu
  rcases q with q | q
  · rcases r with r | r
    · exact Or.inl ⟨r.1, hp r.1, q.2, r.2⟩
    · exact Or.inr ⟨by omega, Or.inr ⟨q.2, Or.inl ⟨r.2.1, r.1, r.2.2⟩⟩⟩
  · omega
theorem zJ2_of {g : Int → Int} {a w k x p0 p : Int} {L : List zE} (q : zJ1 g a w k x p0 p) (hx : ¬ x = 0) : zJ2 g a w k x p0 p L := by
  rcases q with q | q
  · exact absurd q.1 hx
  · exact Or.inr q
theorem zJ2_nm {g : Int → Int} {a w k x y p0 p p1 : Int} {L : List zE} (q : zJ1 g a w k x p0 p) (hx : x = 0) (r : zRn g a k y p p1 L) : zJ2 g a w k y p0 p1 L := by
  rcases q with q | q
  · rcases r with r | r | r
    · exact Or.inl ⟨r.1, r.2.1.trans q.2.1, q.2.2.1, q.2.2.2, r.2.2.1, r.2.2.2.1, r.2.2.2.2⟩
    · exact Or.inr ⟨by omega, Or.inr ⟨q.2.2.1, Or.inr ⟨q.2.2.2, Or.inl ⟨r.2.2, r.1, r.2.1⟩⟩⟩⟩
    · exact Or.inr ⟨by omega, Or.inr ⟨q.2.2.1, Or.inr ⟨q.2.2.2, Or.inr ⟨r.2.2.1, Or.inl ⟨r.2.2.2, r.1, r.2.1⟩⟩⟩⟩⟩
  · omega
theorem zJ3_of {g : Int → Int} {a w k x p0 p : Int} {L L1 : List zE} (q : zJ2 g a w k x p0 p L) (hx : ¬ x = 0) : zJ3 g a w k x p0 p L1 := by
  rcases q with q | q
  · exact absurd q.1 hx
  · exact Or.inr q
theorem zJ3_lo {g : Int → Int} {a w k x y p0 p p1 : Int} {L L1 : List zE} (q : zJ2 g a w k x p0 p L) (hx : x = 0) (r : zRl g a k y p p1 L1) : zJ3 g a w k y p0 p1 L1 := by
  rcases q with q | q
  · obtain ⟨_, q1, q2, q3, q4, q5, _⟩ := q
    rcases r with r | r | r
    · exact Or.inl ⟨r.1, r.2.1.trans q1, ⟨q2, q3, q4, q5, r.2.2.1, r.2.2.2.1⟩, r.2.2.2.2⟩
    · exact Or.inr ⟨by omega, Or.inr ⟨q2, Or.inr ⟨q3, Or.inr ⟨q4, Or.inr ⟨q5, Or.inl ⟨r.2.2, r.1, r.2.1⟩⟩⟩⟩⟩⟩
    · exact Or.inr ⟨by omega, Or.inr ⟨q2, Or.inr ⟨q3, Or.inr ⟨q4, Or.inr ⟨q5, Or.inr ⟨r.2.2.1, r.2.2.2, r.1, r.2.1⟩⟩⟩⟩⟩⟩
  · omega
theorem zEn_kn {g : Int → Int} {u k0 n n1 fo : Int} {f1 : Nat → Int32} {P : Prop} (hu : k0 = u + 46 ∧ n = zg2 g (u + 28)) (q : zTf fo (zrI f1 (n - 1) = 47) ∧ (∀ t : Int, 0 ≤ t → t < n → zrI f1 t = zkb g k0 t) ∧ n1 = n ∧ P) : n1 = zg2 g (u + 28) ∧ zTf fo (zrI f1 (n1 - 1) = 47) ∧ ∀ t : Int, 0 ≤ t → t < n1 → zrI f1 t = zrw g u t := by
  obtain ⟨q1, q2, q3, _⟩ := q
  obtain ⟨h1, h2⟩ := hu
  subst q3 h1
  exact ⟨h2, q1, q2⟩
theorem zJ2_pa {g : Int → Int} {a w k x p0 p : Int} {L : List zE} (q : zJ2 g a w k x p0 p L) (hx : x = 0) : zPa g (zcp g a k.toNat) k L := by
  rcases q with q | q
  · exact q.2.2.2.2.2.2
  · omega
theorem zJ3_f {g : Int → Int} {a w k x p0 p : Int} {L : List zE} (q : zJ3 g a w k x p0 p L) (hx : x < 0) : zEf g a w k x p := by
  rcases q with q | q
  · omega
  · exact q.2
theorem zJ3_o {g : Int → Int} {a w k x p0 p : Int} {L : List zE} (q : zJ3 g a w k x p0 p L) (hx : 0 ≤ x) : p = p0 ∧ zEo g a w k ∧ zPn g a (k + 1) L := by
  rcases q with q | q
  · exact q.2
  · omega
/-- what reading the entries answers; n: how many were read -/
def zQe (g : Int → Int) (w x p0 p n : Int) (L : List zE) : Prop := (x < 0 ∧ zEs g w x p) ∨ (x = 0 ∧ p = p0 ∧ zEs g w n (-1) ∧ zPn g (zg4 g (w + 16)) n L)
def zH1 (g : Int → Int) (L w x p : Int) : Prop := zFE g L w ∧ ((w = -1 ∧ x = -1 ∧ p = L) ∨ (0 ≤ w ∧ zHd g w x p ∧ (x = 0 → p = -1)))
/-- n entries stand in the pool as the tape told them -/
def zOp (g : Int → Int) (L n : Int) (P : List zE) : Prop := ∃ w : Int, zFE g L w ∧ 0 ≤ w ∧ zPn g (zg4 g (w + 16)) n P
theorem zRe_h {g : Int → Int} {L w x p : Int} (q : zH1 g L w x p) (hx : x < 0) : zRe g L x p := by
  obtain ⟨q1, q2⟩ := q
  rcases q2 with q2 | q2
  · exact ⟨w, q1, Or.inl q2⟩
  · exact ⟨w, q1, Or.inr (Or.inl ⟨q2.1, hx, q2.2.1⟩)⟩
theorem zH1_w {g : Int → Int} {L w x p : Int} (q : zH1 g L w x p) (hx : x = 0) : 0 ≤ w ∧ p = -1 ∧ zHd g w 0 p := by
  obtain ⟨q1, q2⟩ := q
  rcases q2 with q2 | q2
  · omega
  · subst hx
    exact ⟨q2.1, q2.2.2 rfl, q2.2.1⟩
theorem zRe_e {g : Int → Int} {L w x p y r p0 n : Int} {P : List zE} (q : zH1 g L w x p) (hx : x = 0) (s : zQe g w y p0 r n P) (hy : y < 0) : zRe g L y r := by
  have q2 := zH1_w q hx
  rcases s with s | s
  · exact ⟨w, q.1, Or.inr (Or.inr ⟨q2.1, ⟨p, q2.2.2⟩, s.2⟩)⟩
  · omega
theorem zRe_n {g : Int → Int} {L w x p y r p0 n : Int} {P : List zE} (q : zH1 g L w x p) (hx : x = 0) (s : zQe g w y p0 r n P) (hy : 0 ≤ y) (hp : p0 = p) : zRe g L n r ∧ zOp g L n P := by
  have q2 := zH1_w q hx
  rcases s with s | s
  · omega
  · have e1 : r = -1 := by omega
    subst e1
    exact ⟨⟨w, q.1, Or.inr (Or.inr ⟨q2.1, ⟨p, q2.2.2⟩, s.2.2.1⟩)⟩, ⟨w, q.1, q2.1, s.2.2.2⟩⟩
/-! taking out keeps names and numbers; a name told by an entry -/
def zSe : zE → zE → Prop
  | (_, _, nl, fo, me, pk, sz, su, lp, pp, _, _, _, nf), (_, _, nl1, fo1, me1, pk1, sz1, su1, lp1, pp1, _, _, _, nf1) => nl = nl1 ∧ fo = fo1 ∧ me = me1 ∧ pk = pk1 ∧ sz = sz1 ∧ su = su1 ∧ lp = lp1 ∧ pp = pp1 ∧ nf = nf1
def zKp (L L1 : List zE) : Prop := ∀ (k : Nat) (y : zE), L1[k]? = some y → ∃ y0 : zE, L[k]? = some y0 ∧ zSe y0 y
theorem zSe_rf (y : zE) : zSe y y := ⟨rfl, rfl, rfl, rfl, rfl, rfl, rfl, rfl, rfl⟩
theorem zSe_tr {x y z : zE} (q : zSe x y) (r : zSe y z) : zSe x z := by
  obtain ⟨a1, a2, a3, a4, a5, a6, a7, a8, a9, a10, a11, a12, a13, a14⟩ := x
  obtain ⟨b1, b2, b3, b4, b5, b6, b7, b8, b9, b10, b11, b12, b13, b14⟩ := y
  obtain ⟨c1, c2, c3, c4, c5, c6, c7, c8, c9, c10, c11, c12, c13, c14⟩ := z
  obtain ⟨q1, q2, q3, q4, q5, q6, q7, q8, q9⟩ := q
  obtain ⟨r1, r2, r3, r4, r5, r6, r7, r8, r9⟩ := r
  exact ⟨q1.trans r1, q2.trans r2, q3.trans r3, q4.trans r4, q5.trans r5, q6.trans r6, q7.trans r7, q8.trans r8, q9.trans r9⟩
theorem zKp_rf (L : List zE) : zKp L L := fun _ y q => ⟨y, q, zSe_rf y⟩
theorem zKp_tr {L M N : List zE} (q : zKp L M) (r : zKp M N) : zKp L N := fun k y h9 => by
  obtain ⟨y1, h1, h2⟩ := r k y h9
  obtain ⟨y0, h3, h4⟩ := q k y1 h1
  exact ⟨y0, h3, zSe_tr h4 h2⟩
theorem zKp_set {L : List zE} {k : Nat} {x y : zE} (q : L[k]? = some x) (r : zSe x y) : zKp L (L.set k y) := fun i z hz => by
  by_cases c : i = k
  · subst c
    rw [zset_get hz]
    exact ⟨x, q, r⟩
  · rw [List.getElem?_set_ne (by omega)] at hz
    exact ⟨z, hz, zSe_rf z⟩
def zNy (k x : Int) : zE → Prop
  | (_, _, nl, _, _, _, _, _, _, _, _, _, _, nf) => (k < 0 ∨ nl ≤ k → x = -1) ∧ (0 ≤ k ∧ k < nl → x = zrI nf k)
/-- entry i's name answers x at k -/
def zNa (L : List zE) (i k x : Int) : Prop := ∀ y : zE, L[i.toNat]? = some y → zNy k x y
theorem zNa_mk {L : List zE} {i k x : Int} {y : zE} (q : L[i.toNat]? = some y) (r : zNy k x y) : zNa L i k x := fun z hz => by
  rw [q] at hz
  cases hz
  exact r
def zNq (L : List zE) (i k x z : Int) : Prop := x = 0 → zNa L i k z
/-! the class's entries as a table -/
def zTL (L : List zE) : Nat → zTy := fun k => match L[k]? with
  | some (_, _, _, fo, me, pk, sz, su, _, pp, _, _, _, _) => (iI fo, iI me, iI su, pp.toNat, pk.toNat, lI sz)
  | none => (0, 0, 0, 0, 0, 0)
def zDL (L : List zE) : Nat → Int32 × Nat × Nat := fun k => match L[k]? with
  | some (_, _, _, _, _, _, _, _, _, _, st, op, ol, _) => (iI st, op.toNat, ol.toNat)
  | none => (0, 0, 0)
def zNL (L : List zE) : Nat → Int := fun k => match L[k]? with
  | some (_, _, nl, _, _, _, _, _, _, _, _, _, _, _) => nl
  | none => 0
theorem zTL_at {L : List zE} {k a nd : Nat} {nl fo me pk sz su lp pp st op ol : Int} {nf : Nat → Int32} (h : L[k]? = some (a, nd, nl, fo, me, pk, sz, su, lp, pp, st, op, ol, nf)) : zTL L k = (iI fo, iI me, iI su, pp.toNat, pk.toNat, lI sz) := by
  unfold zTL
  rw [h]
theorem zDL_at {L : List zE} {k a nd : Nat} {nl fo me pk sz su lp pp st op ol : Int} {nf : Nat → Int32} (h : L[k]? = some (a, nd, nl, fo, me, pk, sz, su, lp, pp, st, op, ol, nf)) : zDL L k = (iI st, op.toNat, ol.toNat) := by
  unfold zDL
  rw [h]
theorem zNL_at {L : List zE} {k a nd : Nat} {nl fo me pk sz su lp pp st op ol : Int} {nf : Nat → Int32} (h : L[k]? = some (a, nd, nl, fo, me, pk, sz, su, lp, pp, st, op, ol, nf)) : zNL L k = nl := by
  unfold zNL
  rw [h]
theorem zset_at {L : List zE} {k : Nat} {x y : zE} (h : L[k]? = some x) : (L.set k y)[k]? = some y := by
  have h1 : k < L.length := by
    rcases Nat.lt_or_ge k L.length with h2 | h2
    · exact h2
    · rw [List.getElem?_eq_none h2] at h
      exact absurd h (by simp)
  rw [List.getElem?_set_self h1]
theorem zTL_set {L : List zE} {k a nd a1 nd1 : Nat} {nl fo me pk sz su lp pp st op ol st1 op1 ol1 : Int} {nf : Nat → Int32} (h : L[k]? = some (a, nd, nl, fo, me, pk, sz, su, lp, pp, st, op, ol, nf)) : zTL (L.set k (a1, nd1, nl, fo, me, pk, sz, su, lp, pp, st1, op1, ol1, nf)) = zTL L := by
  funext j
  by_cases c : j = k
  · rw [c, zTL_at h, zTL_at (zset_at h)]
  · unfold zTL
    rw [List.getElem?_set_ne (fun e => c e.symm)]
theorem zNL_set {L : List zE} {k a nd a1 nd1 : Nat} {nl fo me pk sz su lp pp st op ol st1 op1 ol1 : Int} {nf : Nat → Int32} (h : L[k]? = some (a, nd, nl, fo, me, pk, sz, su, lp, pp, st, op, ol, nf)) : zNL (L.set k (a1, nd1, nl, fo, me, pk, sz, su, lp, pp, st1, op1, ol1, nf)) = zNL L := by
  funext j
  by_cases c : j = k
  · rw [c, zNL_at h, zNL_at (zset_at h)]
  · unfold zNL
    rw [List.getElem?_set_ne (fun e => c e.symm)]
theorem zTp_pool {f : Nat → Int32} {bu ra to to1 op1 ol1 : Nat} {ft ft1 : Nat → Int32} {L : List zE} {k a nd a1 nd1 : Nat} {nl fo me pk sz su lp pp st op ol st1 : Int} {nf : Nat → Int32} {T : Nat → zTy} {r : Int32} (h : L[k]? = some (a, nd, nl, fo, me, pk, sz, su, lp, pp, st, op, ol, nf)) (hT : T = zTL L) (q : zTq f (iI fo) (iI me) (iI su) pp.toNat pk.toNat bu ra to op.toNat ol.toNat (lI sz) ft = (r, iI st1, to1, op1, ol1, ft1)) : zTp f bu ra T k (to, ft, zDL L) = (r, to1, ft1, zDL (L.set k (a1, nd1, nl, fo, me, pk, sz, su, lp, pp, st1, (op1 : Int), (ol1 : Int), nf))) := by
  refine zTp_mk (t := (iI fo, iI me, iI su, pp.toNat, pk.toNat, lI sz)) q (by rw [hT]; exact zTL_at h) (by rw [zDL_at h]) ?_ ?_
  · rw [zDL_at (zset_at h), Int.toNat_natCast, Int.toNat_natCast]
  · intro j hj
    unfold zDL
    rw [List.getElem?_set_ne (fun e => hj e.symm)]
theorem zTq_r {f : Nat → Int32} {fo me su : Int32} {pp pk bu ra to op ol : Nat} {zz : Int64} {ft : Nat → Int32} {r : Int32} {s : Int32 × Nat × Nat × Nat × (Nat → Int32)} (h : zTq f fo me su pp pk bu ra to op ol zz ft = (r, s)) : zNg r := by
  have h9 := zTq_n f fo me su pp pk bu ra to op ol zz ft
  rw [h] at h9
  exact h9
def zWv (D : Int32 × Nat × Nat) (ft : Nat → Int32) (k x : Int) : Prop := (k < 0 ∨ (D.2.2 : Int) ≤ k → x = -1) ∧ (0 ≤ k ∧ k < (D.2.2 : Int) ∧ (D.2.1 : Int) + k < 40000 → x = zB1 ft ((D.2.1 : Int) + k))
/-! what the law's wrappers tell -/
def zLt (io i ct z : Int) (E : Int32 × zSy) (S S1 : zSy) (L L1 : List zE) : Prop := (io = 1 ∧ 0 ≤ i ∧ i < ct → E = (iI (-z), S1) ∧ zTL L1 = zTL L ∧ zNL L1 = zNL L ∧ 0 ≤ z ∧ z ≤ 100) ∧ (¬ (io = 1 ∧ 0 ≤ i ∧ i < ct) → S1 = S ∧ L1 = L)
def zLa (io z : Int) (E : Nat × zSy) (S S1 : zSy) (L L1 : List zE) : Prop := (io = 1 → E = (z.toNat, S1) ∧ zTL L1 = zTL L ∧ zNL L1 = zNL L ∧ 0 ≤ z) ∧ (¬ io = 1 → S1 = S ∧ L1 = L)
def zLe (io i ct wh z : Int) (v : Int32) : Prop := io = 1 ∧ 0 ≤ i ∧ i < ct ∧ 0 ≤ wh ∧ wh ≤ 7 → iI z = v ∧ -2147483648 ≤ z ∧ z ≤ 2147483647
def zLw (io i ct k z : Int) (D : Int32 × Nat × Nat) (ft : Nat → Int32) : Prop := io = 1 ∧ 0 ≤ i ∧ i < ct → zWv D ft k z
