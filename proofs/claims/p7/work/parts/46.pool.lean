/-! worlds with a pool behind them -/
theorem zP_perm {D : va_G} {cl : List vw_C} {ws ws' : va_W} {H : Heap} (h : va_P D cl ws H) (hp : ws.Perm ws') : va_P D cl ws' H := fun k q hk => by
  obtain ⟨i, hi⟩ := List.getElem?_of_mem (hp.mem_iff.mpr (List.mem_of_getElem? hk))
  exact h i q hi
theorem zD_iff {A : Nat → Prop} {ws : va_W} : va_D A ws ↔ (ws.map Prod.fst).Nodup ∧ ∀ q ∈ ws, A q.1 := by
  unfold va_D
  constructor
  · intro h
    refine ⟨List.pairwise_iff_getElem.mpr (fun i j hi hj hij e => ?_), fun q hq => ?_⟩
    · rw [List.length_map] at hi hj
      rw [List.getElem_map, List.getElem_map] at e
      have := h.1 i j _ _ (List.getElem?_eq_getElem hi) (List.getElem?_eq_getElem hj) e
      omega
    · obtain ⟨i, hi⟩ := List.getElem?_of_mem hq
      exact h.2 i q hi
  · intro h
    refine ⟨fun i j p q hi hj e => ?_, fun k q hk => h.2 q (List.mem_of_getElem? hk)⟩
    have hn := List.pairwise_iff_getElem.mp h.1
    obtain ⟨hil, hi2⟩ := List.getElem?_eq_some_iff.mp hi
    obtain ⟨hjl, hj2⟩ := List.getElem?_eq_some_iff.mp hj
    have e1 : (ws.map Prod.fst)[i]'(by rw [List.length_map]; exact hil) = (ws.map Prod.fst)[j]'(by rw [List.length_map]; exact hjl) := by rw [List.getElem_map, List.getElem_map, hi2, hj2]; exact e
    rcases Nat.lt_trichotomy i j with h1 | h1 | h1
    · exact absurd e1 (hn i j _ _ h1)
    · exact h1
    · exact absurd e1.symm (hn j i _ _ h1)
theorem zD_perm {A : Nat → Prop} {ws ws' : va_W} (h : va_D A ws) (hp : ws.Perm ws') : va_D A ws' := by
  have h1 := zD_iff.mp h
  exact zD_iff.mpr ⟨(hp.map Prod.fst).nodup_iff.mp h1.1, fun q hq => h1.2 q (hp.mem_iff.mpr hq)⟩
theorem zcut {α : Type} {L : List α} {k : Nat} {x : α} (h : L[k]? = some x) : L = L.take k ++ x :: L.drop (k + 1) := by
  have hk := (List.getElem?_eq_some_iff.mp h).1
  have e := (List.getElem?_eq_some_iff.mp h).2
  rw [← e, List.getElem_cons_drop, List.take_append_drop]
theorem zcut2 {α : Type} {L : List α} {k : Nat} (y : α) (hk : k < L.length) : L.set k y = L.take k ++ y :: L.drop (k + 1) := by
  rw [List.set_eq_take_append_cons_drop, if_pos hk]
theorem zper {α β : Type} (X : List β) {L : List α} (F : α → List β) {k : Nat} {x : α} (h : L[k]? = some x) : (X ++ L.flatMap F).Perm ((X ++ F x) ++ (L.eraseIdx k).flatMap F) := by
  have e := zcut h
  have e2 : L.eraseIdx k = L.take k ++ L.drop (k + 1) := List.eraseIdx_eq_take_drop_succ _ _
  have e3 : L.flatMap F = (L.take k).flatMap F ++ (F x ++ (L.drop (k + 1)).flatMap F) := by
    conv => lhs; rw [e]
    rw [List.flatMap_append, List.flatMap_cons]
  rw [e3, e2, List.flatMap_append, List.append_assoc]
  refine List.Perm.append_left X ?_
  rw [← List.append_assoc, ← List.append_assoc]
  exact List.Perm.append_right _ List.perm_append_comm
theorem zper2 {α β : Type} (X : List β) {L : List α} (F : α → List β) {k : Nat} (y : α) (hk : k < L.length) : ((X ++ F y) ++ (L.eraseIdx k).flatMap F).Perm (X ++ (L.set k y).flatMap F) := by
  have h : (L.set k y)[k]? = some y := by rw [List.getElem?_set_self hk]
  have h2 := (zper X F h).symm
  have e : (L.set k y).eraseIdx k = L.eraseIdx k := by
    rw [List.eraseIdx_eq_take_drop_succ, List.eraseIdx_eq_take_drop_succ, List.take_set_of_le (Nat.le_refl k), List.drop_set_of_lt (Nat.lt_succ_self k)]
  rw [e] at h2
  exact h2
/-- an entry: its place and its row's, name length, folder, method, packed, size, sum, local place, packed place, state, out place, out length, name -/
abbrev zE : Type := Nat × Nat × Int × Int × Int × Int × Int × Int × Int × Int × Int × Int × Int × (Nat → Int32)
def zEe (cN : ClassId) : zE → va_W
  | (a, nd, nl, fo, me, pk, sz, su, lp, pp, st, op, ol, nf) => [(a, .inr (7, [.ref nd, .int (iI nl), .int (iI fo), .int (iI me), .int (iI pk), .long (lI sz), .int (iI su), .int (iI lp), .int (iI pp), .int (iI st), .int (iI op), .int (iI ol)])), (nd, .inl (cN, 60, .inl nf))]
def zPl (cN : ClassId) (L : List zE) : va_W := L.flatMap (zEe cN)
def zEk : zE → Prop
  | (_, _, nl, fo, _, pk, sz, _, lp, pp, _, op, ol, _) => 0 ≤ nl ∧ nl ≤ 60 ∧ 0 ≤ fo ∧ fo ≤ 1 ∧ 0 ≤ pk ∧ 0 ≤ pp ∧ pp + pk ≤ 20000 ∧ (-2147483648 ≤ lp ∧ lp ≤ 2147483647) ∧ 0 ≤ sz ∧ sz ≤ 4294967295 ∧ 0 ≤ op ∧ op ≤ 40000 ∧ 0 ≤ ol ∧ ol ≤ 40000
def zPo (ad : Nat → Nat) (L : List zE) : Prop := L.length = 64 ∧ ∀ k, k < 64 → ∃ x, L[k]? = some (ad k, x) ∧ zEk (ad k, x)
theorem zpl_out {D : va_G} {cl : List vw_C} {X : va_W} {H : Heap} {cN : ClassId} {L : List zE} {k : Nat} {y : zE} (h : va_P D cl (X ++ zPl cN L) H) (hy : L[k]? = some y) : va_P D cl ((X ++ zEe cN y) ++ zPl cN (L.eraseIdx k)) H := zP_perm h (zper X (zEe cN) hy)
theorem zpl_outD {A : Nat → Prop} {X : va_W} {cN : ClassId} {L : List zE} {k : Nat} {y : zE} (h : va_D A (X ++ zPl cN L)) (hy : L[k]? = some y) : va_D A ((X ++ zEe cN y) ++ zPl cN (L.eraseIdx k)) := zD_perm h (zper X (zEe cN) hy)
theorem zpl_in {D : va_G} {cl : List vw_C} {X : va_W} {H : Heap} {cN : ClassId} {L : List zE} {k : Nat} (y : zE) (h : va_P D cl ((X ++ zEe cN y) ++ zPl cN (L.eraseIdx k)) H) (hk : k < L.length) : va_P D cl (X ++ zPl cN (L.set k y)) H := zP_perm h (zper2 X (zEe cN) y hk)
theorem zpl_inD {A : Nat → Prop} {X : va_W} {cN : ClassId} {L : List zE} {k : Nat} (y : zE) (h : va_D A ((X ++ zEe cN y) ++ zPl cN (L.eraseIdx k))) (hk : k < L.length) : va_D A (X ++ zPl cN (L.set k y)) := zD_perm h (zper2 X (zEe cN) y hk)
theorem zPo_set {ad : Nat → Nat} {L : List zE} (h : zPo ad L) {k : Nat} {x : Nat × Int × Int × Int × Int × Int × Int × Int × Int × Int × Int × Int × (Nat → Int32)} (hk : k < 64) (hx : zEk (ad k, x)) : zPo ad (L.set k (ad k, x)) := by
  refine ⟨by rw [List.length_set]; exact h.1, fun j hj => ?_⟩
  by_cases e : k = j
  · subst e
    exact ⟨x, by rw [List.getElem?_set_self (by rw [h.1]; exact hk)], hx⟩
  · obtain ⟨y, h1, h2⟩ := h.2 j hj
    exact ⟨y, by rw [List.getElem?_set_ne e]; exact h1, h2⟩
theorem zapp {X pl : va_W} : ∀ {is : List Nat} {wc : va_W}, is.map (fun i => X[i]?) = wc.map some → is.map (fun i => (X ++ pl)[i]?) = wc.map some
  | [], [], _ => rfl
  | [], _ :: _, h => by simp at h
  | _ :: _, [], h => by simp at h
  | i :: is, x :: w, h => by
    simp only [List.map_cons, List.cons.injEq] at h ⊢
    exact ⟨by rw [List.getElem?_append_left (List.getElem?_eq_some_iff.mp h.1).1]; exact h.1, zapp h.2⟩
section ZPO
variable {p : Program} {l : Launch} {e : Env} {R : Room} {s : State} {m : MethodId} {args : Array Value} {below : List Frame} {meth : Method} {c : Code} {H : Heap} {locs : List Loc} {cells slots : Nat} {Q : State → Prop}
variable {cc : ByteArray} {pc : Nat} {ls : Array Slot} {rest st0 : List Value} {a : Array Value} {A : Nat → Prop} {mc ms : Nat} {D : va_G} {tys tc : List (ClassId × FieldType)} {X wc wr pl : va_W}
theorem zjiQ {S : Type} {post : Int32 → S → Prop} {w1 : S → va_W} {t1 : S → List (ClassId × FieldType)}
    (hr : va_Run p l e R s m args below meth c H locs cells slots mc ms (F0 m pc ls st0) rest (va_Qi post (fun u t => zB D (w1 u) (t1 u) (va_A wc H.size) t) (va_A wc H.size) a) (va_A wc H.size))
    (hK : va_K D zcl tys s) (hP : va_P D zcl (X ++ pl) H) (hD : va_D A (X ++ pl)) (hS : va_S A s.heap H locs) (hA : ∀ q, s.heap.size ≤ q → A q) (isC isR : List Nat) (hC : isC.map (fun i => X[i]?) = wc.map some) (hR : isR.map (fun i => X[i]?) = wr.map some) (hn : va_nd isR = true) (hdis : ∀ i ∈ isR, i ∉ isC)
    (kk : ∀ (r : Int32) (u : S) (H1 : Heap) (locs1 : List Loc), post r u → va_P D zcl ((wr ++ w1 u) ++ pl) H1 → va_D A ((wr ++ w1 u) ++ pl) → va_K D zcl (tys ++ t1 u) s → va_S A s.heap H1 locs1 → W p l e R s m args below meth c H1 locs1 (cells + mc) (slots + ms) Q (F0 m (pc + 3) ls (.int r :: rest))) : W p l e R s m args below meth c H locs cells slots Q (F0 m pc ls st0) := by
  have hF := va_free (wc := wc) hD hS hA isC (zapp hC)
  refine va_calli hr hS (fun q _ h => hF q h) hF (fun r u t H1 locs1 ht hvm hp hB hz hk hS1 => ?_)
  obtain ⟨hP1, hK1, hD1⟩ := hB
  rw [ht] at hP1
  obtain ⟨hP2, hD2⟩ := va_joinQ hP hD isC isR hC hR hn hdis hk hF hP1 hD1
  exact kk r u H1 locs1 hp hP2 hD2 (hK.app (va_K.moved hvm.symm hK1)) hS1
theorem zjiP {S : Type} {post : Int32 → S → Prop} {w1 : S → va_W} {p1 : S → va_W} {t1 : S → List (ClassId × FieldType)}
    (hr : va_Run p l e R s m args below meth c H locs cells slots mc ms (F0 m pc ls st0) rest (va_Qi post (fun u t => zB D (w1 u ++ p1 u) (t1 u) (va_A (wc ++ pl) H.size) t) (va_A (wc ++ pl) H.size) a) (va_A (wc ++ pl) H.size))
    (hK : va_K D zcl tys s) (hP : va_P D zcl (X ++ pl) H) (hD : va_D A (X ++ pl)) (hS : va_S A s.heap H locs) (hA : ∀ q, s.heap.size ≤ q → A q) (isC isR : List Nat) (hC : isC.map (fun i => X[i]?) = wc.map some) (hR : isR.map (fun i => X[i]?) = wr.map some) (hn : va_nd isR = true) (hdis : ∀ i ∈ isR, i ∉ isC)
    (kk : ∀ (r : Int32) (u : S) (H1 : Heap) (locs1 : List Loc), post r u → va_P D zcl ((wr ++ w1 u) ++ p1 u) H1 → va_D A ((wr ++ w1 u) ++ p1 u) → va_K D zcl (tys ++ t1 u) s → va_S A s.heap H1 locs1 → W p l e R s m args below meth c H1 locs1 (cells + mc) (slots + ms) Q (F0 m (pc + 3) ls (.int r :: rest))) : W p l e R s m args below meth c H locs cells slots Q (F0 m pc ls st0) := by
  have hF := va_freeP hD hS hA isC hC
  refine va_calli hr hS (fun q _ h => hF q h) hF (fun r u t H1 locs1 ht hvm hp hB hz hk hS1 => ?_)
  obtain ⟨hP1, hK1, hD1⟩ := hB
  rw [ht] at hP1
  obtain ⟨hP2, hD2⟩ := va_joinP hP hD isC isR hC hR hn hdis hk hF hP1 hD1
  exact kk r u H1 locs1 hp hP2 hD2 (hK.app (va_K.moved hvm.symm hK1)) hS1
theorem zjvQ {S : Type} {post : S → Prop} {w1 : S → va_W} {t1 : S → List (ClassId × FieldType)}
    (hr : va_Run p l e R s m args below meth c H locs cells slots mc ms (F0 m pc ls st0) rest (va_Qv post (fun u t => zB D (w1 u) (t1 u) (va_A wc H.size) t) (va_A wc H.size) a) (va_A wc H.size))
    (hK : va_K D zcl tys s) (hP : va_P D zcl (X ++ pl) H) (hD : va_D A (X ++ pl)) (hS : va_S A s.heap H locs) (hA : ∀ q, s.heap.size ≤ q → A q) (isC isR : List Nat) (hC : isC.map (fun i => X[i]?) = wc.map some) (hR : isR.map (fun i => X[i]?) = wr.map some) (hn : va_nd isR = true) (hdis : ∀ i ∈ isR, i ∉ isC)
    (kk : ∀ (u : S) (H1 : Heap) (locs1 : List Loc), post u → va_P D zcl ((wr ++ w1 u) ++ pl) H1 → va_D A ((wr ++ w1 u) ++ pl) → va_K D zcl (tys ++ t1 u) s → va_S A s.heap H1 locs1 → W p l e R s m args below meth c H1 locs1 (cells + mc) (slots + ms) Q (F0 m (pc + 3) ls rest)) : W p l e R s m args below meth c H locs cells slots Q (F0 m pc ls st0) := by
  have hF := va_free (wc := wc) hD hS hA isC (zapp hC)
  refine va_callv hr hS (fun q _ h => hF q h) hF (fun u t H1 locs1 ht hvm hp hB hz hk hS1 => ?_)
  obtain ⟨hP1, hK1, hD1⟩ := hB
  rw [ht] at hP1
  obtain ⟨hP2, hD2⟩ := va_joinQ hP hD isC isR hC hR hn hdis hk hF hP1 hD1
  exact kk u H1 locs1 hp hP2 hD2 (hK.app (va_K.moved hvm.symm hK1)) hS1
theorem zjvP {S : Type} {post : S → Prop} {w1 : S → va_W} {p1 : S → va_W} {t1 : S → List (ClassId × FieldType)}
    (hr : va_Run p l e R s m args below meth c H locs cells slots mc ms (F0 m pc ls st0) rest (va_Qv post (fun u t => zB D (w1 u ++ p1 u) (t1 u) (va_A (wc ++ pl) H.size) t) (va_A (wc ++ pl) H.size) a) (va_A (wc ++ pl) H.size))
    (hK : va_K D zcl tys s) (hP : va_P D zcl (X ++ pl) H) (hD : va_D A (X ++ pl)) (hS : va_S A s.heap H locs) (hA : ∀ q, s.heap.size ≤ q → A q) (isC isR : List Nat) (hC : isC.map (fun i => X[i]?) = wc.map some) (hR : isR.map (fun i => X[i]?) = wr.map some) (hn : va_nd isR = true) (hdis : ∀ i ∈ isR, i ∉ isC)
    (kk : ∀ (u : S) (H1 : Heap) (locs1 : List Loc), post u → va_P D zcl ((wr ++ w1 u) ++ p1 u) H1 → va_D A ((wr ++ w1 u) ++ p1 u) → va_K D zcl (tys ++ t1 u) s → va_S A s.heap H1 locs1 → W p l e R s m args below meth c H1 locs1 (cells + mc) (slots + ms) Q (F0 m (pc + 3) ls rest)) : W p l e R s m args below meth c H locs cells slots Q (F0 m pc ls st0) := by
  have hF := va_freeP hD hS hA isC hC
  refine va_callv hr hS (fun q _ h => hF q h) hF (fun u t H1 locs1 ht hvm hp hB hz hk hS1 => ?_)
  obtain ⟨hP1, hK1, hD1⟩ := hB
  rw [ht] at hP1
  obtain ⟨hP2, hD2⟩ := va_joinP hP hD isC isR hC hR hn hdis hk hF hP1 hD1
  exact kk u H1 locs1 hp hP2 hD2 (hK.app (va_K.moved hvm.symm hK1)) hS1
theorem zpreVP {X0 : State → Prop} (hX : zBlind X0) (hK : va_K D zcl tys s) (hP : va_P D zcl (X ++ pl) H) (hD : va_D A (X ++ pl)) (isC tC : List Nat) (hC : isC.map (fun i => X[i]?) = wc.map some) (hn : va_nd isC = true) (htC : tC.filterMap (fun i => tys[i]?) = tc) (hx : ∀ U : State, U.heap = H → s.WarmedH U.vm → X0 U) {b : Nat} {C : String} {As : List Value} (hr : ∃ cellB : Cell, H[b]? = some cellB ∧ cellB.vm.isStatics = false ∧ s.vm.findClass C = some cellB.cls) : PreV s H C b (zPc (.ref b :: As) D (wc ++ pl) tc H.size X0) As :=
  ⟨zPc_blind hX, hr, fun U hU hW => ⟨rfl, by rw [hU], by rw [hU]; exact hP.part isC hC, va_K.moved hW.alike (hK.sub tC htC), (hD.part isC hn hC).weaken (fun _ _ _ _ => trivial), hx U hU hW⟩⟩
theorem zBendP {w : va_W} (hK : va_K D zcl tys s) (hP : va_P D zcl (X ++ pl) H) (hD : va_D A (X ++ pl)) (is ts : List Nat) (hC : is.map (fun i => X[i]?) = wc.map some) (hn : va_nd is = true) (htC : ts.filterMap (fun i => tys[i]?) = tc) (hw : pl = w) {t : State} (ht : t.heap = H) (hW : s.WarmedH t.vm) : zB D (wc ++ w) tc A t := by
  subst hw
  exact ⟨by rw [ht]; exact hP.part is hC, va_K.moved hW.alike (hK.sub ts htC), hD.part is hn hC⟩
theorem zretiP {S : Type} {post : Int32 → S → Prop} {w1 p1 : S → va_W} {t1 : S → List (ClassId × FieldType)} {v : Int32} (hx : p.tables.exec = Jvm.exec) (hb : c.code = cc) (hr : meth.sig.returnType = some .int) (hlk : meth.locks = false)
    (hK : va_K D zcl tys s) (hP : va_P D zcl (X ++ pl) H) (hD : va_D A (X ++ pl)) (hS : va_S A s.heap H locs) (u : S) (is ts : List Nat) (hC : is.map (fun i => X[i]?) = (w1 u).map some) (hn : va_nd is = true) (htC : ts.filterMap (fun i => tys[i]?) = t1 u) (hw : pl = p1 u) (hp : post v u) (hc : cells ≤ mc) (hs : slots ≤ ms) (hdg : decode cc pc = .ok (.ireturn, 1)) :
    W p l e R s m args below meth c H locs cells slots (MQ below (va_Qi post (fun u t => zB D (w1 u ++ p1 u) (t1 u) A t) A) args s mc ms A) (F0 m pc ls [.int v]) :=
  W.widen hc hs (W.iret hx hb hr (fun _ ht hW => ⟨⟨v, u, rfl, hp, zBendP hK hP hD is ts hC hn htC hw ht hW⟩, hS.F ht⟩) hS.2.2 hdg hlk)
theorem zretvP {S : Type} {post : S → Prop} {w1 p1 : S → va_W} {t1 : S → List (ClassId × FieldType)} (hx : p.tables.exec = Jvm.exec) (hb : c.code = cc) (hr : meth.sig.returnType = none) (hlk : meth.locks = false)
    (hK : va_K D zcl tys s) (hP : va_P D zcl (X ++ pl) H) (hD : va_D A (X ++ pl)) (hS : va_S A s.heap H locs) (u : S) (is ts : List Nat) (hC : is.map (fun i => X[i]?) = (w1 u).map some) (hn : va_nd is = true) (htC : ts.filterMap (fun i => tys[i]?) = t1 u) (hw : pl = p1 u) (hp : post u) (hc : cells ≤ mc) (hs : slots ≤ ms) (hdg : decode cc pc = .ok (.return_, 1)) :
    W p l e R s m args below meth c H locs cells slots (MQ below (va_Qv post (fun u t => zB D (w1 u ++ p1 u) (t1 u) A t) A) args s mc ms A) (F0 m pc ls []) :=
  W.widen hc hs (W.vret hx hb hr (fun _ ht hW => ⟨⟨u, rfl, hp, zBendP hK hP hD is ts hC hn htC hw ht hW⟩, hS.F ht⟩) hS.2.2 hdg hlk)
theorem zv_aald (hx : p.tables.exec = Jvm.exec) (hb : c.code = cc) {cl : List vw_C} {ws : va_W} {aa : Nat} (hK : va_K D cl tys s) (hP : va_P D cl ws H) (q0 t0 : Nat) {cA : ClassId} {C : String} {n : Nat} {fe : Nat → Option Nat} {ad : Nat → Nat} (hfe : ∀ k : Nat, k < n → fe k = some (ad k)) (ha : ws[q0]? = some (aa, .inl (cA, n, .inr (.inr (.inr (.inr fe)))))) (ht : tys[t0]? = some (cA, .object C)) {x : Int} (h : 0 ≤ x ∧ x < n) (hn : n < 2147483648) (hd : decode cc pc = .ok (.aaload, 1))
    (kk : W p l e R s m args below meth c H locs cells slots Q (F0 m (pc + 1) ls (.ref (ad x.toNat) :: rest))) : W p l e R s m args below meth c H locs cells slots Q (F0 m pc ls (.int (iI x) :: .ref aa :: rest)) := va_aldq hx hb hK hP q0 t0 ha ht (iI_in h.1 h.2 hn) hd (by
  rw [iI_clamp h.1 (by omega), hfe _ (by omega)]
  exact kk)
end ZPO
