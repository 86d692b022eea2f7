theorem d_L_law_23 : decode code 23 = .ok (.iload 4, 2) := by decide +kernel
theorem d_L_law_25 : decode code 25 = .ok (.aload_n 0, 1) := by decide +kernel
theorem d_L_law_26 : decode code 26 = .ok (.arraylength, 1) := by decide +kernel
theorem d_L_law_27 : decode code 27 = .ok (.bipush 6, 2) := by decide +kernel
theorem d_L_law_29 : decode code 29 = .ok (.isub, 1) := by decide +kernel
theorem d_L_law_30 : decode code 30 = .ok (.if_icmp .gt 504, 3) := by decide +kernel
theorem d_L_law_33 : decode code 33 = .ok (.aload_n 0, 1) := by decide +kernel
theorem d_L_law_34 : decode code 34 = .ok (.iload 4, 2) := by decide +kernel
theorem d_L_law_36 : decode code 36 = .ok (.iaload, 1) := by decide +kernel
theorem d_L_law_37 : decode code 37 = .ok (.bipush 15, 2) := by decide +kernel
theorem d_L_law_39 : decode code 39 = .ok (.iand, 1) := by decide +kernel
theorem d_L_law_40 : decode code 40 = .ok (.tableswitch 488 0 11 #[64, 140, 165, 205, 218, 231, 268, 296, 312, 380, 420, 460], 64) := by decide +kernel
theorem d_L_law_528 : decode code 528 = .ok (.iinc 4 6, 3) := by decide +kernel
theorem d_L_law_531 : decode code 531 = .ok (.goto (-508), 3) := by decide +kernel
theorem d_L_law_534 : decode code 534 = .ok (.iconst 1, 1) := by decide +kernel
theorem d_L_law_535 : decode code 535 = .ok (.ireturn, 1) := by decide +kernel
set_option maxHeartbeats 8000000 in
set_option maxRecDepth 100000 in
theorem zl_loop {p : Program} {l : Launch} {e : Env} {s : State} {m : MethodId} {below : List Frame} {meth : Method} {c : Code} {b Lx : Nat} {xs : Nat → Int32} {A : Nat → Prop} {D : va_G} (hx : p.tables.exec = Jvm.exec) (hb : c.code = code) (hml : c.maxLocals = 7) (hown : s.vm.findClass "ZipGuardLaw" = some m.cls) (ht : ∀ w ∈ zt, w.before #[Value.ref b] s = true) (hX : va_X b Lx xs s s.heap) (hbl : b < s.heap.size) (hl9 : l.stackTraces = false) (hGl : zG s) (hNo : zNo s) (hTab : zTab A s) (hA : ∀ q, s.heap.size ≤ q → A q) (hAe : ∀ q, A q → s.heap.size ≤ q) (hLx : Lx ≤ 3072) (hr : meth.sig.returnType = ret) (hlk : meth.locks = false) (qg : Nat) (qt : Nat) (qd : Nat) (qa : Nat) (qu : Nat) (qb : Nat) (cB : ClassId) (qn : Nat) (cE : ClassId) (fe : Nat → Option Nat) (qo : Nat) (qr : Nat) (qw : Nat) (s1 : Nat) (s2 : Nat) (s3 : Nat) (s4 : Nat) (s5 : Nat) (cO : ClassId) (cW : ClassId) (l1 : Nat) (l2 : Nat) (l3 : Nat) (cL1 : ClassId) (cL2 : ClassId) (cL3 : ClassId) (o1 : Nat) (o2 : Nat) (o3 : Nat) (cU1 : ClassId) (cU2 : ClassId) (cU3 : ClassId) (p1 : Nat) (p2 : Nat) (p3 : Nat) (cV1 : ClassId) (cV2 : ClassId) (cV3 : ClassId) (c1 : Nat) (c2 : Nat) (c3 : Nat) (cC1 : ClassId) (g1 : Nat → Int32) (cC3 : ClassId) (SS : Nat) (g3 : Nat → Int32) (w1 : Nat) (w2 : Nat) (w3 : Nat) (cX1 : ClassId) (v1 : Nat → Int32) (cX3 : ClassId) (SX : Nat) (v3 : Nat → Int32) (qm : Nat) (qT : Nat) (qMe : Nat) (qPk : Nat) (qSz : Nat) (qSu : Nat) (qDa : Nat) (qLo : Nat) (qLe : Nat) (qNa : Nat) (qNs : Nat) (qSt : Nat) (qSa : Nat) (qCo : Nat) (qWr : Nat) (qLn : Nat) (qSm : Nat) (qCd : Nat) (qSc : Nat) (cT : ClassId) (cMe : ClassId) (cPk : ClassId) (cSz : ClassId) (cSu : ClassId) (cDa : ClassId) (cLo : ClassId) (cLe : ClassId) (cNa : ClassId) (cNs : ClassId) (cSt : ClassId) (cSa : ClassId) (cCo : ClassId) (cWr : ClassId) (cLn : ClassId) (cSm : ClassId) (cCd : ClassId) (cSc : ClassId) (qz : Nat) (cZ : ClassId) (ad : Nat → Nat) (d : Nat → Nat) (n : Nat) (dx : Nat → Nat) (nx : Nat) (hG : ∀ l, l ≤ 15 → g1 l = nI (zcn d n l)) (hn : n ≤ 320) (hSS : n ≤ SS) (hS2 : SS < 2 ^ 31) (hg3 : ∀ i, i < n → 1 ≤ d i → g3 (zst d n (d i) + zcn d i (d i)) = nI i) (hGx : ∀ l, l ≤ 15 → v1 l = nI (zcn dx nx l)) (hnx : nx ≤ 320) (hSX : nx ≤ SX) (hX2 : SX < 2 ^ 31) (hv3 : ∀ i, i < nx → 1 ≤ dx i → v3 (zst dx nx (dx i) + zcn dx i (dx i)) = nI i) (hdn : d = zfx ∧ n = 288 ∧ dx = (fun _ => 5) ∧ nx = 32) (hfe : ∀ k : Nat, k < 64 → fe k = some (ad k)) (hK : va_K D zcl [(cB, .byte), (cE, .object "ZipGuard$Entry"), (cO, .byte), (cW, .int), (cL1, .int), (cL2, .int), (cL3, .int), (cU1, .int), (cU2, .int), (cU3, .int), (cV1, .int), (cV2, .int), (cV3, .int), (cC1, .int), (cC3, .int), (cX1, .int), (cX3, .int), (cT, .byte), (cMe, .int), (cPk, .long), (cSz, .long), (cSu, .int), (cDa, .int), (cLo, .int), (cLe, .int), (cNa, .byte), (cNs, .int), (cSt, .int), (cSa, .int), (cCo, .int), (cWr, .byte), (cLn, .int), (cSm, .int), (cCd, .int), (cSc, .int), (cZ, .long)] s) : ∀ (j : Nat) (i : Int) (L : Int) (f : Nat → Int32) (ct : Int) (io : Int) (fpc : Int) (buc : Nat) (rac : Nat) (toc : Nat) (ks : Int32) (ft : Nat → Int32) (a0 : Int32) (b0 : Int32) (u0 : Int32) (rw : Nat → Int32) (k0 : Int32) (y1 : Nat → Int32) (y2 : Nat → Int32) (y3 : Nat → Int32) (k4 : Int32) (m1 : Nat → Int32) (m2 : Nat → Int32) (m3 : Nat → Int32) (k5 : Int32) (e1 : Nat → Int32) (e2 : Nat → Int32) (e3 : Nat → Int32) (LL : List zE) (len : Int) (op : Int) (fp : Int) (bu : Int) (ra : Int) (en : Int) (to : Int) (nw : Int) (bt : Int) (rf : Int) (sy : Int) (di : Int) (th : Int) (fT : Nat → Int32) (fMe : Nat → Int32) (fPk : Nat → Int) (fSz : Nat → Int64) (fSu : Nat → Int32) (fDa : Nat → Int) (fLo : Nat → Int) (fLe : Nat → Int) (fNa : Nat → Int32) (fNs : Nat → Int) (fSt : Nat → Int32) (fSa : Nat → Int) (fCo : Nat → Int) (fWr : Nat → Int32) (fLn : Nat → Int) (fSm : Nat → Int) (fCd : Nat → Int32) (fSc : Nat → Int32) (gz : Nat → Int) (cells slots : Nat) (H : Heap) (locs : List Loc) (ls : Array Slot), (0 ≤ i ∧ i ≤ Lx) → ((Lx : Int) - i < 6 * (j : Int)) → (cells + j ≤ 601024) → (slots + 6 * j ≤ 7293034) → zSt qg qt qd qa qu qb cB qn cE fe qo qr qw s1 s2 s3 s4 s5 cO cW l1 l2 l3 cL1 cL2 cL3 o1 o2 o3 cU1 cU2 cU3 p1 p2 p3 cV1 cV2 cV3 c1 c2 c3 cC1 g1 cC3 SS g3 w1 w2 w3 cX1 v1 cX3 SX v3 qm qT qMe qPk qSz qSu qDa qLo qLe qNa qNs qSt qSa qCo qWr qLn qSm qCd qSc cT cMe cPk cSz cSu cDa cLo cLe cNa cNs cSt cSa cCo cWr cLn cSm cCd cSc qz cZ ad d n dx nx L f ct io fpc buc rac toc ks ft a0 b0 u0 rw k0 y1 y2 y3 k4 m1 m2 m3 k5 e1 e2 e3 LL len op fp bu ra en to nw bt rf sy di th fT fMe fPk fSz fSu fDa fLo fLe fNa fNs fSt fSa fCo fWr fLn fSm fCd fSc gz D A s b i H locs ls → W p l e room_1 s m #[Value.ref b] below meth c H locs cells slots (lw_Z below #[Value.ref b] s) (F0 m 23 ls []) := by
  intro j
  induction j with
  | zero => intro i L f ct io fpc buc rac toc ks ft a0 b0 u0 rw k0 y1 y2 y3 k4 m1 m2 m3 k5 e1 e2 e3 LL len op fp bu ra en to nw bt rf sy di th fT fMe fPk fSz fSu fDa fLo fLe fNa fNs fSt fSa fCo fWr fLn fSm fCd fSc gz cells slots H locs ls hi hj hcl hsl hst; exfalso; omega
  | succ j ih =>
    intro i L f ct io fpc buc rac toc ks ft a0 b0 u0 rw k0 y1 y2 y3 k4 m1 m2 m3 k5 e1 e2 e3 LL len op fp bu ra en to nw bt rf sy di th fT fMe fPk fSz fSu fDa fLo fLe fNa fNs fSt fSa fCo fWr fLn fSm fCd fSc gz cells slots H locs ls hi hj hcl hsl hst
    obtain ⟨hI, hP, hD, hS, hl⟩ := hst
    have hbA : ¬ A b := fun h => absurd (hAe b h) (Nat.not_le.mpr hbl)
    refine lv_iload hx hb d_L_law_23 (lv_at hl 0 rfl) ?_
    refine lv_aload_n hx hb d_L_law_25 rfl (lv_at hl 4 rfl) ?_
    refine va_slen hx hb hX hbl hbA hS d_L_law_26 ?_
    refine zv_lit (Lx : Int) (iI_nI Lx) ?_
    refine lv_bipush (v := iI 6) hx hb d_L_law_27 (by decide) ?_
    refine zv_isub (z := (Lx : Int) - 6) hx hb d_L_law_29 (by omega) ?_
    refine zv_icmp_gt (tgt := 534) hx hb d_L_law_30 (by decide) (by omega) (by omega) (fun hc_1 => ?_) (fun hc_1 => ?_)
    · skip
      refine lv_iconst (v := 1) hx hb d_L_law_534 (by decide) ?_
      exact va_forget (fun q hq => hAe _ (hS.2.2 q hq)) (W.widen (by omega) (by omega) (lw_ret hx hb hr hlk d_L_law_535))
    · skip
      have tl : ∀ (L : Int) (f : Nat → Int32) (ct : Int) (io : Int) (fpc : Int) (buc : Nat) (rac : Nat) (toc : Nat) (ks : Int32) (ft : Nat → Int32) (a0 : Int32) (b0 : Int32) (u0 : Int32) (rw : Nat → Int32) (k0 : Int32) (y1 : Nat → Int32) (y2 : Nat → Int32) (y3 : Nat → Int32) (k4 : Int32) (m1 : Nat → Int32) (m2 : Nat → Int32) (m3 : Nat → Int32) (k5 : Int32) (e1 : Nat → Int32) (e2 : Nat → Int32) (e3 : Nat → Int32) (LL : List zE) (len : Int) (op : Int) (fp : Int) (bu : Int) (ra : Int) (en : Int) (to : Int) (nw : Int) (bt : Int) (rf : Int) (sy : Int) (di : Int) (th : Int) (fT : Nat → Int32) (fMe : Nat → Int32) (fPk : Nat → Int) (fSz : Nat → Int64) (fSu : Nat → Int32) (fDa : Nat → Int) (fLo : Nat → Int) (fLe : Nat → Int) (fNa : Nat → Int32) (fNs : Nat → Int) (fSt : Nat → Int32) (fSa : Nat → Int) (fCo : Nat → Int) (fWr : Nat → Int32) (fLn : Nat → Int) (fSm : Nat → Int) (fCd : Nat → Int32) (fSc : Nat → Int32) (gz : Nat → Int) (H : Heap) (locs : List Loc) (ls : Array Slot), zSt qg qt qd qa qu qb cB qn cE fe qo qr qw s1 s2 s3 s4 s5 cO cW l1 l2 l3 cL1 cL2 cL3 o1 o2 o3 cU1 cU2 cU3 p1 p2 p3 cV1 cV2 cV3 c1 c2 c3 cC1 g1 cC3 SS g3 w1 w2 w3 cX1 v1 cX3 SX v3 qm qT qMe qPk qSz qSu qDa qLo qLe qNa qNs qSt qSa qCo qWr qLn qSm qCd qSc cT cMe cPk cSz cSu cDa cLo cLe cNa cNs cSt cSa cCo cWr cLn cSm cCd cSc qz cZ ad d n dx nx L f ct io fpc buc rac toc ks ft a0 b0 u0 rw k0 y1 y2 y3 k4 m1 m2 m3 k5 e1 e2 e3 LL len op fp bu ra en to nw bt rf sy di th fT fMe fPk fSz fSu fDa fLo fLe fNa fNs fSt fSa fCo fWr fLn fSm fCd fSc gz D A s b i H locs ls → W p l e room_1 s m #[Value.ref b] below meth c H locs (cells + 1) (slots + 6) (lw_Z below #[Value.ref b] s) (F0 m 528 ls []) := by
        intro L f ct io fpc buc rac toc ks ft a0 b0 u0 rw k0 y1 y2 y3 k4 m1 m2 m3 k5 e1 e2 e3 LL len op fp bu ra en to nw bt rf sy di th fT fMe fPk fSz fSu fDa fLo fLe fNa fNs fSt fSa fCo fWr fLn fSm fCd fSc gz H locs ls hst
        obtain ⟨hI, hP, hD, hS, hl⟩ := hst
        refine lv_iinc (k := 0) (v := iI (i + 6)) (lv' := [(4, .int (iI (i + 6))), (3, .ref qz), (2, .ref qm), (1, .ref qg), (0, .ref b)]) hx hb d_L_law_528 hl rfl (zinc (by omega)) (by decide) rfl (fun ls hl => ?_)
        refine lv_goto (tgt := 23) hx hb d_L_law_531 (by decide) ?_
        exact ih (i + 6) L f ct io fpc buc rac toc ks ft a0 b0 u0 rw k0 y1 y2 y3 k4 m1 m2 m3 k5 e1 e2 e3 LL len op fp bu ra en to nw bt rf sy di th fT fMe fPk fSz fSu fDa fLo fLe fNa fNs fSt fSa fCo fWr fLn fSm fCd fSc gz (cells + 1) (slots + 6) H locs ls (by omega) (by omega) (by omega) (by omega) ⟨hI, hP, hD, hS, hl⟩
      refine lv_aload_n hx hb d_L_law_33 rfl (lv_at hl 4 rfl) ?_
      refine lv_iload hx hb d_L_law_34 (lv_at hl 0 rfl) ?_
      refine va_sld hx hb hX hbl hbA hS (iI_in (by omega) (by omega) (by omega)) d_L_law_36 ?_
      obtain ⟨x_2, hz_3, ha_4, ha_5⟩ := iI_of (xs (iI i).toNatClampNeg)
      refine zv_lit x_2 hz_3 ?_
      refine lv_bipush (v := iI 15) hx hb d_L_law_37 (by decide) ?_
      refine zv_iand hx hb d_L_law_39 (by omega) (fun x_6 ha_7 ha_8 => ?_)
      by_cases hc_9 : x_6 = 0
      · skip
        refine zv_eqI hc_9 ?_
        refine lv_tableIn (off := 64) (tgt := 104) hx hb d_L_law_40 (by decide) (by decide) (by decide) (by decide) ?_
        exact zc_0 hx hb hml hown ht hX hbl hl9 hGl hNo hTab hA hAe hLx qg qt qd qa qu qb cB qn cE fe qo qr qw s1 s2 s3 s4 s5 cO cW l1 l2 l3 cL1 cL2 cL3 o1 o2 o3 cU1 cU2 cU3 p1 p2 p3 cV1 cV2 cV3 c1 c2 c3 cC1 g1 cC3 SS g3 w1 w2 w3 cX1 v1 cX3 SX v3 qm qT qMe qPk qSz qSu qDa qLo qLe qNa qNs qSt qSa qCo qWr qLn qSm qCd qSc cT cMe cPk cSz cSu cDa cLo cLe cNa cNs cSt cSa cCo cWr cLn cSm cCd cSc qz cZ ad d n dx nx hG hn hSS hS2 hg3 hGx hnx hSX hX2 hv3 hdn hfe hK i (by omega) (by omega) (by omega) tl L f ct io fpc buc rac toc ks ft a0 b0 u0 rw k0 y1 y2 y3 k4 m1 m2 m3 k5 e1 e2 e3 LL len op fp bu ra en to nw bt rf sy di th fT fMe fPk fSz fSu fDa fLo fLe fNa fNs fSt fSa fCo fWr fLn fSm fCd fSc gz ⟨hI, hP, hD, hS, lv_sub hl [0, 1, 2, 3, 4] rfl⟩
      · skip
        by_cases hc_10 : x_6 = 1
        · skip
          refine zv_eqI hc_10 ?_
          refine lv_tableIn (off := 140) (tgt := 180) hx hb d_L_law_40 (by decide) (by decide) (by decide) (by decide) ?_
          exact zc_1 hx hb hml hown ht hX hbl hl9 hGl hNo hTab hA hAe hLx qg qt qd qa qu qb cB qn cE fe qo qr qw s1 s2 s3 s4 s5 cO cW l1 l2 l3 cL1 cL2 cL3 o1 o2 o3 cU1 cU2 cU3 p1 p2 p3 cV1 cV2 cV3 c1 c2 c3 cC1 g1 cC3 SS g3 w1 w2 w3 cX1 v1 cX3 SX v3 qm qT qMe qPk qSz qSu qDa qLo qLe qNa qNs qSt qSa qCo qWr qLn qSm qCd qSc cT cMe cPk cSz cSu cDa cLo cLe cNa cNs cSt cSa cCo cWr cLn cSm cCd cSc qz cZ ad d n dx nx hG hn hSS hS2 hg3 hGx hnx hSX hX2 hv3 hdn hfe hK i (by omega) (by omega) (by omega) tl L f ct io fpc buc rac toc ks ft a0 b0 u0 rw k0 y1 y2 y3 k4 m1 m2 m3 k5 e1 e2 e3 LL len op fp bu ra en to nw bt rf sy di th fT fMe fPk fSz fSu fDa fLo fLe fNa fNs fSt fSa fCo fWr fLn fSm fCd fSc gz ⟨hI, hP, hD, hS, lv_sub hl [0, 1, 2, 3, 4] rfl⟩
        · skip
          by_cases hc_11 : x_6 = 2
          · skip
            refine zv_eqI hc_11 ?_
            refine lv_tableIn (off := 165) (tgt := 205) hx hb d_L_law_40 (by decide) (by decide) (by decide) (by decide) ?_
            exact zc_2 hx hb hml hown ht hX hbl hl9 hGl hNo hTab hA hAe hLx qg qt qd qa qu qb cB qn cE fe qo qr qw s1 s2 s3 s4 s5 cO cW l1 l2 l3 cL1 cL2 cL3 o1 o2 o3 cU1 cU2 cU3 p1 p2 p3 cV1 cV2 cV3 c1 c2 c3 cC1 g1 cC3 SS g3 w1 w2 w3 cX1 v1 cX3 SX v3 qm qT qMe qPk qSz qSu qDa qLo qLe qNa qNs qSt qSa qCo qWr qLn qSm qCd qSc cT cMe cPk cSz cSu cDa cLo cLe cNa cNs cSt cSa cCo cWr cLn cSm cCd cSc qz cZ ad d n dx nx hG hn hSS hS2 hg3 hGx hnx hSX hX2 hv3 hdn hfe hK i (by omega) (by omega) (by omega) tl L f ct io fpc buc rac toc ks ft a0 b0 u0 rw k0 y1 y2 y3 k4 m1 m2 m3 k5 e1 e2 e3 LL len op fp bu ra en to nw bt rf sy di th fT fMe fPk fSz fSu fDa fLo fLe fNa fNs fSt fSa fCo fWr fLn fSm fCd fSc gz ⟨hI, hP, hD, hS, lv_sub hl [0, 1, 2, 3, 4] rfl⟩
          · skip
            by_cases hc_12 : x_6 = 3
            · skip
              refine zv_eqI hc_12 ?_
              refine lv_tableIn (off := 205) (tgt := 245) hx hb d_L_law_40 (by decide) (by decide) (by decide) (by decide) ?_
              exact zc_3 hx hb hml hown ht hX hbl hl9 hGl hNo hTab hA hAe hLx qg qt qd qa qu qb cB qn cE fe qo qr qw s1 s2 s3 s4 s5 cO cW l1 l2 l3 cL1 cL2 cL3 o1 o2 o3 cU1 cU2 cU3 p1 p2 p3 cV1 cV2 cV3 c1 c2 c3 cC1 g1 cC3 SS g3 w1 w2 w3 cX1 v1 cX3 SX v3 qm qT qMe qPk qSz qSu qDa qLo qLe qNa qNs qSt qSa qCo qWr qLn qSm qCd qSc cT cMe cPk cSz cSu cDa cLo cLe cNa cNs cSt cSa cCo cWr cLn cSm cCd cSc qz cZ ad d n dx nx hG hn hSS hS2 hg3 hGx hnx hSX hX2 hv3 hdn hfe hK i (by omega) (by omega) (by omega) tl L f ct io fpc buc rac toc ks ft a0 b0 u0 rw k0 y1 y2 y3 k4 m1 m2 m3 k5 e1 e2 e3 LL len op fp bu ra en to nw bt rf sy di th fT fMe fPk fSz fSu fDa fLo fLe fNa fNs fSt fSa fCo fWr fLn fSm fCd fSc gz ⟨hI, hP, hD, hS, lv_sub hl [0, 1, 2, 3, 4] rfl⟩
            · skip
              by_cases hc_13 : x_6 = 4
              · skip
                refine zv_eqI hc_13 ?_
                refine lv_tableIn (off := 218) (tgt := 258) hx hb d_L_law_40 (by decide) (by decide) (by decide) (by decide) ?_
                exact zc_4 hx hb hml hown ht hX hbl hl9 hGl hNo hTab hA hAe hLx qg qt qd qa qu qb cB qn cE fe qo qr qw s1 s2 s3 s4 s5 cO cW l1 l2 l3 cL1 cL2 cL3 o1 o2 o3 cU1 cU2 cU3 p1 p2 p3 cV1 cV2 cV3 c1 c2 c3 cC1 g1 cC3 SS g3 w1 w2 w3 cX1 v1 cX3 SX v3 qm qT qMe qPk qSz qSu qDa qLo qLe qNa qNs qSt qSa qCo qWr qLn qSm qCd qSc cT cMe cPk cSz cSu cDa cLo cLe cNa cNs cSt cSa cCo cWr cLn cSm cCd cSc qz cZ ad d n dx nx hG hn hSS hS2 hg3 hGx hnx hSX hX2 hv3 hdn hfe hK i (by omega) (by omega) (by omega) tl L f ct io fpc buc rac toc ks ft a0 b0 u0 rw k0 y1 y2 y3 k4 m1 m2 m3 k5 e1 e2 e3 LL len op fp bu ra en to nw bt rf sy di th fT fMe fPk fSz fSu fDa fLo fLe fNa fNs fSt fSa fCo fWr fLn fSm fCd fSc gz ⟨hI, hP, hD, hS, lv_sub hl [0, 1, 2, 3, 4] rfl⟩
              · skip
                by_cases hc_14 : x_6 = 5
                · skip
                  refine zv_eqI hc_14 ?_
                  refine lv_tableIn (off := 231) (tgt := 271) hx hb d_L_law_40 (by decide) (by decide) (by decide) (by decide) ?_
                  exact zc_5 hx hb hml hown ht hX hbl hl9 hGl hNo hTab hA hAe hLx qg qt qd qa qu qb cB qn cE fe qo qr qw s1 s2 s3 s4 s5 cO cW l1 l2 l3 cL1 cL2 cL3 o1 o2 o3 cU1 cU2 cU3 p1 p2 p3 cV1 cV2 cV3 c1 c2 c3 cC1 g1 cC3 SS g3 w1 w2 w3 cX1 v1 cX3 SX v3 qm qT qMe qPk qSz qSu qDa qLo qLe qNa qNs qSt qSa qCo qWr qLn qSm qCd qSc cT cMe cPk cSz cSu cDa cLo cLe cNa cNs cSt cSa cCo cWr cLn cSm cCd cSc qz cZ ad d n dx nx hG hn hSS hS2 hg3 hGx hnx hSX hX2 hv3 hdn hfe hK i (by omega) (by omega) (by omega) tl L f ct io fpc buc rac toc ks ft a0 b0 u0 rw k0 y1 y2 y3 k4 m1 m2 m3 k5 e1 e2 e3 LL len op fp bu ra en to nw bt rf sy di th fT fMe fPk fSz fSu fDa fLo fLe fNa fNs fSt fSa fCo fWr fLn fSm fCd fSc gz ⟨hI, hP, hD, hS, lv_sub hl [0, 1, 2, 3, 4] rfl⟩
                · skip
                  by_cases hc_15 : x_6 = 6
                  · skip
                    refine zv_eqI hc_15 ?_
                    refine lv_tableIn (off := 268) (tgt := 308) hx hb d_L_law_40 (by decide) (by decide) (by decide) (by decide) ?_
                    exact zc_6 hx hb hml hown ht hX hbl hl9 hGl hNo hTab hA hAe hLx qg qt qd qa qu qb cB qn cE fe qo qr qw s1 s2 s3 s4 s5 cO cW l1 l2 l3 cL1 cL2 cL3 o1 o2 o3 cU1 cU2 cU3 p1 p2 p3 cV1 cV2 cV3 c1 c2 c3 cC1 g1 cC3 SS g3 w1 w2 w3 cX1 v1 cX3 SX v3 qm qT qMe qPk qSz qSu qDa qLo qLe qNa qNs qSt qSa qCo qWr qLn qSm qCd qSc cT cMe cPk cSz cSu cDa cLo cLe cNa cNs cSt cSa cCo cWr cLn cSm cCd cSc qz cZ ad d n dx nx hG hn hSS hS2 hg3 hGx hnx hSX hX2 hv3 hdn hfe hK i (by omega) (by omega) (by omega) tl L f ct io fpc buc rac toc ks ft a0 b0 u0 rw k0 y1 y2 y3 k4 m1 m2 m3 k5 e1 e2 e3 LL len op fp bu ra en to nw bt rf sy di th fT fMe fPk fSz fSu fDa fLo fLe fNa fNs fSt fSa fCo fWr fLn fSm fCd fSc gz ⟨hI, hP, hD, hS, lv_sub hl [0, 1, 2, 3, 4] rfl⟩
                  · skip
                    by_cases hc_16 : x_6 = 7
                    · skip
                      refine zv_eqI hc_16 ?_
                      refine lv_tableIn (off := 296) (tgt := 336) hx hb d_L_law_40 (by decide) (by decide) (by decide) (by decide) ?_
                      exact zc_7 hx hb hml hown ht hX hbl hl9 hGl hNo hTab hA hAe hLx qg qt qd qa qu qb cB qn cE fe qo qr qw s1 s2 s3 s4 s5 cO cW l1 l2 l3 cL1 cL2 cL3 o1 o2 o3 cU1 cU2 cU3 p1 p2 p3 cV1 cV2 cV3 c1 c2 c3 cC1 g1 cC3 SS g3 w1 w2 w3 cX1 v1 cX3 SX v3 qm qT qMe qPk qSz qSu qDa qLo qLe qNa qNs qSt qSa qCo qWr qLn qSm qCd qSc cT cMe cPk cSz cSu cDa cLo cLe cNa cNs cSt cSa cCo cWr cLn cSm cCd cSc qz cZ ad d n dx nx hG hn hSS hS2 hg3 hGx hnx hSX hX2 hv3 hdn hfe hK i (by omega) (by omega) (by omega) tl L f ct io fpc buc rac toc ks ft a0 b0 u0 rw k0 y1 y2 y3 k4 m1 m2 m3 k5 e1 e2 e3 LL len op fp bu ra en to nw bt rf sy di th fT fMe fPk fSz fSu fDa fLo fLe fNa fNs fSt fSa fCo fWr fLn fSm fCd fSc gz ⟨hI, hP, hD, hS, lv_sub hl [0, 1, 2, 3, 4] rfl⟩
                    · skip
                      by_cases hc_17 : x_6 = 8
                      · skip
                        refine zv_eqI hc_17 ?_
                        refine lv_tableIn (off := 312) (tgt := 352) hx hb d_L_law_40 (by decide) (by decide) (by decide) (by decide) ?_
                        exact zc_8 hx hb hml hown ht hX hbl hl9 hGl hNo hTab hA hAe hLx qg qt qd qa qu qb cB qn cE fe qo qr qw s1 s2 s3 s4 s5 cO cW l1 l2 l3 cL1 cL2 cL3 o1 o2 o3 cU1 cU2 cU3 p1 p2 p3 cV1 cV2 cV3 c1 c2 c3 cC1 g1 cC3 SS g3 w1 w2 w3 cX1 v1 cX3 SX v3 qm qT qMe qPk qSz qSu qDa qLo qLe qNa qNs qSt qSa qCo qWr qLn qSm qCd qSc cT cMe cPk cSz cSu cDa cLo cLe cNa cNs cSt cSa cCo cWr cLn cSm cCd cSc qz cZ ad d n dx nx hG hn hSS hS2 hg3 hGx hnx hSX hX2 hv3 hdn hfe hK i (by omega) (by omega) (by omega) tl L f ct io fpc buc rac toc ks ft a0 b0 u0 rw k0 y1 y2 y3 k4 m1 m2 m3 k5 e1 e2 e3 LL len op fp bu ra en to nw bt rf sy di th fT fMe fPk fSz fSu fDa fLo fLe fNa fNs fSt fSa fCo fWr fLn fSm fCd fSc gz ⟨hI, hP, hD, hS, lv_sub hl [0, 1, 2, 3, 4] rfl⟩
                      · skip
                        by_cases hc_18 : x_6 = 9
                        · skip
                          refine zv_eqI hc_18 ?_
                          refine lv_tableIn (off := 380) (tgt := 420) hx hb d_L_law_40 (by decide) (by decide) (by decide) (by decide) ?_
                          exact zc_9 hx hb hml hown ht hX hbl hl9 hGl hNo hTab hA hAe hLx qg qt qd qa qu qb cB qn cE fe qo qr qw s1 s2 s3 s4 s5 cO cW l1 l2 l3 cL1 cL2 cL3 o1 o2 o3 cU1 cU2 cU3 p1 p2 p3 cV1 cV2 cV3 c1 c2 c3 cC1 g1 cC3 SS g3 w1 w2 w3 cX1 v1 cX3 SX v3 qm qT qMe qPk qSz qSu qDa qLo qLe qNa qNs qSt qSa qCo qWr qLn qSm qCd qSc cT cMe cPk cSz cSu cDa cLo cLe cNa cNs cSt cSa cCo cWr cLn cSm cCd cSc qz cZ ad d n dx nx hG hn hSS hS2 hg3 hGx hnx hSX hX2 hv3 hdn hfe hK i (by omega) (by omega) (by omega) tl L f ct io fpc buc rac toc ks ft a0 b0 u0 rw k0 y1 y2 y3 k4 m1 m2 m3 k5 e1 e2 e3 LL len op fp bu ra en to nw bt rf sy di th fT fMe fPk fSz fSu fDa fLo fLe fNa fNs fSt fSa fCo fWr fLn fSm fCd fSc gz ⟨hI, hP, hD, hS, lv_sub hl [0, 1, 2, 3, 4] rfl⟩
                        · skip
                          by_cases hc_19 : x_6 = 10
                          · skip
                            refine zv_eqI hc_19 ?_
                            refine lv_tableIn (off := 420) (tgt := 460) hx hb d_L_law_40 (by decide) (by decide) (by decide) (by decide) ?_
                            exact zc_10 hx hb hml hown ht hX hbl hl9 hGl hNo hTab hA hAe hLx qg qt qd qa qu qb cB qn cE fe qo qr qw s1 s2 s3 s4 s5 cO cW l1 l2 l3 cL1 cL2 cL3 o1 o2 o3 cU1 cU2 cU3 p1 p2 p3 cV1 cV2 cV3 c1 c2 c3 cC1 g1 cC3 SS g3 w1 w2 w3 cX1 v1 cX3 SX v3 qm qT qMe qPk qSz qSu qDa qLo qLe qNa qNs qSt qSa qCo qWr qLn qSm qCd qSc cT cMe cPk cSz cSu cDa cLo cLe cNa cNs cSt cSa cCo cWr cLn cSm cCd cSc qz cZ ad d n dx nx hG hn hSS hS2 hg3 hGx hnx hSX hX2 hv3 hdn hfe hK i (by omega) (by omega) (by omega) tl L f ct io fpc buc rac toc ks ft a0 b0 u0 rw k0 y1 y2 y3 k4 m1 m2 m3 k5 e1 e2 e3 LL len op fp bu ra en to nw bt rf sy di th fT fMe fPk fSz fSu fDa fLo fLe fNa fNs fSt fSa fCo fWr fLn fSm fCd fSc gz ⟨hI, hP, hD, hS, lv_sub hl [0, 1, 2, 3, 4] rfl⟩
                          · skip
                            by_cases hc_20 : x_6 = 11
                            · skip
                              refine zv_eqI hc_20 ?_
                              refine lv_tableIn (off := 460) (tgt := 500) hx hb d_L_law_40 (by decide) (by decide) (by decide) (by decide) ?_
                              exact zc_11 hx hb hml hown ht hX hbl hl9 hGl hNo hTab hA hAe hLx qg qt qd qa qu qb cB qn cE fe qo qr qw s1 s2 s3 s4 s5 cO cW l1 l2 l3 cL1 cL2 cL3 o1 o2 o3 cU1 cU2 cU3 p1 p2 p3 cV1 cV2 cV3 c1 c2 c3 cC1 g1 cC3 SS g3 w1 w2 w3 cX1 v1 cX3 SX v3 qm qT qMe qPk qSz qSu qDa qLo qLe qNa qNs qSt qSa qCo qWr qLn qSm qCd qSc cT cMe cPk cSz cSu cDa cLo cLe cNa cNs cSt cSa cCo cWr cLn cSm cCd cSc qz cZ ad d n dx nx hG hn hSS hS2 hg3 hGx hnx hSX hX2 hv3 hdn hfe hK i (by omega) (by omega) (by omega) tl L f ct io fpc buc rac toc ks ft a0 b0 u0 rw k0 y1 y2 y3 k4 m1 m2 m3 k5 e1 e2 e3 LL len op fp bu ra en to nw bt rf sy di th fT fMe fPk fSz fSu fDa fLo fLe fNa fNs fSt fSa fCo fWr fLn fSm fCd fSc gz ⟨hI, hP, hD, hS, lv_sub hl [0, 1, 2, 3, 4] rfl⟩
                            · skip
                              refine lv_tableOut (tgt := 528) hx hb d_L_law_40 (by rw [iI_toInt (by omega)]; omega) (by decide) ?_
                              refine W.widen (k := cells + 1) (n := slots + 6) (by omega) (by omega) ?_
                              exact tl L f ct io fpc buc rac toc ks ft a0 b0 u0 rw k0 y1 y2 y3 k4 m1 m2 m3 k5 e1 e2 e3 LL len op fp bu ra en to nw bt rf sy di th fT fMe fPk fSz fSu fDa fLo fLe fNa fNs fSt fSa fCo fWr fLn fSm fCd fSc gz _ _ _ ⟨hI, hP, hD, hS, lv_sub hl [0, 1, 2, 3, 4] rfl⟩
