/-! lengths and distances: the tables, and as they are reckoned -/
def zLA (y : Int) : Int := (zN ztab_2 (y - 257).toNat : Int)
def zLB (y : Int) : Int := (zN ztab_3 (y - 257).toNat : Int)
def zDA (y : Int) : Int := (zN ztab_4 y.toNat : Int)
def zDB (y : Int) : Int := (zN ztab_5 y.toNat : Int)
theorem zlen_t : ∀ k, k < 29 → (k < 8 → zN ztab_3 k = 0 ∧ zN ztab_2 k = 3 + k) ∧ (8 ≤ k → k < 28 → zN ztab_3 k = k / 4 - 1 ∧ zN ztab_2 k = 3 + (4 + k % 4) * 2 ^ (k / 4 - 1)) ∧ (k = 28 → zN ztab_3 k = 0 ∧ zN ztab_2 k = 258) := by decide +kernel
theorem zdis_t : ∀ k, k < 30 → (k < 4 → zN ztab_5 k = 0 ∧ zN ztab_4 k = 1 + k) ∧ (4 ≤ k → zN ztab_5 k = k / 2 - 1 ∧ zN ztab_4 k = 1 + (2 + k % 2) * 2 ^ (k / 2 - 1)) := by decide +kernel
theorem zLen_a {y : Int} (h1 : 257 ≤ y ∧ y < 265) : zLA y = 3 + (y - 257) ∧ zLB y = 0 := by
  have h2 := (zlen_t (y - 257).toNat (by omega)).1 (by omega)
  unfold zLA zLB
  omega
theorem zLen_c : zLA 285 = 258 ∧ zLB 285 = 0 := by
  have h2 := (zlen_t 28 (by omega)).2.2 rfl
  unfold zLA zLB
  rw [show ((285 : Int) - 257).toNat = 28 by decide]
  omega
theorem zLen_b {y q r z : Int} (h1 : 265 ≤ y ∧ y ≤ 284) (hq : q = (y - 257) / 4) (hr : r = (y - 257) % 4) (hz : z = (r + 4) * zp (q - 1)) : zLA y = 3 + z ∧ zLB y = q - 1 := by
  have h2 := (zlen_t (y - 257).toNat (by omega)).2.1 (by omega) (by omega)
  have e1 : (y - 257).toNat / 4 - 1 = (q - 1).toNat := by omega
  rw [e1] at h2
  unfold zLA zLB
  rw [h2.1, h2.2, hz, zp_nat, show r + 4 = ((4 + (y - 257).toNat % 4 : Nat) : Int) by omega]
  refine ⟨by push_cast; rfl, by omega⟩
theorem zDis_a {y : Int} (h1 : 0 ≤ y ∧ y < 4) : zDA y = 1 + y ∧ zDB y = 0 := by
  have h2 := (zdis_t y.toNat (by omega)).1 (by omega)
  unfold zDA zDB
  omega
theorem zDis_b {y q r z : Int} (h1 : 4 ≤ y ∧ y ≤ 29) (hq : q = y / 2) (hr : r = y % 2) (hz : z = (r + 2) * zp (q - 1)) : zDA y = 1 + z ∧ zDB y = q - 1 := by
  have h2 := (zdis_t y.toNat (by omega)).2 (by omega)
  have e1 : y.toNat / 2 - 1 = (q - 1).toNat := by omega
  rw [e1] at h2
  unfold zDA zDB
  rw [h2.1, h2.2, hz, zp_nat, show r + 2 = ((2 + y.toNat % 2 : Nat) : Int) by omega]
  refine ⟨by push_cast; rfl, by omega⟩
def zBq (f : Nat → Int32) (p q n x rf r1 bt b1 : Int) : Prop := zBr f p q n x rf r1 ∧ (r1 = 0 → b1 = bt + n)
theorem zBq_0 {f : Nat → Int32} {p q n x rf r1 bt b1 : Int} (h1 : p ≤ q) (hn : n = 0) (hx : x = 0) (hr : r1 = rf) (hb : b1 = bt) : zBq f p q n x rf r1 bt b1 := by
  subst hn hx hr hb
  refine ⟨?_, fun _ => by omega⟩
  unfold zBr
  rw [zbsI_0]
  omega
/-! a byte written: the reference's way is the class's -/
theorem zWc_put {cnt sl ra pk to bu : Int} {zz : Int64} (hs : sl = zz.toInt) (h1 : 0 ≤ cnt ∧ cnt ≤ 40000) (h2 : 0 ≤ ra ∧ ra ≤ 2000) (h3 : 0 ≤ pk ∧ pk ≤ 20000) (h4 : 0 ≤ to ∧ 0 ≤ bu) : zputR bu.toNat ra.toNat to.toNat cnt.toNat pk.toNat zz = iI (-(zWc cnt sl ra pk to bu)) := by
  have hm := zmulb h2 h3
  have e1 : (nI cnt.toNat).toInt64 = lI cnt := by rw [← iI_nn h1.1]; exact iI_l (by omega)
  have e2 : (nI ra.toNat).toInt64 = lI ra := by rw [← iI_nn h2.1]; exact iI_l (by omega)
  have e3 : (nI pk.toNat).toInt64 = lI pk := by rw [← iI_nn h3.1]; exact iI_l (by omega)
  have c1 : (lI cnt < zz) ↔ cnt < sl := by rw [Int64.lt_iff_toInt_lt, lI_toInt (by omega), ← hs]
  have c2 : (lI cnt < lI ra * lI pk + 16) ↔ cnt < ra * pk + 16 := by
    rw [lI_mul, show (16 : Int64) = lI 16 by decide, lI_add, Int64.lt_iff_toInt_lt, lI_toInt (by omega), lI_toInt (by omega)]
  unfold zputR zWc
  rw [e1, e2, e3]
  by_cases d1 : sl ≤ cnt
  · rw [if_pos (by rw [c1]; omega), if_pos d1]; decide
  · rw [if_neg (by rw [c1]; omega), if_neg d1]
    by_cases d2 : ra * pk + 16 ≤ cnt
    · rw [if_pos (by rw [c2]; omega), if_pos d2]; decide
    · rw [if_neg (by rw [c2]; omega), if_neg d2]
      by_cases d3 : bu ≤ to
      · rw [if_pos (by omega), if_pos d3]; decide
      · rw [if_neg (by omega), if_neg d3]; decide
/-- the running sum behind a byte that may be refused -/
def zks1 (r1 : Int) (ks b : Int32) : Int32 := if r1 = 0 then zcrc ks b else ks
theorem zWi_put {rf b cnt cnt1 sl ra pk to to1 bu r1 : Int} {fw fw1 : Nat → Int32} {zz : Int64} (q : zWi rf b cnt cnt1 sl ra pk to to1 bu r1 fw fw1) (hr : rf = 0) (hs : sl = zz.toInt) (h1 : 0 ≤ cnt ∧ cnt ≤ 40000) (h2 : 0 ≤ ra ∧ ra ≤ 2000) (h3 : 0 ≤ pk ∧ pk ≤ 20000) (h4 : 0 ≤ to ∧ 0 ≤ bu) (ks : Int32) : zput bu.toNat ra.toNat pk.toNat zz (to.toNat, cnt.toNat, ks, fw) (iI b) = (iI (-r1), (to1.toNat, cnt1.toNat, zks1 r1 ks (iI b), fw1)) := by
  have e1 := zWc_put (to := to) (bu := bu) hs h1 h2 h3 h4
  rcases q with q | ⟨_, q1, q2⟩
  · exact absurd hr q.1
  · rw [← q1] at e1
    unfold zput zks1
    dsimp only
    rw [e1]
    rcases q2 with ⟨p1, p2, p3, p4⟩ | ⟨p1, p2, p3, p4⟩
    · subst p1 p2 p3
      rw [if_pos (by decide), if_pos rfl, p4, show (to + 1).toNat = to.toNat + 1 by omega, show (cnt + 1).toNat = cnt.toNat + 1 by omega]
      rfl
    · have hb : zWc cnt sl ra pk to bu = 20 ∨ zWc cnt sl ra pk to bu = 21 ∨ zWc cnt sl ra pk to bu = 22 ∨ zWc cnt sl ra pk to bu = 0 := by
        unfold zWc
        split
        · exact Or.inl rfl
        · split
          · exact Or.inr (Or.inl rfl)
          · split
            · exact Or.inr (Or.inr (Or.inl rfl))
            · exact Or.inr (Or.inr (Or.inr rfl))
      rw [if_neg ?_, if_neg p1, p2, p3, p4]
      rw [← q1] at hb
      intro h9
      have h10 := (iI_eq (x := -r1) (y := 0) (by omega) (by omega)).mp (h9.trans iI_0.symm)
      omega
/-! what came out so far, as the class tells it -/
def zOo (to cnt cs : Int) (fw : Nat → Int32) : zO := (to.toNat, cnt.toNat, zsB fw cs.toNat cnt.toNat, fw)
theorem zW_o {b cnt cnt1 sl ra pk to to1 bu r1 cs : Int} {fw fw1 : Nat → Int32} {zz : Int64} (q : zWi 0 b cnt cnt1 sl ra pk to to1 bu r1 fw fw1) (hs : sl = zz.toInt) (h1 : 0 ≤ cnt ∧ cnt ≤ 40000) (h2 : 0 ≤ ra ∧ ra ≤ 2000) (h3 : 0 ≤ pk ∧ pk ≤ 20000) (h4 : 0 ≤ to ∧ 0 ≤ bu) (hb : 0 ≤ b ∧ b ≤ 255) (hc : 0 ≤ cs ∧ cs + cnt = to) : zput bu.toNat ra.toNat pk.toNat zz (zOo to cnt cs fw) (iI b) = (iI (-r1), zOo to1 cnt1 cs fw1) := by
  have e1 := zWi_put q rfl hs h1 h2 h3 h4 (zsB fw cs.toNat cnt.toNat)
  unfold zOo
  rw [e1]
  have e2 : zks1 r1 (zsB fw cs.toNat cnt.toNat) (iI b) = zsB fw1 cs.toNat cnt1.toNat := by
    unfold zks1
    rcases q with q | ⟨_, _, ⟨p1, p2, p3, p4⟩ | ⟨p1, p2, p3, p4⟩⟩
    · exact absurd rfl q.1
    · rw [if_pos p1, p4, p3, show (cnt + 1).toNat = cnt.toNat + 1 by omega, show to.toNat = cs.toNat + cnt.toNat by omega, zsB_s hb]
    · rw [if_neg p1, p3, p4]
  rw [e2]
theorem zWi_b {rf b b1 cnt cnt1 sl ra pk to to1 bu r1 : Int} {fw fw1 : Nat → Int32} (q : zWi rf b cnt cnt1 sl ra pk to to1 bu r1 fw fw1) (hb : zcb b = zcb b1) : zWi rf b1 cnt cnt1 sl ra pk to to1 bu r1 fw fw1 := by
  unfold zWi at *
  rw [hb] at q
  exact q
/-- the copying's state behind k bytes -/
def zAg (bu ra pk : Int) (zz : Int64) (cs dd le k : Int) (o0 : zO) (t cnt r : Int) (fw : Nat → Int32) : Prop := (r = 0 ∧ zagain bu.toNat ra.toNat pk.toNat zz cs.toNat dd.toNat le.toNat o0 = zagain bu.toNat ra.toNat pk.toNat zz cs.toNat dd.toNat (le - k).toNat (zOo t cnt cs fw)) ∨ (¬ r = 0 ∧ zagain bu.toNat ra.toNat pk.toNat zz cs.toNat dd.toNat le.toNat o0 = (iI (-r), zOo t cnt cs fw))
theorem zWc_b (cnt sl ra pk to bu : Int) : zWc cnt sl ra pk to bu = 20 ∨ zWc cnt sl ra pk to bu = 21 ∨ zWc cnt sl ra pk to bu = 22 ∨ zWc cnt sl ra pk to bu = 0 := by
  unfold zWc
  split
  · exact Or.inl rfl
  · split
    · exact Or.inr (Or.inl rfl)
    · split
      · exact Or.inr (Or.inr (Or.inl rfl))
      · exact Or.inr (Or.inr (Or.inr rfl))
theorem zWi_r {b cnt cnt1 sl ra pk to to1 bu r1 : Int} {fw fw1 : Nat → Int32} (q : zWi 0 b cnt cnt1 sl ra pk to to1 bu r1 fw fw1) : r1 = 20 ∨ r1 = 21 ∨ r1 = 22 ∨ r1 = 0 := by
  rcases q with q | ⟨_, q1, _⟩
  · exact absurd rfl q.1
  · have h1 := zWc_b cnt sl ra pk to bu
    omega
theorem zAg_s {bu ra pk cs dd le k t cnt t1 cnt1 r1 sl x r : Int} {zz : Int64} {o0 : zO} {fw fw1 : Nat → Int32} (q : zAg bu ra pk zz cs dd le k o0 t cnt r fw) (hr0 : r = 0) (hk : 0 ≤ k ∧ k < le) (hx : fw (t - dd).toNat = iI x) (w : zWi r x cnt cnt1 sl ra pk t t1 bu r1 fw fw1) (hs : sl = zz.toInt) (h1 : 0 ≤ cnt ∧ cnt ≤ 40000) (h2 : 0 ≤ ra ∧ ra ≤ 2000) (h3 : 0 ≤ pk ∧ pk ≤ 20000) (h4 : 0 ≤ t ∧ 0 ≤ bu) (hc : 0 ≤ cs ∧ cs + cnt = t) (hd : 1 ≤ dd ∧ dd ≤ cnt) : zAg bu ra pk zz cs dd le (k + 1) o0 t1 cnt1 r1 fw1 := by
  subst hr0
  have hr := zWi_r w
  have q1 : zagain bu.toNat ra.toNat pk.toNat zz cs.toNat dd.toNat le.toNat o0 = zagain bu.toNat ra.toNat pk.toNat zz cs.toNat dd.toNat (le - k).toNat (zOo t cnt cs fw) := by
    rcases q with q | q
    · exact q.2
    · exact absurd rfl q.1
  have hb : zback (zOo t cnt cs fw) cs.toNat dd.toNat = fw (t - dd).toNat &&& 255 := by
    unfold zback zOo
    dsimp only
    rw [show cs.toNat + cnt.toNat - dd.toNat = (t - dd).toNat by omega]
  have hB := zB1_b fw (t - dd)
  have hb2 : zback (zOo t cnt cs fw) cs.toNat dd.toNat = iI (zB1 fw (t - dd)) := by
    rw [hb, ← zB1_eq, show iI 255 = 255 by decide]
  have hcb : zcb x = zcb (zB1 fw (t - dd)) := by
    unfold zB1
    exact (zcb_s hx).symm
  have e1 := zW_o (zWi_b w hcb) hs h1 h2 h3 h4 hB hc
  rw [← hb2] at e1
  have e2 : (le - k).toNat = (le - (k + 1)).toNat + 1 := by omega
  rw [e2] at q1
  have e3 : zagain bu.toNat ra.toNat pk.toNat zz cs.toNat dd.toNat ((le - (k + 1)).toNat + 1) (zOo t cnt cs fw) = if (zput bu.toNat ra.toNat pk.toNat zz (zOo t cnt cs fw) (zback (zOo t cnt cs fw) cs.toNat dd.toNat)).1 = 0 then zagain bu.toNat ra.toNat pk.toNat zz cs.toNat dd.toNat (le - (k + 1)).toNat (zput bu.toNat ra.toNat pk.toNat zz (zOo t cnt cs fw) (zback (zOo t cnt cs fw) cs.toNat dd.toNat)).2 else zput bu.toNat ra.toNat pk.toNat zz (zOo t cnt cs fw) (zback (zOo t cnt cs fw) cs.toNat dd.toNat) := rfl
  rw [e3, e1] at q1
  dsimp only at q1
  by_cases c : r1 = 0
  · subst c
    rw [if_pos (by decide)] at q1
    exact Or.inl ⟨rfl, q1⟩
  · rw [if_neg (fun h9 => c (by have h10 := (iI_eq (x := -r1) (y := 0) (by omega) (by omega)).mp (h9.trans iI_0.symm); omega))] at q1
    exact Or.inr ⟨c, q1⟩
theorem zAg_end {bu ra pk cs dd le k t cnt r : Int} {zz : Int64} {o0 : zO} {fw : Nat → Int32} (q : zAg bu ra pk zz cs dd le k o0 t cnt r fw) (h1 : r = 0 → le ≤ k) : zagain bu.toNat ra.toNat pk.toNat zz cs.toNat dd.toNat le.toNat o0 = (iI (-r), zOo t cnt cs fw) := by
  rcases q with ⟨q1, q2⟩ | ⟨q1, q2⟩
  · rw [q2, show (le - k).toNat = 0 by have := h1 q1; omega, q1]
    rfl
  · exact q2
def zCy (bu ra pk : Int) (zz : Int64) (cs le ds to cnt to1 cnt1 r1 : Int) (fw fw1 : Nat → Int32) : Prop := zwr bu.toNat ra.toNat pk.toNat zz cs.toNat le.toNat ds.toNat (zOo to cnt cs fw) = (iI (-r1), zOo to1 cnt1 cs fw1)
theorem zCy_far {bu ra pk cs le ds to cnt r1 : Int} {zz : Int64} {fw : Nat → Int32} (h1 : 0 ≤ cnt ∧ cnt < ds) (hr : r1 = 36) : zCy bu ra pk zz cs le ds to cnt to cnt r1 fw fw := by
  subst hr
  unfold zCy zwr
  rw [if_pos (by show cnt.toNat < ds.toNat; omega)]
  rfl
theorem zCy_ag {bu ra pk cs ds le k t cnt r to cnt0 : Int} {zz : Int64} {fw0 fw : Nat → Int32} (h0 : 0 ≤ ds ∧ ds ≤ cnt0) (q : zAg bu ra pk zz cs ds le k (zOo to cnt0 cs fw0) t cnt r fw) (h1 : r = 0 → le ≤ k) : zCy bu ra pk zz cs le ds to cnt0 t cnt r fw0 fw := by
  unfold zCy zwr
  rw [if_neg (by show ¬ cnt0.toNat < ds.toNat; omega)]
  exact zAg_end q h1
theorem zAg_0 {bu ra pk cs dd le t cnt r : Int} {zz : Int64} {fw : Nat → Int32} (hr : r = 0) : zAg bu ra pk zz cs dd le 0 (zOo t cnt cs fw) t cnt r fw := Or.inl ⟨hr, by rw [show le - 0 = le by omega]⟩
theorem zCk_keep {d : Nat → Nat} {N : Nat} {fm n le k : Int} {fk fk1 : Nat → Int32} (q : zCk d N fm n fk le k) (h0 : 0 ≤ fm) (r : ∀ i : Nat, fm ≤ (i : Int) → (i : Int) < fm + n → fk1 i = fk i) : zCk d N fm n fk1 le k := fun i h1 h2 h3 h4 => by
  rw [r _ (by omega) (by omega)]
  exact q i h1 h2 h3 h4
def zfx (k : Nat) : Nat := if k < 144 then 8 else if k < 256 then 9 else if k < 280 then 7 else 8
theorem zfl_s {l l1 : Nat → Int} {F : Nat → Nat} {k v o : Int} (q : ∀ j : Int, 0 ≤ j → j < k → l (j + o).toNat = (F j.toNat : Int)) (hg : l1 = zup l (k + o).toNat v) (hv : v = (F k.toNat : Int)) (hk : 0 ≤ k ∧ 0 ≤ o) : ∀ j : Int, 0 ≤ j → j < k + 1 → l1 (j + o).toNat = (F j.toNat : Int) := fun j h1 h2 => by
  by_cases c : j = k
  · rw [c, hg, zup_at, hv]
  · rw [hg, zup_ne (by omega)]
    exact q j h1 (by omega)
theorem zfl_0 {l l1 : Nat → Int} {F : Nat → Nat} {k v : Int} (q : ∀ j : Int, 0 ≤ j → j < k → l j.toNat = (F j.toNat : Int)) (hg : l1 = zup l k.toNat v) (hv : v = (F k.toNat : Int)) (hk : 0 ≤ k) : ∀ j : Int, 0 ≤ j → j < k + 1 → l1 j.toNat = (F j.toNat : Int) := fun j h1 h2 => by
  by_cases c : j = k
  · rw [c, hg, zup_at, hv]
  · rw [hg, zup_ne (by omega)]
    exact q j h1 (by omega)
theorem zfx_15 : ∀ k, k < 288 → zfx k ≤ 15 := by decide +kernel
theorem zGd_fx : zGd zfx 288 := ⟨zfx_15, Or.inl (by unfold zFull; decide +kernel)⟩
theorem zGd_f5 : zGd (fun _ => 5) 32 := ⟨fun _ _ => (by decide : (5 : Nat) ≤ 15), Or.inl (by unfold zFull; decide +kernel)⟩
/-! bytes copied as they stand -/
def zCp (f : Nat → Int32) (bh : Nat) (bu ra pk : Int) (zz : Int64) (n k q0 : Int) (o0 : zO) (t cnt cs r : Int) (fw : Nat → Int32) : Prop := (r = 0 ∧ zcopy f bh bu.toNat ra.toNat pk.toNat zz n.toNat q0.toNat o0 = zcopy f bh bu.toNat ra.toNat pk.toNat zz (n - k).toNat (q0 + 8 * k).toNat (zOo t cnt cs fw)) ∨ (¬ r = 0 ∧ ∃ Q : Nat, zcopy f bh bu.toNat ra.toNat pk.toNat zz n.toNat q0.toNat o0 = (iI (-r), Q, zOo t cnt cs fw))
theorem zCp_0 {f : Nat → Int32} {bh : Nat} {bu ra pk n q0 t cnt cs r : Int} {zz : Int64} {fw : Nat → Int32} (hr : r = 0) : zCp f bh bu ra pk zz n 0 q0 (zOo t cnt cs fw) t cnt cs r fw := Or.inl ⟨hr, by rw [show n - 0 = n by omega, show q0 + 8 * 0 = q0 by omega]⟩
theorem zcopy_u (f : Nat → Int32) (bh bu ra pk : Nat) (zz : Int64) (j q : Nat) (o : zO) : zcopy f bh bu ra pk zz (j + 1) q o = if 8 * bh < q + 8 then (-30, q, o) else if (zput bu ra pk zz o (nI (zbits f q 8))).1 = 0 then zcopy f bh bu ra pk zz j (q + 8) (zput bu ra pk zz o (nI (zbits f q 8))).2 else ((zput bu ra pk zz o (nI (zbits f q 8))).1, q + 8, (zput bu ra pk zz o (nI (zbits f q 8))).2) := rfl
theorem zCp_none {f : Nat → Int32} {bh : Nat} {bu ra pk n k q0 t cnt cs r r1 : Int} {zz : Int64} {o0 : zO} {fw : Nat → Int32} (q : zCp f bh bu ra pk zz n k q0 o0 t cnt cs r fw) (hr0 : r = 0) (hk : 0 ≤ k ∧ k < n ∧ 0 ≤ q0) (hb : 8 * (bh : Int) < q0 + 8 * k + 8) (hr : r1 = 30) : zCp f bh bu ra pk zz n (k + 1) q0 o0 t cnt cs r1 fw := by
  rcases q with ⟨_, q1⟩ | q
  · refine Or.inr ⟨by omega, (q0 + 8 * k).toNat, ?_⟩
    rw [q1, show (n - k).toNat = (n - k - 1).toNat + 1 by omega, zcopy_u, if_pos (by omega), hr]
    rfl
  · exact absurd hr0 q.1
theorem zCp_s {f : Nat → Int32} {bh : Nat} {bu ra pk n k q0 t cnt cs r r1 t1 cnt1 sl b : Int} {zz : Int64} {o0 : zO} {fw fw1 : Nat → Int32} (q : zCp f bh bu ra pk zz n k q0 o0 t cnt cs r fw) (hr0 : r = 0) (hk : 0 ≤ k ∧ k < n ∧ 0 ≤ q0) (hb : q0 + 8 * k + 8 ≤ 8 * (bh : Int)) (hx : b = zbsI f (q0 + 8 * k) 8) (w : zWi r b cnt cnt1 sl ra pk t t1 bu r1 fw fw1) (hs : sl = zz.toInt) (h1 : 0 ≤ cnt ∧ cnt ≤ 40000) (h2 : 0 ≤ ra ∧ ra ≤ 2000) (h3 : 0 ≤ pk ∧ pk ≤ 20000) (h4 : 0 ≤ t ∧ 0 ≤ bu) (hc : 0 ≤ cs ∧ cs + cnt = t) : zCp f bh bu ra pk zz n (k + 1) q0 o0 t1 cnt1 cs r1 fw1 := by
  subst hr0
  have hr := zWi_r w
  have hB := zbsI_b f (q0 + 8 * k) 8 (by omega)
  have h8 : zp 8 = 256 := by decide
  have e1 := zW_o w hs h1 h2 h3 h4 (by omega) hc
  have e2 : iI b = nI (zbits f (q0 + 8 * k).toNat 8) := by
    rw [hx, iI_nI]
    rfl
  rw [e2] at e1
  rcases q with ⟨_, q1⟩ | q
  · rw [show (n - k).toNat = (n - (k + 1)).toNat + 1 by omega, zcopy_u, if_neg (by omega), e1] at q1
    dsimp only at q1
    by_cases c : r1 = 0
    · subst c
      rw [if_pos (by decide)] at q1
      refine Or.inl ⟨rfl, ?_⟩
      rw [q1, show (q0 + 8 * (k + 1)).toNat = (q0 + 8 * k).toNat + 8 by omega]
    · rw [if_neg (fun h9 => c (by have h10 := (iI_eq (x := -r1) (y := 0) (by omega) (by omega)).mp (h9.trans iI_0.symm); omega))] at q1
      exact Or.inr ⟨c, _, q1⟩
  · exact absurd rfl q.1
/-- a stretch's outcome: the place told only where nothing was refused -/
def zRz (RES : Int32 × Nat × zO) (r1 p1 to1 cnt1 cs : Int) (fw1 : Nat → Int32) : Prop := RES.1 = iI (-r1) ∧ (r1 = 0 → RES.2.1 = p1.toNat) ∧ RES.2.2 = zOo to1 cnt1 cs fw1
theorem zCp_end {f : Nat → Int32} {bh : Nat} {bu ra pk n k q0 t cnt cs r p1 : Int} {zz : Int64} {o0 : zO} {fw : Nat → Int32} (q : zCp f bh bu ra pk zz n k q0 o0 t cnt cs r fw) (h1 : r = 0 → k = n ∧ p1 = q0 + 8 * n) : zRz (zcopy f bh bu.toNat ra.toNat pk.toNat zz n.toNat q0.toNat o0) r p1 t cnt cs fw := by
  rcases q with ⟨q1, q2⟩ | ⟨q1, Q, q2⟩
  · have h2 := h1 q1
    rw [q2, show (n - k).toNat = 0 by omega]
    refine ⟨by rw [q1]; rfl, fun _ => ?_, rfl⟩
    show (q0 + 8 * k).toNat = p1.toNat
    omega
  · rw [q2]
    exact ⟨rfl, fun h9 => absurd h9 q1, rfl⟩
/-! a block that is stored -/
theorem zBk_mk {f : Nat → Int32} {p0 q x1 x2 r0 r1 r2 q1 : Int} (hr : r0 = 0) (h1 : zBr f p0 q 16 x1 r0 r1) (h2 : zBr f q1 q 16 x2 r1 r2) (hq : r1 = 0 → q1 = p0 + 16) : (r2 = 0 ∧ p0 + 32 ≤ q ∧ x1 = zbsI f p0 16 ∧ x2 = zbsI f (p0 + 16) 16) ∨ (r2 = 30 ∧ q < p0 + 32) := by
  unfold zBr at *
  rcases h1 with h1 | h1 | h1
  · omega
  · have e1 := hq h1.2.2.1
    rw [e1] at h2
    omega
  · omega
def zBk (f : Nat → Int32) (p0 q x1 r : Int) : Prop := (r = 0 ∧ p0 + 32 ≤ q ∧ x1 = zbsI f p0 16 ∧ zxI (zbsI f p0 16) (zbsI f (p0 + 16) 16) = 65535) ∨ (r = 30 ∧ q < p0 + 32) ∨ (r = 31 ∧ p0 + 32 ≤ q ∧ ¬ zxI (zbsI f p0 16) (zbsI f (p0 + 16) 16) = 65535)
theorem zBk_a {f : Nat → Int32} {p0 q x1 x2 r r2 : Int} (h : (r2 = 0 ∧ p0 + 32 ≤ q ∧ x1 = zbsI f p0 16 ∧ x2 = zbsI f (p0 + 16) 16) ∨ (r2 = 30 ∧ q < p0 + 32)) (c : (¬ r2 = 0 ∧ r = r2) ∨ (r2 = 0 ∧ r = 0 ∧ zxI x1 x2 = 65535) ∨ (r2 = 0 ∧ r = 31 ∧ ¬ zxI x1 x2 = 65535)) : zBk f p0 q x1 r := by
  rcases h with ⟨h1, h2, h3, h4⟩ | h
  · rcases c with c | c | c
    · omega
    · exact Or.inl ⟨c.2.1, h2, h3, by rw [← h3, ← h4]; exact c.2.2⟩
    · exact Or.inr (Or.inr ⟨c.2.1, h2, by rw [← h3, ← h4]; exact c.2.2⟩)
  · exact Or.inr (Or.inl (by omega))
/-- its loop's state -/
def zLq (f : Nat → Int32) (bh : Nat) (bu ra pk : Int) (zz : Int64) (n k q0 : Int) (to cnt0 : Int) (fw0 : Nat → Int32) (t cnt cs r r4 : Int) (fw : Nat → Int32) : Prop := (r4 = 0 ∧ zCp f bh bu ra pk zz n k q0 (zOo to cnt0 cs fw0) t cnt cs r fw) ∨ (¬ r4 = 0 ∧ r = r4 ∧ t = to ∧ cnt = cnt0 ∧ fw = fw0)
theorem zLq_cp {f : Nat → Int32} {bh : Nat} {bu ra pk n k q0 to cnt0 t cnt cs r r4 : Int} {zz : Int64} {fw0 fw : Nat → Int32} (q : zLq f bh bu ra pk zz n k q0 to cnt0 fw0 t cnt cs r r4 fw) (hr : r = 0) : r4 = 0 ∧ zCp f bh bu ra pk zz n k q0 (zOo to cnt0 cs fw0) t cnt cs r fw := by
  rcases q with q | q
  · exact q
  · omega
theorem zxI_n {x y : Int} (hx : 0 ≤ x) (hy : 0 ≤ y) : (nI x.toNat ^^^ nI y.toNat = 65535) ↔ zxI x y = 65535 := by
  unfold zxI
  rw [← iI_nn hx, ← iI_nn hy]
  constructor
  · intro h
    rw [h]
    decide
  · intro h
    rw [← Int32.ofInt_toInt (iI x ^^^ iI y), h]
    decide
theorem zWi_q {rf rf1 b b1 cnt cnt1 sl ra pk to to1 bu r1 : Int} {fw fw1 : Nat → Int32} (q : zWi rf b cnt cnt1 sl ra pk to to1 bu r1 fw fw1) (h1 : rf = rf1) (h2 : b = b1) : zWi rf1 b1 cnt cnt1 sl ra pk to to1 bu r1 fw fw1 := by
  subst h1 h2
  exact q
theorem zSt_end {f : Nat → Int32} {bh : Nat} {bu ra pk n k p0 p1 pb to cnt0 t cnt cs r r4 : Int} {zz : Int64} {fw0 fw : Nat → Int32} (hp : 0 ≤ pb ∧ p0 = 8 * ((pb + 7) / 8)) (h0 : zBk f p0 (8 * (bh : Int)) n r4) (q : zLq f bh bu ra pk zz n k (p0 + 32) to cnt0 fw0 t cnt cs r r4 fw) (h1 : r = 0 → k = n ∧ p1 = p0 + 32 + 8 * n) : zRz (zstored f bh bu.toNat ra.toNat pk.toNat zz pb.toNat (zOo to cnt0 cs fw0)) r p1 t cnt cs fw := by
  have e0 : 8 * ((pb.toNat + 7) / 8) = p0.toNat := by omega
  have hb1 := zbsI_b f p0 16 (by omega)
  have hb2 := zbsI_b f (p0 + 16) 16 (by omega)
  have e1 : nI (zbits f p0.toNat 16) = nI (zbsI f p0 16).toNat := by
    unfold zbsI
    rw [Int.toNat_natCast]
    rfl
  have e2 : nI (zbits f (p0.toNat + 16) 16) = nI (zbsI f (p0 + 16) 16).toNat := by
    unfold zbsI
    rw [Int.toNat_natCast, show (p0 + 16).toNat = p0.toNat + 16 by omega]
    rfl
  unfold zstored
  rw [e0, e1, e2]
  rcases h0 with ⟨a1, a2, a3, a4⟩ | ⟨a1, a2⟩ | ⟨a1, a2, a3⟩
  · rcases q with q | q
    · rw [if_neg (by omega), if_pos ((zxI_n hb1.1 hb2.1).mpr a4)]
      have h9 := zCp_end q.2 h1
      rw [show (p0 + 32).toNat = p0.toNat + 32 by omega, a3] at h9
      unfold zbsI at h9
      rw [Int.toNat_natCast] at h9
      exact h9
    · exact absurd a1 q.1
  · rcases q with q | ⟨q1, q2, q3, q4, q5⟩
    · omega
    · rw [if_pos (by omega)]
      subst q3 q4 q5
      exact ⟨by show (-30 : Int32) = _; rw [q2, a1]; decide, fun h9 => by omega, rfl⟩
  · rcases q with q | ⟨q1, q2, q3, q4, q5⟩
    · omega
    · rw [if_neg (by omega), if_neg (mt (zxI_n hb1.1 hb2.1).mp a3)]
      subst q3 q4 q5
      exact ⟨by show (-31 : Int32) = _; rw [q2, a1]; decide, fun h9 => by omega, rfl⟩
/-! a block of codes: the reference's way is the class's -/
def zBc (f : Nat → Int32) (bh bu ra pk : Nat) (zz : Int64) (d : Nat → Nat) (n : Nat) (dx : Nat → Nat) (nx : Nat) (RES : Int32 × Nat × zO) (q t cnt cs r : Int) (fw : Nat → Int32) : Prop :=
  (r = 0 ∧ ∃ j : Nat, 8 * bh + 1 ≤ q.toNat + j ∧ RES = zcoded f bh bu ra pk zz d n (zGs d n) dx nx (zGs dx nx) cs.toNat j q.toNat (zOo t cnt cs fw)) ∨ (¬ r = 0 ∧ ∃ Q : Nat, RES = (iI (-r), Q, zOo t cnt cs fw))
theorem zBc_u {f : Nat → Int32} {bh bu ra pk : Nat} {zz : Int64} {d : Nat → Nat} {n : Nat} {dx : Nat → Nat} {nx : Nat} {RES : Int32 × Nat × zO} {q t cnt cs r : Int} {fw : Nat → Int32} (h : zBc f bh bu ra pk zz d n dx nx RES q t cnt cs r fw) (hr : r = 0) (hq : 0 ≤ q ∧ q ≤ 8 * (bh : Int)) {x : Int32 × Nat} (hx : znx f d n (zGs d n) bh 15 1 q.toNat 0 0 0 = x) : ∃ j : Nat, 8 * bh + 1 ≤ q.toNat + 1 + j ∧ RES = if x.1 < 0 then (x.1, x.2, zOo t cnt cs fw) else if x.1 = 256 then (0, x.2, zOo t cnt cs fw) else if (zone f bh bu ra pk zz dx nx (zGs dx nx) cs.toNat x (zOo t cnt cs fw)).1 < 0 then zone f bh bu ra pk zz dx nx (zGs dx nx) cs.toNat x (zOo t cnt cs fw) else zcoded f bh bu ra pk zz d n (zGs d n) dx nx (zGs dx nx) cs.toNat j (zone f bh bu ra pk zz dx nx (zGs dx nx) cs.toNat x (zOo t cnt cs fw)).2.1 (zone f bh bu ra pk zz dx nx (zGs dx nx) cs.toNat x (zOo t cnt cs fw)).2.2 := by
  rcases h with ⟨_, j, h1, h2⟩ | h
  · cases j with
    | zero => omega
    | succ j => exact ⟨j, by omega, by rw [h2, ← hx]; rfl⟩
  · exact absurd hr h.1
theorem zBc_0 {f : Nat → Int32} {bh bu ra pk : Nat} {zz : Int64} {d : Nat → Nat} {n : Nat} {dx : Nat → Nat} {nx : Nat} {q t cnt cs r : Int} {fw : Nat → Int32} {j : Nat} (hr : r = 0) (hj : 8 * bh + 1 ≤ q.toNat + j) : zBc f bh bu ra pk zz d n dx nx (zcoded f bh bu ra pk zz d n (zGs d n) dx nx (zGs dx nx) cs.toNat j q.toNat (zOo t cnt cs fw)) q t cnt cs r fw := Or.inl ⟨hr, j, hj, rfl⟩
theorem zBc_no {f : Nat → Int32} {bh bu ra pk : Nat} {zz : Int64} {d : Nat → Nat} {n : Nat} {dx : Nat → Nat} {nx : Nat} {RES : Int32 × Nat × zO} {q t cnt cs r x r1 p1 p2 : Int} {fw : Nat → Int32} (h : zBc f bh bu ra pk zz d n dx nx RES q t cnt cs r fw) (hr : r = 0) (hq : 0 ≤ q ∧ q ≤ 8 * (bh : Int)) (s : zSr f d n bh q.toNat x r1 p1) (h1 : ¬ r1 = 0) : zRz RES r1 p2 t cnt cs fw := by
  obtain ⟨j, _, e⟩ := zBc_u h hr hq rfl
  rcases s with s | ⟨s1, s2⟩ | ⟨s1, s2⟩
  · exact absurd s.1 h1
  · rw [if_pos (by rw [s2]; decide)] at e
    rw [e]
    exact ⟨by show (znx f d n (zGs d n) bh 15 1 q.toNat 0 0 0).1 = _; rw [s2, s1]; decide, fun h9 => absurd h9 h1, rfl⟩
  · rw [if_pos (by rw [s2]; decide)] at e
    rw [e]
    exact ⟨by show (znx f d n (zGs d n) bh 15 1 q.toNat 0 0 0).1 = _; rw [s2, s1]; decide, fun h9 => absurd h9 h1, rfl⟩
theorem zBc_end {f : Nat → Int32} {bh bu ra pk : Nat} {zz : Int64} {d : Nat → Nat} {n : Nat} {dx : Nat → Nat} {nx : Nat} {RES : Int32 × Nat × zO} {q t cnt cs r x r1 p1 : Int} {fw : Nat → Int32} (h : zBc f bh bu ra pk zz d n dx nx RES q t cnt cs r fw) (hr : r = 0) (hq : 0 ≤ q ∧ q ≤ 8 * (bh : Int)) (s : zSr f d n bh q.toNat x r1 p1) (h1 : r1 = 0) (hx : x = 256) : zRz RES r1 p1 t cnt cs fw := by
  rcases s with ⟨_, _, s2⟩ | ⟨s1, s2⟩ | ⟨s1, s2⟩
  · obtain ⟨j, _, e⟩ := zBc_u h hr hq s2
    subst hx h1
    rw [if_neg (by show ¬ nI 256 < 0; decide), if_pos (by show nI 256 = 256; decide)] at e
    rw [e]
    exact ⟨by show (0 : Int32) = iI (-0); decide, fun _ => rfl, rfl⟩
  · omega
  · omega
theorem iI_sgn {r : Int} (h : 0 ≤ r ∧ r ≤ 100) : (iI (-r) < 0 ↔ ¬ r = 0) := by
  rw [← iI_0, iI_lt (by omega) (by omega)]
  omega
theorem zBc_one {f : Nat → Int32} {bh bu ra pk : Nat} {zz : Int64} {d : Nat → Nat} {n : Nat} {dx : Nat → Nat} {nx : Nat} {RES : Int32 × Nat × zO} {q t cnt cs r x r1 p1 r2 q2 t2 cnt2 : Int} {fw fw2 : Nat → Int32} (h : zBc f bh bu ra pk zz d n dx nx RES q t cnt cs r fw) (hr : r = 0) (hq : 0 ≤ q ∧ q ≤ 8 * (bh : Int)) (s : zSr f d n bh q.toNat x r1 p1) (h1 : r1 = 0) (hx : ¬ x = 256 ∧ x ≤ 1000) (hz : zRz (zone f bh bu ra pk zz dx nx (zGs dx nx) cs.toNat (nI x.toNat, p1.toNat) (zOo t cnt cs fw)) r2 q2 t2 cnt2 cs fw2) (h2 : 0 ≤ r2 ∧ r2 ≤ 100) (h3 : q < q2) : zBc f bh bu ra pk zz d n dx nx RES q2 t2 cnt2 cs r2 fw2 := by
  rcases s with ⟨_, s1, s2⟩ | ⟨s1, s2⟩ | ⟨s1, s2⟩
  · obtain ⟨j, hj, e⟩ := zBc_u h hr hq s2
    have e1 : nI x.toNat = iI x := (iI_nn s1).symm
    rw [if_neg (by show ¬ nI x.toNat < 0; rw [e1, ← iI_0, iI_lt (by omega) (by omega)]; omega), if_neg (by show ¬ nI x.toNat = 256; rw [e1, show (256 : Int32) = iI 256 by decide, iI_eq (by omega) (by omega)]; exact hx.1)] at e
    obtain ⟨z1, z2, z3⟩ := hz
    by_cases c : r2 = 0
    · rw [if_neg (by rw [z1, iI_sgn h2]; omega), z2 c, z3] at e
      exact Or.inl ⟨c, j, by omega, e⟩
    · rw [if_pos (by rw [z1, iI_sgn h2]; exact c)] at e
      refine Or.inr ⟨c, (zone f bh bu ra pk zz dx nx (zGs dx nx) cs.toNat (nI x.toNat, p1.toNat) (zOo t cnt cs fw)).2.1, ?_⟩
      rw [e, ← z1, ← z3]
  · omega
  · omega
theorem zBc_rz {f : Nat → Int32} {bh bu ra pk : Nat} {zz : Int64} {d : Nat → Nat} {n : Nat} {dx : Nat → Nat} {nx : Nat} {RES : Int32 × Nat × zO} {q t cnt cs r p1 : Int} {fw : Nat → Int32} (h : zBc f bh bu ra pk zz d n dx nx RES q t cnt cs r fw) (hr : ¬ r = 0) : zRz RES r p1 t cnt cs fw := by
  rcases h with h | ⟨_, Q, h⟩
  · exact absurd h.1 hr
  · rw [h]
    exact ⟨rfl, fun h9 => absurd h9 hr, rfl⟩
/-! one symbol -/
theorem zO_lit {f : Nat → Int32} {bh : Nat} {zz : Int64} {dx : Nat → Nat} {nx : Nat} {g3 : Nat → Int32} {c : Nat} {x p1 cnt cnt1 sl ra pk t t1 bu r1 cs : Int} {fw fw1 : Nat → Int32} (hx : 0 ≤ x ∧ x < 256) (q : zWi 0 x cnt cnt1 sl ra pk t t1 bu r1 fw fw1) (hs : sl = zz.toInt) (h1 : 0 ≤ cnt ∧ cnt ≤ 40000) (h2 : 0 ≤ ra ∧ ra ≤ 2000) (h3 : 0 ≤ pk ∧ pk ≤ 20000) (h4 : 0 ≤ t ∧ 0 ≤ bu) (hc : 0 ≤ cs ∧ cs + cnt = t) : zRz (zone f bh bu.toNat ra.toNat pk.toNat zz dx nx g3 c (nI x.toNat, p1.toNat) (zOo t cnt cs fw)) r1 p1 t1 cnt1 cs fw1 := by
  have e1 := zW_o q hs h1 h2 h3 h4 (by omega) hc
  unfold zone
  dsimp only
  rw [← iI_nn hx.1, e1, if_pos (by rw [show (256 : Int32) = iI 256 by decide, iI_lt (by omega) (by omega)]; omega)]
  exact ⟨rfl, fun _ => rfl, rfl⟩
theorem zone_agn {f : Nat → Int32} {bh bu ra pk : Nat} {zz : Int64} {dx : Nat → Nat} {nx : Nat} {g3 : Nat → Int32} {c : Nat} {x : Int} {p : Nat} {o : zO} (hx : 256 ≤ x ∧ x ≤ 1000) : zone f bh bu ra pk zz dx nx g3 c (nI x.toNat, p) o = zagn f bh bu ra pk zz dx nx g3 c x.toNat p o := by
  unfold zone
  dsimp only
  rw [if_neg (by rw [← iI_nn (by omega), show (256 : Int32) = iI 256 by decide, iI_lt (by omega) (by omega)]; omega), nI_clamp (by omega)]
theorem zO_big {f : Nat → Int32} {bh bu ra pk : Nat} {zz : Int64} {dx : Nat → Nat} {nx : Nat} {g3 : Nat → Int32} {c : Nat} {x p1 p2 cnt t r1 cs : Int} {fw : Nat → Int32} (hx : 285 < x ∧ x ≤ 1000) (hr : r1 = 35) : zRz (zone f bh bu ra pk zz dx nx g3 c (nI x.toNat, p1.toNat) (zOo t cnt cs fw)) r1 p2 t cnt cs fw := by
  rw [zone_agn (by omega)]
  unfold zagn
  rw [if_pos (by omega), hr]
  exact ⟨by show (-35 : Int32) = iI (-35); decide, fun h9 => absurd h9 (by decide), rfl⟩
theorem zO_ln {f : Nat → Int32} {bh bu ra pk : Nat} {zz : Int64} {dx : Nat → Nat} {nx : Nat} {g3 : Nat → Int32} {c : Nat} {x p1 E le rf r1 bt b1 p2 cnt t cs : Int} {fw : Nat → Int32} (hx : 257 ≤ x ∧ x ≤ 285) (hp : 0 ≤ p1) (hE : E = 8 * (bh : Int)) (q : zBq f p1 E (zLB x) (le - zLA x) rf r1 bt b1) (hf : rf = 0) (hr : ¬ r1 = 0) : zRz (zone f bh bu ra pk zz dx nx g3 c (nI x.toNat, p1.toNat) (zOo t cnt cs fw)) r1 p2 t cnt cs fw := by
  rw [zone_agn (by omega)]
  obtain ⟨q1, _⟩ := q
  unfold zBr at q1
  have e : zLB x = (zN ztab_3 (x.toNat - 257) : Int) := by unfold zLB; rw [show (x - 257).toNat = x.toNat - 257 by omega]
  rw [e] at q1
  unfold zagn
  rw [if_neg (by omega), if_pos (by omega), show r1 = 30 by omega]
  exact ⟨by show (-30 : Int32) = iI (-30); decide, fun h9 => absurd h9 (by decide), rfl⟩
theorem zO_le {f : Nat → Int32} {bh bu ra pk : Nat} {zz : Int64} {dx : Nat → Nat} {nx : Nat} {g3 : Nat → Int32} {c : Nat} {x p1 p2 E le rf r1 bt b1 : Int} {o : zO} (hx : 257 ≤ x ∧ x ≤ 285) (hp : 0 ≤ p1) (hE : E = 8 * (bh : Int)) (q : zBq f p1 E (zLB x) (le - zLA x) rf r1 bt b1) (hf : rf = 0) (hr : r1 = 0) (hp2 : p2 = p1 + (b1 - bt)) : zone f bh bu ra pk zz dx nx g3 c (nI x.toNat, p1.toNat) o = zagn2 f bh bu ra pk zz c le.toNat (znx f dx nx g3 bh 15 1 p2.toNat 0 0 0) o := by
  rw [zone_agn (by omega)]
  obtain ⟨q1, q2⟩ := q
  have q3 := q2 hr
  unfold zBr at q1
  have e : zLB x = (zN ztab_3 (x.toNat - 257) : Int) := by unfold zLB; rw [show (x - 257).toNat = x.toNat - 257 by omega]
  have e2 : zLA x = (zN ztab_2 (x.toNat - 257) : Int) := by unfold zLA; rw [show (x - 257).toNat = x.toNat - 257 by omega]
  have q4 : p1 + zLB x ≤ E ∧ le - zLA x = zbsI f p1 (zLB x) := by omega
  have e3 : zbsI f p1 (zLB x) = (zbits f p1.toNat (zN ztab_3 (x.toNat - 257)) : Int) := by unfold zbsI; rw [e, Int.toNat_natCast]
  rw [e3] at q4
  rw [e] at q3 q4
  unfold zagn
  rw [if_neg (by omega), if_neg (by omega), show le.toNat = zN ztab_2 (x.toNat - 257) + zbits f p1.toNat (zN ztab_3 (x.toNat - 257)) by omega, show p2.toNat = p1.toNat + zN ztab_3 (x.toNat - 257) by omega]
theorem zO_dn {f : Nat → Int32} {bh bu ra pk : Nat} {zz : Int64} {d : Nat → Nat} {n : Nat} {c ln P : Nat} {x r1 p1 p2 cnt t cs : Int} {fw : Nat → Int32} (s : zSr f d n bh P x r1 p1) (hr : ¬ r1 = 0) : zRz (zagn2 f bh bu ra pk zz c ln (znx f d n (zGs d n) bh 15 1 P 0 0 0) (zOo t cnt cs fw)) r1 p2 t cnt cs fw := by
  unfold zagn2
  rcases s with s | ⟨s1, s2⟩ | ⟨s1, s2⟩
  · exact absurd s.1 hr
  · rw [if_pos (by rw [s2]; decide)]
    exact ⟨by dsimp only; rw [s2, s1]; decide, fun h9 => absurd h9 hr, rfl⟩
  · rw [if_pos (by rw [s2]; decide)]
    exact ⟨by dsimp only; rw [s2, s1]; decide, fun h9 => absurd h9 hr, rfl⟩
theorem zagn2_x {f : Nat → Int32} {bh bu ra pk : Nat} {zz : Int64} {c ln : Nat} {x : Int} {p : Nat} {o : zO} (hx : 0 ≤ x ∧ x ≤ 1000) : zagn2 f bh bu ra pk zz c ln (nI x.toNat, p) o = if 30 ≤ x.toNat then (-35, p, o) else if 8 * bh < p + zN ztab_5 x.toNat then (-30, p, o) else ((zwr bu ra pk zz c ln (zN ztab_4 x.toNat + zbits f p (zN ztab_5 x.toNat)) o).1, p + zN ztab_5 x.toNat, (zwr bu ra pk zz c ln (zN ztab_4 x.toNat + zbits f p (zN ztab_5 x.toNat)) o).2) := by
  unfold zagn2
  dsimp only
  rw [if_neg (by rw [← iI_nn (by omega), ← iI_0, iI_lt (by omega) (by omega)]; omega), nI_clamp (by omega)]
theorem zO_db {f : Nat → Int32} {bh bu ra pk : Nat} {zz : Int64} {d : Nat → Nat} {n : Nat} {c ln P : Nat} {x r1 p1 p2 cnt t cs r2 : Int} {fw : Nat → Int32} (s : zSr f d n bh P x r1 p1) (hr : r1 = 0) (hx : 29 < x ∧ x ≤ 1000) (h2 : r2 = 35) : zRz (zagn2 f bh bu ra pk zz c ln (znx f d n (zGs d n) bh 15 1 P 0 0 0) (zOo t cnt cs fw)) r2 p2 t cnt cs fw := by
  rcases s with ⟨_, s1, s2⟩ | ⟨s1, s2⟩ | ⟨s1, s2⟩
  · rw [s2, zagn2_x (by omega), if_pos (by omega), h2]
    exact ⟨by show (-35 : Int32) = iI (-35); decide, fun h9 => absurd h9 (by decide), rfl⟩
  · omega
  · omega
theorem zO_dm {f : Nat → Int32} {bh bu ra pk : Nat} {zz : Int64} {d : Nat → Nat} {n : Nat} {c ln P : Nat} {x r1 p1 p2 cnt t cs r2 rf E ds bt b1 : Int} {fw : Nat → Int32} (s : zSr f d n bh P x r1 p1) (hr : r1 = 0) (hx : x ≤ 29) (hp : 0 ≤ p1) (hE : E = 8 * (bh : Int)) (q : zBq f p1 E (zDB x) (ds - zDA x) rf r2 bt b1) (hf : rf = 0) (h2 : ¬ r2 = 0) : zRz (zagn2 f bh bu ra pk zz c ln (znx f d n (zGs d n) bh 15 1 P 0 0 0) (zOo t cnt cs fw)) r2 p2 t cnt cs fw := by
  rcases s with ⟨_, s1, s2⟩ | ⟨s1, s2⟩ | ⟨s1, s2⟩
  · obtain ⟨q1, _⟩ := q
    unfold zBr zDB at q1
    rw [s2, zagn2_x (by omega), if_neg (by omega), if_pos (by omega), show r2 = 30 by omega]
    exact ⟨by show (-30 : Int32) = iI (-30); decide, fun h9 => absurd h9 (by decide), rfl⟩
  · omega
  · omega
theorem zO_cy {f : Nat → Int32} {bh : Nat} {zz : Int64} {d : Nat → Nat} {n : Nat} {P : Nat} {bu ra pk x r1 p1 p2 cnt cnt1 t t1 cs r2 rf E le ds bt b1 r3 : Int} {fw fw1 : Nat → Int32} (s : zSr f d n bh P x r1 p1) (hr : r1 = 0) (hx : x ≤ 29) (hp : 0 ≤ p1) (hE : E = 8 * (bh : Int)) (q : zBq f p1 E (zDB x) (ds - zDA x) rf r2 bt b1) (hf : rf = 0) (h2 : r2 = 0) (hp2 : p2 = p1 + (b1 - bt)) (w : zCy bu ra pk zz cs le ds t cnt t1 cnt1 r3 fw fw1) : zRz (zagn2 f bh bu.toNat ra.toNat pk.toNat zz cs.toNat le.toNat (znx f d n (zGs d n) bh 15 1 P 0 0 0) (zOo t cnt cs fw)) r3 p2 t1 cnt1 cs fw1 := by
  rcases s with ⟨_, s1, s2⟩ | ⟨s1, s2⟩ | ⟨s1, s2⟩
  · obtain ⟨q1, q2⟩ := q
    have q3 := q2 h2
    have e3 : zbsI f p1 (zDB x) = (zbits f p1.toNat (zN ztab_5 x.toNat) : Int) := by unfold zbsI zDB; rw [Int.toNat_natCast]
    unfold zBr at q1
    rw [e3] at q1
    unfold zDB at q1 q3
    unfold zDA at q1
    rw [s2, zagn2_x (by omega), if_neg (by omega), if_neg (by omega), show zN ztab_4 x.toNat + zbits f p1.toNat (zN ztab_5 x.toNat) = ds.toNat by omega]
    unfold zCy at w
    rw [w]
    exact ⟨rfl, fun _ => by show p1.toNat + zN ztab_5 x.toNat = p2.toNat; omega, rfl⟩
  · omega
  · omega
theorem zSr_r {f : Nat → Int32} {d : Nat → Nat} {N bh P : Nat} {x r1 p1 : Int} (q : zSr f d N bh P x r1 p1) : r1 = 0 ∨ r1 = 30 ∨ r1 = 34 := by
  rcases q with q | q | q
  · exact Or.inl q.1
  · exact Or.inr (Or.inl q.1)
  · exact Or.inr (Or.inr q.1)
theorem zBq_r {f : Nat → Int32} {p q n x rf r1 bt b1 : Int} (h : zBq f p q n x rf r1 bt b1) (hf : rf = 0) : r1 = 0 ∨ r1 = 30 := by
  obtain ⟨h1, _⟩ := h
  unfold zBr at h1
  omega
/-! the head of a block with codes of its own -/
theorem zbits_14 (f : Nat → Int32) (q : Nat) : zbits f q 14 = zbits f q 5 + zbits f (q + 5) 5 * 32 + zbits f (q + 10) 4 * 1024 := by
  have h1 := zbits_add f q 10 4
  have h2 := zbits_add f q 5 5
  rw [show 10 + 4 = 14 by rfl] at h1
  rw [show 5 + 5 = 10 by rfl] at h2
  rw [h1, h2]
theorem zHd_mk {f : Nat → Int32} {q E x1 x2 x3 r0 r1 r2 r3 q1 q2 q3 : Int} (hq : 0 ≤ q) (hr : r0 = 0) (h1 : zBr f q E 5 x1 r0 r1) (h2 : zBr f q1 E 5 x2 r1 r2) (h3 : zBr f q2 E 4 x3 r2 r3) (e1 : r1 = 0 → q1 = q + 5) (e2 : r2 = 0 → q2 = q1 + 5) (e3 : r3 = 0 → q3 = q2 + 4) : (r3 = 0 ∧ q + 14 ≤ E ∧ q3 = q + 14 ∧ x1 + 257 = (zns f q.toNat : Int) ∧ x2 + 1 = (znd f q.toNat : Int) ∧ x3 + 4 = (znc f q.toNat : Int)) ∨ (r3 = 30 ∧ E < q + 14) := by
  have b1 := zbsI_b f q 5 (by omega)
  have b2 := zbsI_b f (q + 5) 5 (by omega)
  have b3 := zbsI_b f (q + 10) 4 (by omega)
  have p5 : zp 5 = 32 := by decide
  have p4 : zp 4 = 16 := by decide
  have e4 : (zbits f q.toNat 14 : Int) = zbsI f q 5 + zbsI f (q + 5) 5 * 32 + zbsI f (q + 10) 4 * 1024 := by
    rw [zbits_14]
    unfold zbsI
    rw [show (q + 5).toNat = q.toNat + 5 by omega, show (q + 10).toNat = q.toNat + 10 by omega, show (5 : Int).toNat = 5 from rfl, show (4 : Int).toNat = 4 from rfl]
    omega
  unfold zBr at h1 h2 h3
  unfold zns znd znc
  rcases h1 with h1 | h1 | h1
  · omega
  · have e5 := e1 h1.2.2.1
    subst e5
    rcases h2 with h2 | h2 | h2
    · omega
    · have e6 := e2 h2.2.2.1
      rw [show q + 5 + 5 = q + 10 by omega] at e6
      subst e6
      rcases h3 with h3 | h3 | h3
      · omega
      · have e7 := e3 h3.2.2.1
        refine Or.inl ⟨h3.2.2.1, by omega, by omega, ?_, ?_, ?_⟩ <;> omega
      · exact Or.inr (by omega)
    · exact Or.inr (by omega)
  · exact Or.inr (by omega)
/-- the small row while it is read -/
def zSl (f : Nat → Int32) (q E n k p r : Int) (s : Nat → Int) : Prop := (r = 0 ∧ p = q + 3 * k ∧ ∀ j : Int, 0 ≤ j → j < 19 → s j.toNat = (zlr f q.toNat k.toNat j.toNat : Int)) ∨ (r = 30 ∧ E < q + 3 * n)
theorem zSl_0 {f : Nat → Int32} {q E n p r : Int} {s : Nat → Int} (hr : r = 0) (hp : p = q) (h : ∀ j : Int, 0 ≤ j → j < 19 → s j.toNat = 0) : zSl f q E n 0 p r s := Or.inl ⟨hr, by omega, fun j h1 h2 => by rw [h j h1 h2]; rfl⟩
theorem zSl_s {f : Nat → Int32} {q E n k p p1 r0 r1 x y : Int} {s s1 : Nat → Int} (h : zSl f q E n k p r0 s) (hr : r0 = 0) (hk : 0 ≤ k ∧ k < n ∧ n ≤ 19 ∧ 0 ≤ q) (hb : zBr f p E 3 x r0 r1) (hp : r1 = 0 → p1 = p + 3) (hy : y = zSo k) (hs : s1 = zup s y.toNat x) : zSl f q E n (k + 1) p1 r1 s1 := by
  unfold zBr at hb
  rcases h with ⟨_, h1, h2⟩ | h
  · rcases hb with hb | hb | hb
    · omega
    · refine Or.inl ⟨hb.2.2.1, by have := hp hb.2.2.1; omega, fun j j1 j2 => ?_⟩
      have e1 : zlr f q.toNat (k + 1).toNat j.toNat = if j.toNat = zN ztab_1 k.toNat then zbits f (q.toNat + 3 * k.toNat) 3 else zlr f q.toNat k.toNat j.toNat := by
        rw [show (k + 1).toNat = k.toNat + 1 by omega]
        rfl
      have e2 : y.toNat = zN ztab_1 k.toNat := by
        rw [hy]
        unfold zSo
        exact Int.toNat_natCast _
      rw [e1, hs, e2]
      by_cases c : j.toNat = zN ztab_1 k.toNat
      · rw [if_pos c, c, zup_at, hb.2.2.2, h1]
        unfold zbsI
        rw [show (q + 3 * k).toNat = q.toNat + 3 * k.toNat by omega]
        rfl
      · rw [if_neg c, zup_ne c]
        exact h2 j j1 j2
    · exact Or.inr (by omega)
  · omega
/-- behind the small row -/
def zLz (f : Nat → Int32) (bh : Nat) (n q p r : Int) : Prop := (zlc f bh n.toNat q.toNat).1 = iI (-r) ∧ (r = 0 → (zlc f bh n.toNat q.toNat).2 = p.toNat ∧ zFull (zlr f q.toNat n.toNat) 19)
theorem zlr_15 (f : Nat → Int32) (q n : Nat) : ∀ k, k < 19 → zlr f q n k ≤ 15 := fun k _ => zlr_le f q n k
theorem zLz_no {f : Nat → Int32} {bh : Nat} {n q p k r r1 E : Int} {s : Nat → Int} (h : zSl f q E n k p r s) (hr : ¬ r = 0) (hE : E = 8 * (bh : Int)) (h0 : 0 ≤ q ∧ 0 ≤ n) (h1 : r1 = r) : zLz f bh n q p r1 := by
  rcases h with h | h
  · exact absurd h.1 hr
  · unfold zLz zlc
    rw [if_pos (by omega), h1, h.1]
    exact ⟨by show (-30 : Int32) = iI (-30); decide, fun h9 => absurd h9 (by decide)⟩
theorem zLz_ok {f : Nat → Int32} {bh : Nat} {n q p k r r1 E : Int} {s : Nat → Int} (h : zSl f q E n k p r s) (hr : r = 0) (hE : E = 8 * (bh : Int)) (h0 : 0 ≤ q ∧ 0 ≤ n ∧ k = n) (hp : p ≤ E) (hc : (r1 = 0 ∧ zRt (zlr f q.toNat n.toNat) 19 0) ∨ (r1 = 33 ∧ ¬ zRt (zlr f q.toNat n.toNat) 19 0)) : zLz f bh n q p r1 := by
  have e1 : zRt (zlr f q.toNat n.toNat) 19 0 ↔ zkf (zlr f q.toNat n.toNat) 19 16 = 32768 := by
    rw [zks_eq 19 (zlr_15 f _ _)]
    unfold zRt
    omega
  rw [e1] at hc
  rcases h with ⟨_, h1, _⟩ | h
  · unfold zLz zlc
    rw [if_neg (by omega)]
    rcases hc with ⟨c1, c2⟩ | ⟨c1, c2⟩
    · rw [if_pos c2, c1]
      exact ⟨by show (0 : Int32) = iI (-0); decide, fun _ => ⟨by show q.toNat + 3 * n.toNat = p.toNat; omega, c2⟩⟩
    · rw [if_neg c2, c1]
      exact ⟨by show (-33 : Int32) = iI (-33); decide, fun h9 => absurd h9 (by decide)⟩
  · omega
/-- a row of numbers as a row of lengths; what e says behind N -/
def zmd (s : Nat → Int) (e : Nat → Nat) (N : Nat) : Nat → Nat := fun k => if k < N then (s k).toNat else e k
theorem zmd_eq {s : Nat → Int} {e : Nat → Nat} {N : Nat} (h : ∀ j : Int, 0 ≤ j → j < (N : Int) → s j.toNat = (e j.toNat : Int)) : zmd s e N = e := by
  funext k
  unfold zmd
  by_cases c : k < N
  · have h1 := h k (by omega) (by omega)
    rw [Int.toNat_natCast] at h1
    rw [if_pos c, h1, Int.toNat_natCast]
  · rw [if_neg c]
theorem zmd_in {s : Nat → Int} {e : Nat → Nat} {N : Nat} (h : ∀ k : Nat, 0 ≤ s k ∧ s k ≤ 15) : ∀ k : Int, 0 ≤ k → k < (N : Int) → s (0 + k).toNat = ((zmd s e N) k.toNat : Int) := fun k h1 h2 => by
  unfold zmd
  rw [if_pos (by omega), show (0 + k).toNat = k.toNat by omega]
  have h3 := h k.toNat
  omega
theorem zSl_row {f : Nat → Int32} {q E n k p r : Int} {s : Nat → Int} (h : zSl f q E n k p r s) (hr : r = 0) (hk : k = n) : ∀ j : Int, 0 ≤ j → j < 19 → s j.toNat = (zlr f q.toNat n.toNat j.toNat : Int) := by
  rcases h with h | h
  · rw [← hk]
    exact h.2.2
  · omega
theorem zGd_full {d : Nat → Nat} {N : Nat} (h1 : ∀ k, k < N → d k ≤ 15) (h2 : zFull d N) : zGd d N := ⟨h1, Or.inl h2⟩
theorem zGd_rt {d : Nat → Nat} {N : Nat} {fw : Int} (h1 : ∀ k, k < N → d k ≤ 15) (h2 : zRt d N fw) : zGd d N := by
  refine ⟨h1, ?_⟩
  have hst : ∀ M : Nat, M ≤ N → (∀ m, m ≤ 15 → 1 ≤ m → zcn d M m ≤ zst d M 16) := fun M hM m h3 h4 => by
    have h5 : zst d M (m + 1) ≤ zst d M 16 := by
      have h6 : ∀ b, m + 1 ≤ b → zst d M (m + 1) ≤ zst d M b := fun b hb => by
        induction hb with
        | refl => exact Nat.le_refl _
        | step _ ih => exact Nat.le_trans ih (Nat.le_add_right _ _)
      exact h6 16 (by omega)
    rw [zst_t d M h4] at h5
    omega
  rcases h2 with h2 | ⟨_, h2 | h2⟩
  · left
    unfold zFull
    rw [zks_eq N h1]
    omega
  · right
    have h3 : ∀ k, k < N → d k = 0 := fun k hk => by
      by_cases c : d k = 0
      · exact c
      · have h4 := hst N (Nat.le_refl _) (d k) (h1 k hk) (by omega)
        have h5 := zcd_in (d := d) hk
        unfold zcd at h5
        omega
    have h4 : zcn d N 1 ≤ 1 := by
      have := hst N (Nat.le_refl _) 1 (by decide) (by decide)
      omega
    exact ⟨fun k hk => by rw [h3 k hk]; decide, h4⟩
  · right
    have h3 : ∀ k, k < N → d k ≤ 1 := fun k hk => by
      by_cases c : d k ≤ 1
      · exact c
      · have h5 : zcn d N 1 + zcn d N (d k) ≤ zst d N 16 := by
          have h6 : ∀ b, d k + 1 ≤ b → zcn d N 1 + zcn d N (d k) ≤ zst d N b := fun b hb => by
            induction hb with
            | refl =>
              rw [zst_t d N (by omega)]
              have h7 : ∀ b, 2 ≤ b → zcn d N 1 ≤ zst d N b := fun b hb => by
                induction hb with
                | refl =>
                  rw [zst_t d N (l := 1) (by decide)]
                  omega
                | step _ ih => exact Nat.le_trans ih (Nat.le_add_right _ _)
              have h8 := h7 (d k) (by omega)
              omega
            | step _ ih => exact Nat.le_trans ih (Nat.le_add_right _ _)
          exact h6 16 (by have := h1 k hk; omega)
        have h9 := zcd_in (d := d) hk
        unfold zcd at h9
        omega
    exact ⟨h3, by omega⟩
/-! the row of lengths -/
def zRw (f : Nat → Int32) (bh : Nat) (d : Nat → Nat) (n Q : Nat) (i q : Int) (l : Nat → Int) : Prop := ∃ (j : Nat) (m : Nat → Nat), (n : Int) ≤ i + (j : Int) ∧ (∀ k : Int, 0 ≤ k → k < i → l k.toNat = (m k.toNat : Int)) ∧ zrow f bh d (zGs d 19) n n 0 Q (fun _ => 0) = zrow f bh d (zGs d 19) n j i.toNat q.toNat m
theorem zRw_0 {f : Nat → Int32} {bh : Nat} {d : Nat → Nat} {n Q : Nat} {q : Int} {l : Nat → Int} (h : Q = q.toNat) : zRw f bh d n Q 0 q l := ⟨n, fun _ => 0, by omega, fun k h1 h2 => by omega, by rw [h]; rfl⟩
theorem zRw_u {f : Nat → Int32} {bh : Nat} {d : Nat → Nat} {n Q : Nat} {i q y r1 p1 : Int} {l : Nat → Int} (h : zRw f bh d n Q i q l) (hi : 0 ≤ i ∧ i < (n : Int)) (s : zSr f d 19 bh q.toNat y r1 p1) (hr : r1 = 0) (hy : y ≤ 1000) : ∃ (j : Nat) (m : Nat → Nat), (n : Int) ≤ i + 1 + (j : Int) ∧ (∀ k : Int, 0 ≤ k → k < i → l k.toNat = (m k.toNat : Int)) ∧ zrow f bh d (zGs d 19) n n 0 Q (fun _ => 0) = if 8 * bh < p1.toNat + zrep y.toNat then (-30, q.toNat, m) else if (y.toNat = 16 ∧ i.toNat = 0) ∨ n < i.toNat + (zlst y.toNat + zbits f p1.toNat (zrep y.toNat)) then (-33, p1.toNat + zrep y.toNat, m) else zrow f bh d (zGs d 19) n j (i.toNat + (zlst y.toNat + zbits f p1.toNat (zrep y.toNat))) (p1.toNat + zrep y.toNat) (zrf m (zrl y.toNat i.toNat m) i.toNat (zlst y.toNat + zbits f p1.toNat (zrep y.toNat))) := by
  obtain ⟨j, m, h1, h2, h3⟩ := h
  rcases s with ⟨_, s1, s2⟩ | s | s
  · cases j with
    | zero => omega
    | succ j =>
      refine ⟨j, m, by omega, h2, ?_⟩
      rw [h3]
      have e : zrow f bh d (zGs d 19) n (j + 1) i.toNat q.toNat m = (if n ≤ i.toNat then (0, q.toNat, m)
    else if (znx f d 19 (zGs d 19) bh 15 1 q.toNat 0 0 0).1 < 0 then ((znx f d 19 (zGs d 19) bh 15 1 q.toNat 0 0 0).1, (znx f d 19 (zGs d 19) bh 15 1 q.toNat 0 0 0).2, m)
    else if 8 * bh < (znx f d 19 (zGs d 19) bh 15 1 q.toNat 0 0 0).2 + zrep (znx f d 19 (zGs d 19) bh 15 1 q.toNat 0 0 0).1.toNatClampNeg then (-30, q.toNat, m)
    else if ((znx f d 19 (zGs d 19) bh 15 1 q.toNat 0 0 0).1.toNatClampNeg = 16 ∧ i.toNat = 0) ∨ n < i.toNat + (zlst (znx f d 19 (zGs d 19) bh 15 1 q.toNat 0 0 0).1.toNatClampNeg + zbits f (znx f d 19 (zGs d 19) bh 15 1 q.toNat 0 0 0).2 (zrep (znx f d 19 (zGs d 19) bh 15 1 q.toNat 0 0 0).1.toNatClampNeg)) then (-33, (znx f d 19 (zGs d 19) bh 15 1 q.toNat 0 0 0).2 + zrep (znx f d 19 (zGs d 19) bh 15 1 q.toNat 0 0 0).1.toNatClampNeg, m)
    else zrow f bh d (zGs d 19) n j (i.toNat + (zlst (znx f d 19 (zGs d 19) bh 15 1 q.toNat 0 0 0).1.toNatClampNeg + zbits f (znx f d 19 (zGs d 19) bh 15 1 q.toNat 0 0 0).2 (zrep (znx f d 19 (zGs d 19) bh 15 1 q.toNat 0 0 0).1.toNatClampNeg))) ((znx f d 19 (zGs d 19) bh 15 1 q.toNat 0 0 0).2 + zrep (znx f d 19 (zGs d 19) bh 15 1 q.toNat 0 0 0).1.toNatClampNeg) (zrf m (zrl (znx f d 19 (zGs d 19) bh 15 1 q.toNat 0 0 0).1.toNatClampNeg i.toNat m) i.toNat (zlst (znx f d 19 (zGs d 19) bh 15 1 q.toNat 0 0 0).1.toNatClampNeg + zbits f (znx f d 19 (zGs d 19) bh 15 1 q.toNat 0 0 0).2 (zrep (znx f d 19 (zGs d 19) bh 15 1 q.toNat 0 0 0).1.toNatClampNeg)))) := rfl
      rw [e, s2]
      dsimp only
      rw [if_neg (by omega), if_neg (by rw [← iI_nn s1, ← iI_0, iI_lt (by omega) (by omega)]; omega), nI_clamp (by omega)]
  · omega
  · omega
theorem zRw_no {f : Nat → Int32} {bh : Nat} {d : Nat → Nat} {n Q : Nat} {i q y r1 p1 : Int} {l : Nat → Int} (h : zRw f bh d n Q i q l) (hi : 0 ≤ i ∧ i < (n : Int)) (s : zSr f d 19 bh q.toNat y r1 p1) (hr : ¬ r1 = 0) : (zrow f bh d (zGs d 19) n n 0 Q (fun _ => 0)).1 = iI (-r1) := by
  obtain ⟨j, m, h1, h2, h3⟩ := h
  have key : ∀ v : Int32, (znx f d 19 (zGs d 19) bh 15 1 q.toNat 0 0 0).1 = v → v < 0 → (zrow f bh d (zGs d 19) n n 0 Q (fun _ => 0)).1 = v := fun v hv h0 => by
    rw [h3]
    cases j with
    | zero => omega
    | succ j =>
      unfold zrow
      rw [if_neg (by omega), if_pos (by rw [hv]; exact h0)]
      exact hv
  rcases s with s | ⟨s1, s2⟩ | ⟨s1, s2⟩
  · exact absurd s.1 hr
  · rw [s1]
    exact key _ s2 (by decide)
  · rw [s1]
    exact key _ s2 (by decide)
/-- how often a length comes -/
def zTi (f : Nat → Int32) (E y p1 ti p2 r : Int) : Prop := (r = 0 ∧ p2 = p1 + (zrep y.toNat : Int) ∧ p2 ≤ E ∧ ti = (zlst y.toNat : Int) + (zbits f p1.toNat (zrep y.toNat) : Int)) ∨ (r = 30 ∧ E < p1 + (zrep y.toNat : Int))
theorem zTi_0 {f : Nat → Int32} {E y p1 ti p2 r : Int} (hy : 0 ≤ y ∧ y < 16) (hp : p2 = p1) (hE : p1 ≤ E) (ht : ti = 1) (hr : r = 0) : zTi f E y p1 ti p2 r := by
  have e1 : zrep y.toNat = 0 := by unfold zrep; rw [if_neg (by omega), if_neg (by omega), if_neg (by omega)]
  have e2 : zlst y.toNat = 1 := by unfold zlst; rw [if_pos (by omega)]
  refine Or.inl ⟨hr, by omega, by omega, ?_⟩
  rw [e1, e2, ht]
  rfl
theorem zTi_b {f : Nat → Int32} {E y p1 ti p2 x r0 r nb ba : Int} (hy : (y = 16 ∧ nb = 2 ∧ ba = 3) ∨ (y = 17 ∧ nb = 3 ∧ ba = 3) ∨ (y = 18 ∧ nb = 7 ∧ ba = 11)) (h : zBr f p1 E nb x r0 r) (hr : r0 = 0) (hp : r = 0 → p2 = p1 + nb) (ht : ti = ba + x) : zTi f E y p1 ti p2 r := by
  have e1 : (zrep y.toNat : Int) = nb := by
    rcases hy with hy | hy | hy <;> rw [hy.1, hy.2.1] <;> rfl
  have e2 : (zlst y.toNat : Int) = ba := by
    rcases hy with hy | hy | hy <;> rw [hy.1, hy.2.2] <;> rfl
  unfold zBr at h
  rcases h with h | h | h
  · omega
  · have h1 := hp h.2.2.1
    refine Or.inl ⟨h.2.2.1, by omega, by omega, ?_⟩
    rw [ht, h.2.2.2, e2]
    unfold zbsI
    rw [show nb.toNat = zrep y.toNat by omega]
  · exact Or.inr (by omega)
theorem zTi_t {f : Nat → Int32} {E y p1 ti p2 r : Int} (h : zTi f E y p1 ti p2 r) (hr : r = 0) : 1 ≤ ti := by
  have h1 := zlst_le y.toNat
  rcases h with h | h <;> omega
theorem zRw_bt {f : Nat → Int32} {bh : Nat} {d : Nat → Nat} {n Q : Nat} {i q y r1 p1 p2 ti r E : Int} {l : Nat → Int} (h : zRw f bh d n Q i q l) (hi : 0 ≤ i ∧ i < (n : Int)) (s : zSr f d 19 bh q.toNat y r1 p1) (hr : r1 = 0) (hy : y ≤ 1000 ∧ 0 ≤ p1) (hE : E = 8 * (bh : Int)) (hT : zTi f E y p1 ti p2 r) (h6 : ¬ r = 0) : (zrow f bh d (zGs d 19) n n 0 Q (fun _ => 0)).1 = iI (-r) := by
  obtain ⟨j, m, h1, h2, h3⟩ := zRw_u h hi s hr hy.1
  rcases hT with hT | hT
  · exact absurd hT.1 h6
  · rw [h3, if_pos (by omega), hT.1]
    show (-30 : Int32) = iI (-30)
    decide
theorem zRw_bad {f : Nat → Int32} {bh : Nat} {d : Nat → Nat} {n Q : Nat} {i q y r1 p1 p2 ti r r3 E : Int} {l : Nat → Int} (h : zRw f bh d n Q i q l) (hi : 0 ≤ i ∧ i < (n : Int)) (s : zSr f d 19 bh q.toNat y r1 p1) (hr : r1 = 0) (hy : 0 ≤ y ∧ y ≤ 1000 ∧ 0 ≤ p1) (hE : E = 8 * (bh : Int)) (hT : zTi f E y p1 ti p2 r) (h6 : r = 0) (hb : (y = 16 ∧ i = 0) ∨ (n : Int) < i + ti) (h33 : r3 = 33) : (zrow f bh d (zGs d 19) n n 0 Q (fun _ => 0)).1 = iI (-r3) := by
  obtain ⟨j, m, h1, h2, h3⟩ := zRw_u h hi s hr hy.2.1
  rcases hT with hT | hT
  · rw [h3, if_neg (by omega), if_pos (by omega), h33]
    show (-33 : Int32) = iI (-33)
    decide
  · omega
def zVv (y i vv : Int) (l : Nat → Int) : Prop := (y < 16 ∧ vv = y) ∨ (y = 16 ∧ vv = l (i - 1).toNat) ∨ (16 < y ∧ vv = 0)
theorem zRw_s {f : Nat → Int32} {bh : Nat} {d : Nat → Nat} {n Q : Nat} {i q y r1 p1 p2 ti r vv E : Int} {l l7 : Nat → Int} (h : zRw f bh d n Q i q l) (hi : 0 ≤ i ∧ i < (n : Int)) (s : zSr f d 19 bh q.toNat y r1 p1) (hr : r1 = 0) (hy : 0 ≤ y ∧ y ≤ 1000 ∧ 0 ≤ p1) (hE : E = 8 * (bh : Int)) (hT : zTi f E y p1 ti p2 r) (h6 : r = 0) (h16 : y = 16 → 1 ≤ i) (hn : i + ti ≤ (n : Int)) (hv : zVv y i vv l) (k1 : ∀ k : Int, 0 ≤ k → k < i → l7 k.toNat = l k.toNat) (k2 : ∀ t : Int, 0 ≤ t → t < ti → l7 (i + t).toNat = vv) : zRw f bh d n Q (i + ti) p2 l7 := by
  obtain ⟨j, m, h1, h2, h3⟩ := zRw_u h hi s hr hy.2.1
  have ht := zTi_t hT h6
  rcases hT with ⟨_, t1, t2, t3⟩ | hT
  · rw [if_neg (by omega), if_neg (by omega)] at h3
    refine ⟨j, zrf m (zrl y.toNat i.toNat m) i.toNat (zlst y.toNat + zbits f p1.toNat (zrep y.toNat)), by omega, fun k k3 k4 => ?_, ?_⟩
    rotate_left
    · rw [show (i + ti).toNat = i.toNat + (zlst y.toNat + zbits f p1.toNat (zrep y.toNat)) by omega, show p2.toNat = p1.toNat + zrep y.toNat by omega]
      exact h3
    · unfold zrf
      by_cases c : k < i
      · rw [if_neg (by omega), k1 k k3 c]
        exact h2 k k3 c
      · rw [if_pos (by omega)]
        have e1 := k2 (k - i) (by omega) (by omega)
        rw [show i + (k - i) = k by omega] at e1
        rw [e1]
        unfold zrl
        rcases hv with ⟨v1, v2⟩ | ⟨v1, v2⟩ | ⟨v1, v2⟩
        · rw [if_pos (by omega), v2]
          omega
        · rw [if_neg (by omega), if_pos (by omega), v2, h2 (i - 1) (by omega) (by omega), show (i - 1).toNat = i.toNat - 1 by omega]
        · rw [if_neg (by omega), if_neg (by omega), v2]
          rfl
  · omega
theorem zRw_end {f : Nat → Int32} {bh : Nat} {d : Nat → Nat} {n Q : Nat} {i q : Int} {l : Nat → Int} (h : zRw f bh d n Q i q l) (hi : i = (n : Int)) : (zrow f bh d (zGs d 19) n n 0 Q (fun _ => 0)).1 = 0 ∧ (zrow f bh d (zGs d 19) n n 0 Q (fun _ => 0)).2.1 = q.toNat ∧ ∀ k : Int, 0 ≤ k → k < (n : Int) → l k.toNat = ((zrow f bh d (zGs d 19) n n 0 Q (fun _ => 0)).2.2 k.toNat : Int) := by
  obtain ⟨j, m, h1, h2, h3⟩ := h
  have e : zrow f bh d (zGs d 19) n j i.toNat q.toNat m = (0, q.toNat, m) := by
    cases j with
    | zero => rfl
    | succ j =>
      unfold zrow
      rw [if_pos (by omega)]
  rw [h3, e]
  exact ⟨rfl, rfl, fun k k1 k2 => h2 k k1 (by omega)⟩
/-! the head's outcome -/
def zOz (f : Nat → Int32) (bh : Nat) (q sy di : Int) (l : Nat → Int) (fk : Nat → Int32) : Prop := sy = (zns f q.toNat : Int) ∧ di = (znd f q.toNat : Int) ∧ (∀ k : Int, 0 ≤ k → k < sy → l (0 + k).toNat = ((zowR f bh q.toNat).2.2 k.toNat : Int)) ∧ (∀ k : Int, 0 ≤ k → k < di → l (sy + k).toNat = ((fun k => (zowR f bh q.toNat).2.2 (zns f q.toNat + k)) k.toNat : Int)) ∧ zCk (zowR f bh q.toNat).2.2 sy.toNat 0 sy fk 16 0 ∧ zCk (fun k => (zowR f bh q.toNat).2.2 (zns f q.toNat + k)) di.toNat sy di fk 16 0 ∧ zGd (zowR f bh q.toNat).2.2 sy.toNat ∧ zGd (fun k => (zowR f bh q.toNat).2.2 (zns f q.toNat + k)) di.toNat
def zOr (f : Nat → Int32) (bh : Nat) (q p1 r1 sy di : Int) (l : Nat → Int) (fk : Nat → Int32) : Prop := (zown f bh q.toNat).1 = iI (-r1) ∧ (r1 = 0 → (zown f bh q.toNat).2 = p1.toNat ∧ zOz f bh q sy di l fk)
theorem zOr_30 {f : Nat → Int32} {bh : Nat} {q p1 r1 sy di E : Int} {l : Nat → Int} {fk : Nat → Int32} (hq : 0 ≤ q) (hE : E = 8 * (bh : Int)) (h : E < q + 14) (hr : r1 = 30) : zOr f bh q p1 r1 sy di l fk := by
  unfold zOr zown
  rw [if_pos (by omega), hr]
  exact ⟨by show (-30 : Int32) = iI (-30); decide, fun h9 => absurd h9 (by decide)⟩
theorem zOr_32 {f : Nat → Int32} {bh : Nat} {q p1 r1 sy di E : Int} {l : Nat → Int} {fk : Nat → Int32} (hq : 0 ≤ q) (hE : E = 8 * (bh : Int)) (h : q + 14 ≤ E) (h2 : 286 < zns f q.toNat ∨ 30 < znd f q.toNat) (hr : r1 = 32) : zOr f bh q p1 r1 sy di l fk := by
  unfold zOr zown
  rw [if_neg (by omega), if_pos h2, hr]
  exact ⟨by show (-32 : Int32) = iI (-32); decide, fun h9 => absurd h9 (by decide)⟩
theorem zown_in {f : Nat → Int32} {bh : Nat} {q E : Int} (hq : 0 ≤ q) (hE : E = 8 * (bh : Int)) (h : q + 14 ≤ E) (h2 : zns f q.toNat ≤ 286 ∧ znd f q.toNat ≤ 30) : zown f bh q.toNat = zown2 (zns f q.toNat) (znd f q.toNat) (zlc f bh (znc f q.toNat) (q.toNat + 14)) (zowR f bh q.toNat) := by
  unfold zown
  rw [if_neg (by omega), if_neg (by omega)]
theorem zLz_e {f : Nat → Int32} {bh : Nat} {q n q1 p r : Int} (h : zLz f bh n q1 p r) (hn : n = (znc f q.toNat : Int)) (hq1 : q1 = q + 14) (hq : 0 ≤ q) : (zlc f bh (znc f q.toNat) (q.toNat + 14)).1 = iI (-r) ∧ (r = 0 → (zlc f bh (znc f q.toNat) (q.toNat + 14)).2 = p.toNat) := by
  unfold zLz at h
  rw [show n.toNat = znc f q.toNat by omega, show q1.toNat = q.toNat + 14 by omega] at h
  exact ⟨h.1, fun h9 => (h.2 h9).1⟩
theorem zOr_lz {f : Nat → Int32} {bh : Nat} {q p p1 r1 r sy di E n q1 : Int} {l : Nat → Int} {fk : Nat → Int32} (hq : 0 ≤ q) (hE : E = 8 * (bh : Int)) (h : q + 14 ≤ E) (h2 : zns f q.toNat ≤ 286 ∧ znd f q.toNat ≤ 30) (hz : zLz f bh n q1 p r) (hn : n = (znc f q.toNat : Int)) (hq1 : q1 = q + 14) (hr : ¬ r = 0) (h3 : 0 ≤ r ∧ r ≤ 100) (h4 : r1 = r) : zOr f bh q p1 r1 sy di l fk := by
  have e := (zLz_e hz hn hq1 hq).1
  unfold zOr
  rw [zown_in hq hE h h2]
  unfold zown2
  have e2 : ¬ (zlc f bh (znc f q.toNat) (q.toNat + 14)).1 = 0 := by
    rw [e]
    exact fun h9 => hr (by have h10 := (iI_eq (x := -r) (y := 0) (by omega) (by omega)).mp (h9.trans iI_0.symm); omega)
  rw [if_pos e2, e, h4]
  exact ⟨rfl, fun h9 => absurd h9 hr⟩
/-- the row's name in the head's words -/
theorem zowR_e {f : Nat → Int32} {bh : Nat} {q q1 n all : Int} {Q : Nat} (hn : n = (znc f q.toNat : Int)) (hq1 : q1 = q + 14) (hq : 0 ≤ q) (ha : all = (zns f q.toNat : Int) + (znd f q.toNat : Int)) (hQ : Q = (zlc f bh (znc f q.toNat) (q.toNat + 14)).2) : zowR f bh q.toNat = zrow f bh (zlr f q1.toNat n.toNat) (zGs (zlr f q1.toNat n.toNat) 19) all.toNat all.toNat 0 Q (fun _ => 0) := by
  unfold zowR
  rw [show n.toNat = znc f q.toNat by omega, show q1.toNat = q.toNat + 14 by omega, show all.toNat = zns f q.toNat + znd f q.toNat by omega, hQ]
theorem zOr_row {f : Nat → Int32} {bh : Nat} {q p p1 r1 r r4 sy di E n q1 all : Int} {Q : Nat} {l : Nat → Int} {fk : Nat → Int32} (hq : 0 ≤ q) (hE : E = 8 * (bh : Int)) (h : q + 14 ≤ E) (h2 : zns f q.toNat ≤ 286 ∧ znd f q.toNat ≤ 30) (hz : zLz f bh n q1 p r4) (hn : n = (znc f q.toNat : Int)) (hq1 : q1 = q + 14) (h4 : r4 = 0) (hQ : Q = p.toNat) (ha : all = (zns f q.toNat : Int) + (znd f q.toNat : Int)) (hrow : (zrow f bh (zlr f q1.toNat n.toNat) (zGs (zlr f q1.toNat n.toNat) 19) all.toNat all.toNat 0 Q (fun _ => 0)).1 = iI (-r)) (hr : ¬ r = 0) (h3 : 0 ≤ r ∧ r ≤ 100) (h5 : r1 = r) : zOr f bh q p1 r1 sy di l fk := by
  have e := zLz_e hz hn hq1 hq
  have e3 := e.2 h4
  rw [← zowR_e hn hq1 hq ha (by rw [hQ, e3])] at hrow
  unfold zOr
  rw [zown_in hq hE h h2]
  unfold zown2
  rw [if_neg (by rw [e.1, h4]; decide), if_pos (by rw [hrow, iI_sgn h3]; exact hr), h5]
  exact ⟨hrow, fun h9 => absurd h9 hr⟩
def zQk (r : Int) (P Q R : Prop) : Prop := (r = 0 ∧ P ∧ Q ∧ R) ∨ (r = 33 ∧ (¬ P ∨ ¬ Q ∨ ¬ R))
theorem zOr_end {f : Nat → Int32} {bh : Nat} {q p p1 r1 r8 r4 sy di E n q1 all : Int} {Q : Nat} {l : Nat → Int} {fk : Nat → Int32} {D DX : Nat → Nat} (hq : 0 ≤ q) (hE : E = 8 * (bh : Int)) (h : q + 14 ≤ E) (h2 : zns f q.toNat ≤ 286 ∧ znd f q.toNat ≤ 30) (hz : zLz f bh n q1 p r4) (hn : n = (znc f q.toNat : Int)) (hq1 : q1 = q + 14) (h4 : r4 = 0) (hD : D = (zowR f bh q.toNat).2.2) (hDX : DX = fun k => (zowR f bh q.toNat).2.2 (zns f q.toNat + k)) (hrow : (zowR f bh q.toNat).1 = 0 ∧ (zowR f bh q.toNat).2.1 = p1.toNat) (hsy : sy = (zns f q.toNat : Int) ∧ di = (znd f q.toNat : Int)) (hl : ∀ k : Nat, 0 ≤ l k ∧ l k ≤ 15) (hd1 : ∀ k : Int, 0 ≤ k → k < sy → l (0 + k).toNat = (D k.toNat : Int)) (hd2 : ∀ k : Int, 0 ≤ k → k < di → l (sy + k).toNat = (DX k.toNat : Int)) (hk : zQk r8 (0 < D 256) (zRt D sy.toNat 0) (zRt DX di.toNat 1)) (c1 : zCk D sy.toNat 0 sy fk 16 0) (c2 : zCk DX di.toNat sy di fk 16 0) (h5 : r1 = r8) : zOr f bh q p1 r1 sy di l fk := by
  have e := zLz_e hz hn hq1 hq
  have b1 : ∀ k, k < sy.toNat → D k ≤ 15 := fun k k1 => by
    have h9 := hd1 k (by omega) (by omega)
    have h10 := hl (0 + (k : Int)).toNat
    rw [Int.toNat_natCast] at h9
    omega
  have b2 : ∀ k, k < di.toNat → DX k ≤ 15 := fun k k1 => by
    have h9 := hd2 k (by omega) (by omega)
    have h10 := hl (sy + (k : Int)).toNat
    rw [Int.toNat_natCast] at h9
    omega
  unfold zOr
  rw [zown_in hq hE h h2]
  unfold zown2
  rw [if_neg (by rw [e.1, h4]; decide), if_neg (by rw [hrow.1]; decide), hrow.2]
  have w1 := zks_eq (d := D) sy.toNat b1
  have w2 := zks_eq (d := DX) di.toNat b2
  have g1 : zRt D sy.toNat 0 ↔ zkf D sy.toNat 16 = 32768 := by
    rw [w1]; unfold zRt; omega
  have g2 : zRt DX di.toNat 1 ↔ (zkf DX di.toNat 16 = 32768 ∨ zst DX di.toNat 16 = 0 ∨ (zst DX di.toNat 16 = 1 ∧ zcn DX di.toNat 1 = 1)) := by
    rw [w2]; unfold zRt; omega
  have hns : zns f q.toNat = sy.toNat := by omega
  have hnd : znd f q.toNat = di.toNat := by omega
  rw [hns] at hDX
  rw [hns, hnd, ← hDX, ← hD]
  rcases hk with ⟨k1, k2, k3, k4⟩ | ⟨k1, k2⟩
  · rw [if_pos ⟨k2, g1.mp k3, g2.mp k4⟩, h5, k1]
    refine ⟨by show (0 : Int32) = iI (-0); decide, fun _ => ⟨rfl, ?_⟩⟩
    unfold zOz
    rw [hns, hnd, ← hDX, ← hD]
    exact ⟨by omega, by omega, hd1, hd2, c1, c2, zGd_rt b1 k3, zGd_rt b2 k4⟩
  · rw [if_neg (fun h9 => k2.elim (fun w => w h9.1) (fun w => w.elim (fun w => w (g1.mpr h9.2.1)) (fun w => w (g2.mpr h9.2.2)))), h5, k1]
    exact ⟨by show (-33 : Int32) = iI (-33); decide, fun h9 => absurd h9 (by decide)⟩
theorem zSl_k {f : Nat → Int32} {q E n k p r : Int} {s : Nat → Int} (h : zSl f q E n k p r s) (hk : r = 0 → k = n) : zSl f q E n n p r s := by
  rcases h with h | h
  · have := hk h.1
    subst this
    exact Or.inl h
  · exact Or.inr h
theorem zTi_r {f : Nat → Int32} {E y p1 ti p2 r : Int} (h : zTi f E y p1 ti p2 r) : r = 0 ∨ r = 30 := by
  rcases h with h | h
  · exact Or.inl h.1
  · exact Or.inr h.1
theorem zz_s {l l1 : Nat → Int} {k : Int} (q : ∀ j : Int, 0 ≤ j → j < k → l j.toNat = 0) (hg : l1 = zup l k.toNat 0) (hk : 0 ≤ k) : ∀ j : Int, 0 ≤ j → j < k + 1 → l1 j.toNat = 0 := fun j h1 h2 => by
  by_cases c : j = k
  · rw [c, hg, zup_at]
  · rw [hg, zup_ne (by omega)]
    exact q j h1 (by omega)
theorem zfv_s {l l1 : Nat → Int} {d k v : Int} (q : ∀ t : Int, 0 ≤ t → t < k → l (d + t).toNat = v) (hg : l1 = zup l (d + k).toNat v) (hk : 0 ≤ d ∧ 0 ≤ k) : ∀ t : Int, 0 ≤ t → t < k + 1 → l1 (d + t).toNat = v := fun j h1 h2 => by
  by_cases c : j = k
  · rw [c, hg, zup_at]
  · rw [hg, zup_ne (by omega)]
    exact q j h1 (by omega)
def zRx (r4 : Int) (f : Nat → Int32) (bh : Nat) (d : Nat → Nat) (n Q : Nat) (i q : Int) (l : Nat → Int) : Prop := r4 = 0 → zRw f bh d n Q i q l
def zRd (r4 : Int) (f : Nat → Int32) (bh : Nat) (d : Nat → Nat) (n Q : Nat) (q : Int) (l : Nat → Int) : Prop := r4 = 0 → ((zrow f bh d (zGs d 19) n n 0 Q (fun _ => 0)).1 = 0 ∧ (zrow f bh d (zGs d 19) n n 0 Q (fun _ => 0)).2.1 = q.toNat ∧ ∀ k : Int, 0 ≤ k → k < (n : Int) → l k.toNat = ((zrow f bh d (zGs d 19) n n 0 Q (fun _ => 0)).2.2 k.toNat : Int))
theorem zd2_of {D : Nat → Nat} {l : Nat → Int} {n sy di : Int} {ns : Nat} (h : ∀ k : Int, 0 ≤ k → k < n → l k.toNat = (D k.toNat : Int)) (hs : sy = (ns : Int)) (hn : sy + di ≤ n) : ∀ k : Int, 0 ≤ k → k < di → l (sy + k).toNat = (((fun k => D (ns + k)) : Nat → Nat) k.toNat : Int) := fun k h1 h2 => by
  have h3 := h (sy + k) (by omega) (by omega)
  show l (sy + k).toNat = ((D (ns + k.toNat) : Nat) : Int)
  rw [h3, show (sy + k).toNat = ns + k.toNat by omega]
theorem zd1_of {D : Nat → Nat} {l : Nat → Int} {n sy : Int} (h : ∀ k : Int, 0 ≤ k → k < n → l k.toNat = (D k.toNat : Int)) (hn : sy ≤ n) : ∀ k : Int, 0 ≤ k → k < sy → l (0 + k).toNat = (D k.toNat : Int) := fun k h1 h2 => by
  rw [Int.zero_add]
  exact h k h1 (by omega)
/-! blocks -/
/-- what a block behind its head h does; the fixed codes are d n, dx nx -/
def zblk (f : Nat → Int32) (bh bu ra pk : Nat) (zz : Int64) (d : Nat → Nat) (n : Nat) (dx : Nat → Nat) (nx : Nat) (c h q : Nat) (o : zO) : Int32 × Nat × zO :=
  if h / 2 = 0 then zstored f bh bu ra pk zz q o
  else if h / 2 = 1 then zcoded f bh bu ra pk zz d n (zGs d n) dx nx (zGs dx nx) c (pk * 8 + 1) q o
  else if h / 2 = 2 then (if ¬ (zown f bh q).1 = 0 then ((zown f bh q).1, (zown f bh q).2, o) else zcoded f bh bu ra pk zz (zowR f bh q).2.2 (zns f q) (zGs (zowR f bh q).2.2 (zns f q)) (fun k => (zowR f bh q).2.2 (zns f q + k)) (znd f q) (zGs (fun k => (zowR f bh q).2.2 (zns f q + k)) (znd f q)) c (pk * 8 + 1) (zown f bh q).2 o)
  else (-37, q, o)
def zunp (f : Nat → Int32) (bh bu ra pk : Nat) (zz : Int64) (d : Nat → Nat) (n : Nat) (dx : Nat → Nat) (nx : Nat) (c : Nat) : Nat → Nat → zO → Int32 × Nat × zO
  | 0, q, o => (-30, q, o)
  | j + 1, q, o => if 8 * bh < q + 3 then (-30, q, o)
    else if (zblk f bh bu ra pk zz d n dx nx c (zbits f q 3) (q + 3) o).1 < 0 ∨ zbits f q 3 % 2 = 1 then zblk f bh bu ra pk zz d n dx nx c (zbits f q 3) (q + 3) o
    else zunp f bh bu ra pk zz d n dx nx c j (zblk f bh bu ra pk zz d n dx nx c (zbits f q 3) (q + 3) o).2.1 (zblk f bh bu ra pk zz d n dx nx c (zbits f q 3) (q + 3) o).2.2
theorem zU3_mk {f : Nat → Int32} {q E x1 x2 r0 r1 r2 q1 q2 : Int} (hq : 0 ≤ q) (hr : r0 = 0) (h1 : zBr f q E 1 x1 r0 r1) (h2 : zBr f q1 E 2 x2 r1 r2) (e1 : r1 = 0 → q1 = q + 1) (e2 : r2 = 0 → q2 = q1 + 2) : (r2 = 0 ∧ q + 3 ≤ E ∧ q2 = q + 3 ∧ (zbits f q.toNat 3 : Int) = x1 + 2 * x2 ∧ 0 ≤ x1 ∧ x1 ≤ 1 ∧ 0 ≤ x2 ∧ x2 ≤ 3) ∨ (r2 = 30 ∧ E < q + 3) := by
  have b1 := zbsI_b f q 1 (by omega)
  have b2 := zbsI_b f (q + 1) 2 (by omega)
  have p1 : zp 1 = 2 := by decide
  have p2 : zp 2 = 4 := by decide
  have e4 : (zbits f q.toNat 3 : Int) = zbsI f q 1 + zbsI f (q + 1) 2 * 2 := by
    have h3 := zbits_add f q.toNat 1 2
    rw [show 1 + 2 = 3 by rfl] at h3
    rw [h3]
    unfold zbsI
    rw [show (q + 1).toNat = q.toNat + 1 by omega, show (1 : Int).toNat = 1 from rfl, show (2 : Int).toNat = 2 from rfl]
    omega
  unfold zBr at h1 h2
  rcases h1 with h1 | h1 | h1
  · omega
  · have e5 := e1 h1.2.2.1
    subst e5
    rcases h2 with h2 | h2 | h2
    · omega
    · have e6 := e2 h2.2.2.1
      exact Or.inl ⟨h2.2.2.1, by omega, by omega, by omega, by omega, by omega, by omega, by omega⟩
    · exact Or.inr (by omega)
  · exact Or.inr (by omega)
def zUn (f : Nat → Int32) (bh bu ra pk : Nat) (zz : Int64) (RES : Int32 × Nat × zO) (la r q t cnt cs : Int) (fw : Nat → Int32) : Prop := (r = 0 ∧ la = 0 ∧ ∃ j : Nat, 8 * bh + 1 ≤ q.toNat + j ∧ RES = zunp f bh bu ra pk zz zfx 288 (fun _ => 5) 32 cs.toNat j q.toNat (zOo t cnt cs fw)) ∨ ((¬ r = 0 ∨ ¬ la = 0) ∧ zRz RES r q t cnt cs fw)
theorem zUn_0 {f : Nat → Int32} {bh bu ra pk : Nat} {zz : Int64} {la r q t cnt cs : Int} {fw : Nat → Int32} {j : Nat} (hr : r = 0) (hl : la = 0) (hj : 8 * bh + 1 ≤ q.toNat + j) : zUn f bh bu ra pk zz (zunp f bh bu ra pk zz zfx 288 (fun _ => 5) 32 cs.toNat j q.toNat (zOo t cnt cs fw)) la r q t cnt cs fw := Or.inl ⟨hr, hl, j, hj, rfl⟩
theorem zUn_end {f : Nat → Int32} {bh bu ra pk : Nat} {zz : Int64} {RES : Int32 × Nat × zO} {la r q t cnt cs : Int} {fw : Nat → Int32} (h : zUn f bh bu ra pk zz RES la r q t cnt cs fw) (hr : ¬ r = 0 ∨ ¬ la = 0) : zRz RES r q t cnt cs fw := by
  rcases h with h | h
  · omega
  · exact h.2
theorem zUn_u {f : Nat → Int32} {bh bu ra pk : Nat} {zz : Int64} {RES : Int32 × Nat × zO} {la r q t cnt cs : Int} {fw : Nat → Int32} (h : zUn f bh bu ra pk zz RES la r q t cnt cs fw) (hr : r = 0) (hl : la = 0) (hq : 0 ≤ q ∧ q ≤ 8 * (bh : Int)) : ∃ j : Nat, 8 * bh + 1 ≤ q.toNat + 1 + j ∧ RES = if 8 * bh < q.toNat + 3 then (-30, q.toNat, zOo t cnt cs fw) else if (zblk f bh bu ra pk zz zfx 288 (fun _ => 5) 32 cs.toNat (zbits f q.toNat 3) (q.toNat + 3) (zOo t cnt cs fw)).1 < 0 ∨ zbits f q.toNat 3 % 2 = 1 then zblk f bh bu ra pk zz zfx 288 (fun _ => 5) 32 cs.toNat (zbits f q.toNat 3) (q.toNat + 3) (zOo t cnt cs fw) else zunp f bh bu ra pk zz zfx 288 (fun _ => 5) 32 cs.toNat j (zblk f bh bu ra pk zz zfx 288 (fun _ => 5) 32 cs.toNat (zbits f q.toNat 3) (q.toNat + 3) (zOo t cnt cs fw)).2.1 (zblk f bh bu ra pk zz zfx 288 (fun _ => 5) 32 cs.toNat (zbits f q.toNat 3) (q.toNat + 3) (zOo t cnt cs fw)).2.2 := by
  rcases h with ⟨_, _, j, h1, h2⟩ | h
  · cases j with
    | zero => omega
    | succ j => exact ⟨j, by omega, by rw [h2]; rfl⟩
  · omega
theorem zUn_no {f : Nat → Int32} {bh bu ra pk : Nat} {zz : Int64} {RES : Int32 × Nat × zO} {la r q t cnt cs r1 p1 : Int} {fw : Nat → Int32} (h : zUn f bh bu ra pk zz RES la r q t cnt cs fw) (hr : r = 0) (hl : la = 0) (hq : 0 ≤ q ∧ q ≤ 8 * (bh : Int)) (h3 : 8 * (bh : Int) < q + 3) (h1 : r1 = 30) : zRz RES r1 p1 t cnt cs fw := by
  obtain ⟨j, _, e⟩ := zUn_u h hr hl hq
  rw [if_pos (by omega)] at e
  rw [e, h1]
  exact ⟨by show (-30 : Int32) = iI (-30); decide, fun h9 => absurd h9 (by decide), rfl⟩
theorem zUn_s {f : Nat → Int32} {bh bu ra pk : Nat} {zz : Int64} {RES : Int32 × Nat × zO} {la lb r q t cnt cs r2 q2 t2 cnt2 : Int} {fw fw2 : Nat → Int32} (h : zUn f bh bu ra pk zz RES la r q t cnt cs fw) (hr : r = 0) (hl : la = 0) (hq : 0 ≤ q ∧ q ≤ 8 * (bh : Int)) (h3 : q + 3 ≤ 8 * (bh : Int)) (hz : zRz (zblk f bh bu ra pk zz zfx 288 (fun _ => 5) 32 cs.toNat (zbits f q.toNat 3) (q.toNat + 3) (zOo t cnt cs fw)) r2 q2 t2 cnt2 cs fw2) (h2 : 0 ≤ r2 ∧ r2 ≤ 100) (hq2 : q < q2) (hlb : (lb = 1 ∧ zbits f q.toNat 3 % 2 = 1) ∨ (lb = 0 ∧ zbits f q.toNat 3 % 2 = 0)) : zUn f bh bu ra pk zz RES lb r2 q2 t2 cnt2 cs fw2 := by
  obtain ⟨j, hj, e⟩ := zUn_u h hr hl hq
  rw [if_neg (by omega)] at e
  by_cases c : r2 = 0
  · rcases hlb with ⟨l1, l2⟩ | ⟨l1, l2⟩
    · rw [if_pos (Or.inr l2)] at e
      rw [e]
      exact Or.inr ⟨Or.inr (by omega), hz⟩
    · obtain ⟨z1, z2, z3⟩ := hz
      rw [if_neg (by rw [z1, iI_sgn h2]; omega), z2 c, z3] at e
      exact Or.inl ⟨c, l1, j, by omega, e⟩
  · rw [if_pos (Or.inl (by rw [hz.1, iI_sgn h2]; exact c))] at e
    rw [e]
    exact Or.inr ⟨Or.inl c, hz⟩
theorem zK_0 {f : Nat → Int32} {bh bu ra pk : Nat} {zz : Int64} {c h P : Nat} {q r1 p1 t cnt cs t1 cnt1 : Int} {fw fw1 : Nat → Int32} (hh : h / 2 = 0) (hP : q.toNat = P) (z : zRz (zstored f bh bu ra pk zz q.toNat (zOo t cnt cs fw)) r1 p1 t1 cnt1 cs fw1) : zRz (zblk f bh bu ra pk zz zfx 288 (fun _ => 5) 32 c h P (zOo t cnt cs fw)) r1 p1 t1 cnt1 cs fw1 := by
  unfold zblk
  rw [if_pos hh, ← hP]
  exact z
theorem zK_1 {f : Nat → Int32} {bh bu ra pk : Nat} {zz : Int64} {c h P : Nat} {q r1 p1 t cnt cs t1 cnt1 : Int} {fw fw1 : Nat → Int32} (hh : h / 2 = 1) (hP : q.toNat = P) (z : zRz (zcoded f bh bu ra pk zz zfx 288 (zGs zfx 288) (fun _ => 5) 32 (zGs (fun _ => 5) 32) c (pk * 8 + 1) q.toNat (zOo t cnt cs fw)) r1 p1 t1 cnt1 cs fw1) : zRz (zblk f bh bu ra pk zz zfx 288 (fun _ => 5) 32 c h P (zOo t cnt cs fw)) r1 p1 t1 cnt1 cs fw1 := by
  unfold zblk
  rw [if_neg (by omega), if_pos hh, ← hP]
  exact z
theorem zK_3 {f : Nat → Int32} {bh bu ra pk : Nat} {zz : Int64} {c h P : Nat} {r1 p1 t cnt cs : Int} {fw : Nat → Int32} (hh : h / 2 = 3) (hr : r1 = 37) : zRz (zblk f bh bu ra pk zz zfx 288 (fun _ => 5) 32 c h P (zOo t cnt cs fw)) r1 p1 t cnt cs fw := by
  unfold zblk
  rw [if_neg (by omega), if_neg (by omega), if_neg (by omega), hr]
  exact ⟨by show (-37 : Int32) = iI (-37); decide, fun h9 => absurd h9 (by decide), rfl⟩
theorem zK_2n {f : Nat → Int32} {bh bu ra pk : Nat} {zz : Int64} {c h P : Nat} {q r1 p1 p2 t cnt cs sy di : Int} {fw fk : Nat → Int32} {l : Nat → Int} (hh : h / 2 = 2) (hP : q.toNat = P) (z : zOr f bh q p2 r1 sy di l fk) (hr : ¬ r1 = 0) (h3 : 0 ≤ r1 ∧ r1 ≤ 100) : zRz (zblk f bh bu ra pk zz zfx 288 (fun _ => 5) 32 c h P (zOo t cnt cs fw)) r1 p1 t cnt cs fw := by
  unfold zblk
  rw [if_neg (by omega), if_neg (by omega), if_pos hh, ← hP, if_pos (by rw [z.1]; exact fun h9 => hr (by have h10 := (iI_eq (x := -r1) (y := 0) (by omega) (by omega)).mp (h9.trans iI_0.symm); omega))]
  exact ⟨z.1, fun h9 => absurd h9 hr, rfl⟩
theorem zK_2 {f : Nat → Int32} {bh bu ra pk : Nat} {zz : Int64} {c h P : Nat} {q q2 r0 r1 p1 t cnt cs t1 cnt1 sy di : Int} {fw fw1 fk : Nat → Int32} {l : Nat → Int} (hh : h / 2 = 2) (hP : q.toNat = P) (z : zOr f bh q q2 r0 sy di l fk) (hr : r0 = 0) (w : zRz (zcoded f bh bu ra pk zz (zowR f bh q.toNat).2.2 sy.toNat (zGs (zowR f bh q.toNat).2.2 sy.toNat) (fun k => (zowR f bh q.toNat).2.2 (zns f q.toNat + k)) di.toNat (zGs (fun k => (zowR f bh q.toNat).2.2 (zns f q.toNat + k)) di.toNat) c (pk * 8 + 1) q2.toNat (zOo t cnt cs fw)) r1 p1 t1 cnt1 cs fw1) : zRz (zblk f bh bu ra pk zz zfx 288 (fun _ => 5) 32 c h P (zOo t cnt cs fw)) r1 p1 t1 cnt1 cs fw1 := by
  obtain ⟨z1, z2⟩ := z
  obtain ⟨z3, z4, z5, _⟩ := z2 hr
  rw [show sy.toNat = zns f q.toNat by omega, show di.toNat = znd f q.toNat by omega, ← z3, hP] at w
  unfold zblk
  rw [if_neg (by omega), if_neg (by omega), if_pos hh, if_neg (by rw [← hP, z1, hr]; decide)]
  exact w
set_option maxRecDepth 100000 in
theorem zm_53 : Jvm.Cond.selects "ZipGuardModel" ({ cls := "ZipGuardModel", name := "plainBlock", desc := "()V" } : Jvm.MethodName) ({ cls := "ZipGuardModel", name := "plainBlock", desc := "()V" } : Jvm.MethodName) ∈ zt := zt_mp (List.mem_of_getElem? (i := 53) rfl)
set_option maxRecDepth 100000 in
theorem zm_54 : Jvm.Cond.selects "ZipGuardModel" ({ cls := "ZipGuardModel", name := "write", desc := "(I)Z" } : Jvm.MethodName) ({ cls := "ZipGuardModel", name := "write", desc := "(I)Z" } : Jvm.MethodName) ∈ zt := zt_mp (List.mem_of_getElem? (i := 54) rfl)
set_option maxRecDepth 100000 in
theorem zm_55 : Jvm.Cond.selects "ZipGuardModel" ({ cls := "ZipGuardModel", name := "plainCodes", desc := "()V" } : Jvm.MethodName) ({ cls := "ZipGuardModel", name := "plainCodes", desc := "()V" } : Jvm.MethodName) ∈ zt := zt_mp (List.mem_of_getElem? (i := 55) rfl)
set_option maxRecDepth 100000 in
theorem zm_56 : Jvm.Cond.selects "ZipGuardModel" ({ cls := "ZipGuardModel", name := "numberBoth", desc := "()V" } : Jvm.MethodName) ({ cls := "ZipGuardModel", name := "numberBoth", desc := "()V" } : Jvm.MethodName) ∈ zt := zt_mp (List.mem_of_getElem? (i := 56) rfl)
set_option maxRecDepth 100000 in
theorem zm_57 : Jvm.Cond.selects "ZipGuardModel" ({ cls := "ZipGuardModel", name := "readCodes", desc := "()V" } : Jvm.MethodName) ({ cls := "ZipGuardModel", name := "readCodes", desc := "()V" } : Jvm.MethodName) ∈ zt := zt_mp (List.mem_of_getElem? (i := 57) rfl)
set_option maxRecDepth 100000 in
theorem zm_58 : Jvm.Cond.selects "ZipGuardModel" ({ cls := "ZipGuardModel", name := "symbol", desc := "([I[III)I" } : Jvm.MethodName) ({ cls := "ZipGuardModel", name := "symbol", desc := "([I[III)I" } : Jvm.MethodName) ∈ zt := zt_mp (List.mem_of_getElem? (i := 58) rfl)
set_option maxRecDepth 100000 in
theorem zm_59 : Jvm.Cond.selects "ZipGuardModel" ({ cls := "ZipGuardModel", name := "block", desc := "()V" } : Jvm.MethodName) ({ cls := "ZipGuardModel", name := "block", desc := "()V" } : Jvm.MethodName) ∈ zt := zt_mp (List.mem_of_getElem? (i := 59) rfl)
set_option maxRecDepth 100000 in
theorem zm_60 : Jvm.Cond.selects "ZipGuardModel" ({ cls := "ZipGuardModel", name := "lengthOf", desc := "(I)I" } : Jvm.MethodName) ({ cls := "ZipGuardModel", name := "lengthOf", desc := "(I)I" } : Jvm.MethodName) ∈ zt := zt_mp (List.mem_of_getElem? (i := 60) rfl)
set_option maxRecDepth 100000 in
theorem zm_61 : Jvm.Cond.selects "ZipGuardModel" ({ cls := "ZipGuardModel", name := "distanceOf", desc := "(I)I" } : Jvm.MethodName) ({ cls := "ZipGuardModel", name := "distanceOf", desc := "(I)I" } : Jvm.MethodName) ∈ zt := zt_mp (List.mem_of_getElem? (i := 61) rfl)
set_option maxRecDepth 100000 in
theorem zm_62 : Jvm.Cond.selects "ZipGuardModel" ({ cls := "ZipGuardModel", name := "copy", desc := "(II)V" } : Jvm.MethodName) ({ cls := "ZipGuardModel", name := "copy", desc := "(II)V" } : Jvm.MethodName) ∈ zt := zt_mp (List.mem_of_getElem? (i := 62) rfl)
set_option maxRecDepth 100000 in
theorem zm_776 : Jvm.Cond.fieldLink "ZipGuardModel" (65 : Nat) "ZipGuardModel" "lengths" "[I" ∈ zt := zt_m5 (List.mem_of_getElem? (i := 46) rfl)
set_option maxRecDepth 100000 in
theorem zm_777 : Jvm.Cond.fieldLink "ZipGuardModel" (68 : Nat) "ZipGuardModel" "small" "[I" ∈ zt := zt_m5 (List.mem_of_getElem? (i := 47) rfl)
set_option maxRecDepth 100000 in
theorem zm_778 : Jvm.Cond.fieldLink "ZipGuardModel" (71 : Nat) "ZipGuardModel" "codes" "[I" ∈ zt := zt_m5 (List.mem_of_getElem? (i := 48) rfl)
set_option maxRecDepth 100000 in
theorem zm_779 : Jvm.Cond.fieldLink "ZipGuardModel" (74 : Nat) "ZipGuardModel" "smallCodes" "[I" ∈ zt := zt_m5 (List.mem_of_getElem? (i := 49) rfl)
set_option maxRecDepth 100000 in
theorem zm_780 : Jvm.Cond.fieldLink "ZipGuardModel" (213 : Nat) "ZipGuardModel" "symbols" "I" ∈ zt := zt_m5 (List.mem_of_getElem? (i := 50) rfl)
set_option maxRecDepth 100000 in
theorem zm_781 : Jvm.Cond.fieldLink "ZipGuardModel" (216 : Nat) "ZipGuardModel" "distances" "I" ∈ zt := zt_m5 (List.mem_of_getElem? (i := 51) rfl)
set_option maxRecDepth 100000 in
theorem zm_968 : Jvm.Cond.methodLink "ZipGuardModel" (251 : Nat) ({ cls := "ZipGuardModel", name := "plainBlock", desc := "()V" } : Jvm.MethodName) ∈ zt := zt_m6 (List.mem_of_getElem? (i := 16) rfl)
set_option maxRecDepth 100000 in
theorem zm_969 : Jvm.Cond.instanceMethod ({ cls := "ZipGuardModel", name := "plainBlock", desc := "()V" } : Jvm.MethodName) ∈ zt := zt_m6 (List.mem_of_getElem? (i := 17) rfl)
set_option maxRecDepth 100000 in
theorem zm_970 : Jvm.Cond.code ({ cls := "ZipGuardModel", name := "plainBlock", desc := "()V" } : Jvm.MethodName) prog_10_method_42_code (5 : Nat) (Option.none : Option Jvm.ClassFile.FieldType) ∈ zt := zt_m6 (List.mem_of_getElem? (i := 18) rfl)
set_option maxRecDepth 100000 in
theorem zm_971 : Jvm.Cond.constant "ZipGuardModel" (250 : Nat) (65535 : Int32) ∈ zt := zt_m6 (List.mem_of_getElem? (i := 19) rfl)
set_option maxRecDepth 100000 in
theorem zm_972 : Jvm.Cond.methodLink "ZipGuardModel" (237 : Nat) ({ cls := "ZipGuardModel", name := "write", desc := "(I)Z" } : Jvm.MethodName) ∈ zt := zt_m6 (List.mem_of_getElem? (i := 20) rfl)
set_option maxRecDepth 100000 in
theorem zm_973 : Jvm.Cond.instanceMethod ({ cls := "ZipGuardModel", name := "write", desc := "(I)Z" } : Jvm.MethodName) ∈ zt := zt_m6 (List.mem_of_getElem? (i := 21) rfl)
set_option maxRecDepth 100000 in
theorem zm_974 : Jvm.Cond.code ({ cls := "ZipGuardModel", name := "write", desc := "(I)Z" } : Jvm.MethodName) prog_10_method_29_code (2 : Nat) (Option.some Jvm.ClassFile.FieldType.boolean) ∈ zt := zt_m6 (List.mem_of_getElem? (i := 22) rfl)
set_option maxRecDepth 100000 in
theorem zm_975 : Jvm.Cond.methodLink "ZipGuardModel" (254 : Nat) ({ cls := "ZipGuardModel", name := "plainCodes", desc := "()V" } : Jvm.MethodName) ∈ zt := zt_m6 (List.mem_of_getElem? (i := 23) rfl)
set_option maxRecDepth 100000 in
theorem zm_976 : Jvm.Cond.instanceMethod ({ cls := "ZipGuardModel", name := "plainCodes", desc := "()V" } : Jvm.MethodName) ∈ zt := zt_m6 (List.mem_of_getElem? (i := 24) rfl)
set_option maxRecDepth 100000 in
theorem zm_977 : Jvm.Cond.code ({ cls := "ZipGuardModel", name := "plainCodes", desc := "()V" } : Jvm.MethodName) prog_10_method_34_code (2 : Nat) (Option.none : Option Jvm.ClassFile.FieldType) ∈ zt := zt_m6 (List.mem_of_getElem? (i := 25) rfl)
set_option maxRecDepth 100000 in
theorem zm_978 : Jvm.Cond.methodLink "ZipGuardModel" (219 : Nat) ({ cls := "ZipGuardModel", name := "numberBoth", desc := "()V" } : Jvm.MethodName) ∈ zt := zt_m6 (List.mem_of_getElem? (i := 26) rfl)
set_option maxRecDepth 100000 in
theorem zm_979 : Jvm.Cond.instanceMethod ({ cls := "ZipGuardModel", name := "numberBoth", desc := "()V" } : Jvm.MethodName) ∈ zt := zt_m6 (List.mem_of_getElem? (i := 27) rfl)
set_option maxRecDepth 100000 in
theorem zm_980 : Jvm.Cond.code ({ cls := "ZipGuardModel", name := "numberBoth", desc := "()V" } : Jvm.MethodName) prog_10_method_35_code (1 : Nat) (Option.none : Option Jvm.ClassFile.FieldType) ∈ zt := zt_m6 (List.mem_of_getElem? (i := 28) rfl)
set_option maxRecDepth 100000 in
theorem zm_981 : Jvm.Cond.methodLink "ZipGuardModel" (222 : Nat) ({ cls := "ZipGuardModel", name := "number", desc := "([I[III)V" } : Jvm.MethodName) ∈ zt := zt_m6 (List.mem_of_getElem? (i := 29) rfl)
set_option maxRecDepth 100000 in
theorem zm_982 : Jvm.Cond.static ({ cls := "ZipGuardModel", name := "number", desc := "([I[III)V" } : Jvm.MethodName) ∈ zt := zt_m6 (List.mem_of_getElem? (i := 30) rfl)
set_option maxRecDepth 100000 in
theorem zm_983 : Jvm.Cond.code ({ cls := "ZipGuardModel", name := "number", desc := "([I[III)V" } : Jvm.MethodName) prog_10_method_31_code (7 : Nat) (Option.none : Option Jvm.ClassFile.FieldType) ∈ zt := zt_m6 (List.mem_of_getElem? (i := 31) rfl)
set_option maxRecDepth 100000 in
theorem zm_984 : Jvm.Cond.methodLink "ZipGuardModel" (257 : Nat) ({ cls := "ZipGuardModel", name := "readCodes", desc := "()V" } : Jvm.MethodName) ∈ zt := zt_m6 (List.mem_of_getElem? (i := 32) rfl)
set_option maxRecDepth 100000 in
theorem zm_985 : Jvm.Cond.instanceMethod ({ cls := "ZipGuardModel", name := "readCodes", desc := "()V" } : Jvm.MethodName) ∈ zt := zt_m6 (List.mem_of_getElem? (i := 33) rfl)
set_option maxRecDepth 100000 in
theorem zm_986 : Jvm.Cond.code ({ cls := "ZipGuardModel", name := "readCodes", desc := "()V" } : Jvm.MethodName) prog_10_method_37_code (8 : Nat) (Option.none : Option Jvm.ClassFile.FieldType) ∈ zt := zt_m6 (List.mem_of_getElem? (i := 34) rfl)
set_option maxRecDepth 100000 in
theorem zm_987 : Jvm.Cond.methodLink "ZipGuardModel" (226 : Nat) ({ cls := "ZipGuardModel", name := "smallOf", desc := "(I)I" } : Jvm.MethodName) ∈ zt := zt_m6 (List.mem_of_getElem? (i := 35) rfl)
set_option maxRecDepth 100000 in
theorem zm_988 : Jvm.Cond.static ({ cls := "ZipGuardModel", name := "smallOf", desc := "(I)I" } : Jvm.MethodName) ∈ zt := zt_m6 (List.mem_of_getElem? (i := 36) rfl)
set_option maxRecDepth 100000 in
theorem zm_989 : Jvm.Cond.code ({ cls := "ZipGuardModel", name := "smallOf", desc := "(I)I" } : Jvm.MethodName) prog_10_method_36_code (2 : Nat) (Option.some Jvm.ClassFile.FieldType.int) ∈ zt := zt_m6 (List.mem_of_getElem? (i := 37) rfl)
set_option maxRecDepth 100000 in
theorem zm_990 : Jvm.Cond.methodLink "ZipGuardModel" (229 : Nat) ({ cls := "ZipGuardModel", name := "isRight", desc := "([IIIZ)Z" } : Jvm.MethodName) ∈ zt := zt_m6 (List.mem_of_getElem? (i := 38) rfl)
set_option maxRecDepth 100000 in
theorem zm_991 : Jvm.Cond.static ({ cls := "ZipGuardModel", name := "isRight", desc := "([IIIZ)Z" } : Jvm.MethodName) ∈ zt := zt_m6 (List.mem_of_getElem? (i := 39) rfl)
set_option maxRecDepth 100000 in
theorem zm_992 : Jvm.Cond.code ({ cls := "ZipGuardModel", name := "isRight", desc := "([IIIZ)Z" } : Jvm.MethodName) prog_10_method_33_code (10 : Nat) (Option.some Jvm.ClassFile.FieldType.boolean) ∈ zt := zt_m6 (List.mem_of_getElem? (i := 40) rfl)
set_option maxRecDepth 100000 in
theorem zm_994 : Jvm.Cond.methodLink "ZipGuardModel" (233 : Nat) ({ cls := "ZipGuardModel", name := "symbol", desc := "([I[III)I" } : Jvm.MethodName) ∈ zt := zt_m6 (List.mem_of_getElem? (i := 42) rfl)
set_option maxRecDepth 100000 in
theorem zm_995 : Jvm.Cond.instanceMethod ({ cls := "ZipGuardModel", name := "symbol", desc := "([I[III)I" } : Jvm.MethodName) ∈ zt := zt_m6 (List.mem_of_getElem? (i := 43) rfl)
set_option maxRecDepth 100000 in
theorem zm_996 : Jvm.Cond.code ({ cls := "ZipGuardModel", name := "symbol", desc := "([I[III)I" } : Jvm.MethodName) prog_10_method_32_code (10 : Nat) (Option.some Jvm.ClassFile.FieldType.int) ∈ zt := zt_m6 (List.mem_of_getElem? (i := 44) rfl)
set_option maxRecDepth 100000 in
theorem zm_997 : Jvm.Cond.methodLink "ZipGuardModel" (260 : Nat) ({ cls := "ZipGuardModel", name := "block", desc := "()V" } : Jvm.MethodName) ∈ zt := zt_m6 (List.mem_of_getElem? (i := 45) rfl)
set_option maxRecDepth 100000 in
theorem zm_998 : Jvm.Cond.instanceMethod ({ cls := "ZipGuardModel", name := "block", desc := "()V" } : Jvm.MethodName) ∈ zt := zt_m6 (List.mem_of_getElem? (i := 46) rfl)
set_option maxRecDepth 100000 in
theorem zm_999 : Jvm.Cond.code ({ cls := "ZipGuardModel", name := "block", desc := "()V" } : Jvm.MethodName) prog_10_method_41_code (6 : Nat) (Option.none : Option Jvm.ClassFile.FieldType) ∈ zt := zt_m6 (List.mem_of_getElem? (i := 47) rfl)
set_option maxRecDepth 100000 in
theorem zm_1000 : Jvm.Cond.methodLink "ZipGuardModel" (240 : Nat) ({ cls := "ZipGuardModel", name := "lengthOf", desc := "(I)I" } : Jvm.MethodName) ∈ zt := zt_m6 (List.mem_of_getElem? (i := 48) rfl)
set_option maxRecDepth 100000 in
theorem zm_1001 : Jvm.Cond.instanceMethod ({ cls := "ZipGuardModel", name := "lengthOf", desc := "(I)I" } : Jvm.MethodName) ∈ zt := zt_m6 (List.mem_of_getElem? (i := 49) rfl)
set_option maxRecDepth 100000 in
theorem zm_1002 : Jvm.Cond.code ({ cls := "ZipGuardModel", name := "lengthOf", desc := "(I)I" } : Jvm.MethodName) prog_10_method_38_code (4 : Nat) (Option.some Jvm.ClassFile.FieldType.int) ∈ zt := zt_m6 (List.mem_of_getElem? (i := 50) rfl)
set_option maxRecDepth 100000 in
theorem zm_1003 : Jvm.Cond.methodLink "ZipGuardModel" (243 : Nat) ({ cls := "ZipGuardModel", name := "distanceOf", desc := "(I)I" } : Jvm.MethodName) ∈ zt := zt_m6 (List.mem_of_getElem? (i := 51) rfl)
set_option maxRecDepth 100000 in
theorem zm_1004 : Jvm.Cond.instanceMethod ({ cls := "ZipGuardModel", name := "distanceOf", desc := "(I)I" } : Jvm.MethodName) ∈ zt := zt_m6 (List.mem_of_getElem? (i := 52) rfl)
set_option maxRecDepth 100000 in
theorem zm_1005 : Jvm.Cond.code ({ cls := "ZipGuardModel", name := "distanceOf", desc := "(I)I" } : Jvm.MethodName) prog_10_method_39_code (3 : Nat) (Option.some Jvm.ClassFile.FieldType.int) ∈ zt := zt_m6 (List.mem_of_getElem? (i := 53) rfl)
set_option maxRecDepth 100000 in
theorem zm_1006 : Jvm.Cond.methodLink "ZipGuardModel" (246 : Nat) ({ cls := "ZipGuardModel", name := "copy", desc := "(II)V" } : Jvm.MethodName) ∈ zt := zt_m6 (List.mem_of_getElem? (i := 54) rfl)
set_option maxRecDepth 100000 in
theorem zm_1007 : Jvm.Cond.instanceMethod ({ cls := "ZipGuardModel", name := "copy", desc := "(II)V" } : Jvm.MethodName) ∈ zt := zt_m6 (List.mem_of_getElem? (i := 55) rfl)
set_option maxRecDepth 100000 in
theorem zm_1008 : Jvm.Cond.code ({ cls := "ZipGuardModel", name := "copy", desc := "(II)V" } : Jvm.MethodName) prog_10_method_40_code (4 : Nat) (Option.none : Option Jvm.ClassFile.FieldType) ∈ zt := zt_m6 (List.mem_of_getElem? (i := 56) rfl)
theorem d_M_block_0 : decode prog_10_method_41_code 0 = .ok (.iconst 1, 1) := by decide +kernel
theorem d_M_block_1 : decode prog_10_method_41_code 1 = .ok (.istore_n 1, 1) := by decide +kernel
theorem d_M_block_2 : decode prog_10_method_41_code 2 = .ok (.iload_n 1, 1) := by decide +kernel
theorem d_M_block_3 : decode prog_10_method_41_code 3 = .ok (.ifCond .eq 169, 3) := by decide +kernel
theorem d_M_block_6 : decode prog_10_method_41_code 6 = .ok (.aload_n 0, 1) := by decide +kernel
theorem d_M_block_7 : decode prog_10_method_41_code 7 = .ok (.getfield 196, 3) := by decide +kernel
theorem d_M_block_10 : decode prog_10_method_41_code 10 = .ok (.ifCond .ne 162, 3) := by decide +kernel
theorem d_M_block_13 : decode prog_10_method_41_code 13 = .ok (.aload_n 0, 1) := by decide +kernel
theorem d_M_block_14 : decode prog_10_method_41_code 14 = .ok (.aload_n 0, 1) := by decide +kernel
theorem d_M_block_15 : decode prog_10_method_41_code 15 = .ok (.getfield 65, 3) := by decide +kernel
theorem d_M_block_18 : decode prog_10_method_41_code 18 = .ok (.aload_n 0, 1) := by decide +kernel
theorem d_M_block_19 : decode prog_10_method_41_code 19 = .ok (.getfield 71, 3) := by decide +kernel
theorem d_M_block_22 : decode prog_10_method_41_code 22 = .ok (.iconst 0, 1) := by decide +kernel
theorem d_M_block_23 : decode prog_10_method_41_code 23 = .ok (.aload_n 0, 1) := by decide +kernel
theorem d_M_block_24 : decode prog_10_method_41_code 24 = .ok (.getfield 213, 3) := by decide +kernel
theorem d_M_block_27 : decode prog_10_method_41_code 27 = .ok (.invokevirtual 233, 3) := by decide +kernel
theorem d_M_block_30 : decode prog_10_method_41_code 30 = .ok (.istore_n 2, 1) := by decide +kernel
theorem d_M_block_31 : decode prog_10_method_41_code 31 = .ok (.aload_n 0, 1) := by decide +kernel
theorem d_M_block_32 : decode prog_10_method_41_code 32 = .ok (.getfield 196, 3) := by decide +kernel
theorem d_M_block_35 : decode prog_10_method_41_code 35 = .ok (.ifCond .eq 4, 3) := by decide +kernel
theorem d_M_block_38 : decode prog_10_method_41_code 38 = .ok (.return_, 1) := by decide +kernel
theorem d_M_block_39 : decode prog_10_method_41_code 39 = .ok (.iload_n 2, 1) := by decide +kernel
theorem d_M_block_40 : decode prog_10_method_41_code 40 = .ok (.sipush 256, 3) := by decide +kernel
theorem d_M_block_43 : decode prog_10_method_41_code 43 = .ok (.if_icmp .ge 12, 3) := by decide +kernel
theorem d_M_block_46 : decode prog_10_method_41_code 46 = .ok (.aload_n 0, 1) := by decide +kernel
theorem d_M_block_47 : decode prog_10_method_41_code 47 = .ok (.iload_n 2, 1) := by decide +kernel
theorem d_M_block_48 : decode prog_10_method_41_code 48 = .ok (.invokevirtual 237, 3) := by decide +kernel
theorem d_M_block_51 : decode prog_10_method_41_code 51 = .ok (.pop, 1) := by decide +kernel
theorem d_M_block_52 : decode prog_10_method_41_code 52 = .ok (.goto (-50), 3) := by decide +kernel
theorem d_M_block_55 : decode prog_10_method_41_code 55 = .ok (.iload_n 2, 1) := by decide +kernel
theorem d_M_block_56 : decode prog_10_method_41_code 56 = .ok (.sipush 256, 3) := by decide +kernel
theorem d_M_block_59 : decode prog_10_method_41_code 59 = .ok (.if_icmp .le 7, 3) := by decide +kernel
theorem d_M_block_62 : decode prog_10_method_41_code 62 = .ok (.iconst 1, 1) := by decide +kernel
theorem d_M_block_63 : decode prog_10_method_41_code 63 = .ok (.goto 4, 3) := by decide +kernel
theorem d_M_block_66 : decode prog_10_method_41_code 66 = .ok (.iconst 0, 1) := by decide +kernel
theorem d_M_block_67 : decode prog_10_method_41_code 67 = .ok (.istore_n 1, 1) := by decide +kernel
theorem d_M_block_68 : decode prog_10_method_41_code 68 = .ok (.iload_n 1, 1) := by decide +kernel
theorem d_M_block_69 : decode prog_10_method_41_code 69 = .ok (.ifCond .ne 4, 3) := by decide +kernel
theorem d_M_block_72 : decode prog_10_method_41_code 72 = .ok (.return_, 1) := by decide +kernel
theorem d_M_block_73 : decode prog_10_method_41_code 73 = .ok (.iload_n 2, 1) := by decide +kernel
theorem d_M_block_74 : decode prog_10_method_41_code 74 = .ok (.sipush 285, 3) := by decide +kernel
theorem d_M_block_77 : decode prog_10_method_41_code 77 = .ok (.if_icmp .le 11, 3) := by decide +kernel
theorem d_M_block_80 : decode prog_10_method_41_code 80 = .ok (.aload_n 0, 1) := by decide +kernel
theorem d_M_block_81 : decode prog_10_method_41_code 81 = .ok (.bipush 35, 2) := by decide +kernel
theorem d_M_block_83 : decode prog_10_method_41_code 83 = .ok (.invokevirtual 202, 3) := by decide +kernel
theorem d_M_block_86 : decode prog_10_method_41_code 86 = .ok (.pop, 1) := by decide +kernel
theorem d_M_block_87 : decode prog_10_method_41_code 87 = .ok (.return_, 1) := by decide +kernel
theorem d_M_block_88 : decode prog_10_method_41_code 88 = .ok (.aload_n 0, 1) := by decide +kernel
theorem d_M_block_89 : decode prog_10_method_41_code 89 = .ok (.iload_n 2, 1) := by decide +kernel
theorem d_M_block_90 : decode prog_10_method_41_code 90 = .ok (.invokevirtual 240, 3) := by decide +kernel
theorem d_M_block_93 : decode prog_10_method_41_code 93 = .ok (.istore_n 3, 1) := by decide +kernel
theorem d_M_block_94 : decode prog_10_method_41_code 94 = .ok (.aload_n 0, 1) := by decide +kernel
theorem d_M_block_95 : decode prog_10_method_41_code 95 = .ok (.getfield 196, 3) := by decide +kernel
theorem d_M_block_98 : decode prog_10_method_41_code 98 = .ok (.ifCond .eq 4, 3) := by decide +kernel
theorem d_M_block_101 : decode prog_10_method_41_code 101 = .ok (.return_, 1) := by decide +kernel
theorem d_M_block_102 : decode prog_10_method_41_code 102 = .ok (.aload_n 0, 1) := by decide +kernel
theorem d_M_block_103 : decode prog_10_method_41_code 103 = .ok (.aload_n 0, 1) := by decide +kernel
theorem d_M_block_104 : decode prog_10_method_41_code 104 = .ok (.getfield 65, 3) := by decide +kernel
theorem d_M_block_107 : decode prog_10_method_41_code 107 = .ok (.aload_n 0, 1) := by decide +kernel
theorem d_M_block_108 : decode prog_10_method_41_code 108 = .ok (.getfield 71, 3) := by decide +kernel
theorem d_M_block_111 : decode prog_10_method_41_code 111 = .ok (.aload_n 0, 1) := by decide +kernel
theorem d_M_block_112 : decode prog_10_method_41_code 112 = .ok (.getfield 213, 3) := by decide +kernel
theorem d_M_block_115 : decode prog_10_method_41_code 115 = .ok (.aload_n 0, 1) := by decide +kernel
theorem d_M_block_116 : decode prog_10_method_41_code 116 = .ok (.getfield 216, 3) := by decide +kernel
theorem d_M_block_119 : decode prog_10_method_41_code 119 = .ok (.invokevirtual 233, 3) := by decide +kernel
theorem d_M_block_122 : decode prog_10_method_41_code 122 = .ok (.istore 4, 2) := by decide +kernel
theorem d_M_block_124 : decode prog_10_method_41_code 124 = .ok (.aload_n 0, 1) := by decide +kernel
theorem d_M_block_125 : decode prog_10_method_41_code 125 = .ok (.getfield 196, 3) := by decide +kernel
theorem d_M_block_128 : decode prog_10_method_41_code 128 = .ok (.ifCond .eq 4, 3) := by decide +kernel
theorem d_M_block_131 : decode prog_10_method_41_code 131 = .ok (.return_, 1) := by decide +kernel
theorem d_M_block_132 : decode prog_10_method_41_code 132 = .ok (.iload 4, 2) := by decide +kernel
theorem d_M_block_134 : decode prog_10_method_41_code 134 = .ok (.bipush 29, 2) := by decide +kernel
theorem d_M_block_136 : decode prog_10_method_41_code 136 = .ok (.if_icmp .le 11, 3) := by decide +kernel
theorem d_M_block_139 : decode prog_10_method_41_code 139 = .ok (.aload_n 0, 1) := by decide +kernel
theorem d_M_block_140 : decode prog_10_method_41_code 140 = .ok (.bipush 35, 2) := by decide +kernel
theorem d_M_block_142 : decode prog_10_method_41_code 142 = .ok (.invokevirtual 202, 3) := by decide +kernel
theorem d_M_block_145 : decode prog_10_method_41_code 145 = .ok (.pop, 1) := by decide +kernel
theorem d_M_block_146 : decode prog_10_method_41_code 146 = .ok (.return_, 1) := by decide +kernel
theorem d_M_block_147 : decode prog_10_method_41_code 147 = .ok (.aload_n 0, 1) := by decide +kernel
theorem d_M_block_148 : decode prog_10_method_41_code 148 = .ok (.iload 4, 2) := by decide +kernel
theorem d_M_block_150 : decode prog_10_method_41_code 150 = .ok (.invokevirtual 243, 3) := by decide +kernel
theorem d_M_block_153 : decode prog_10_method_41_code 153 = .ok (.istore 5, 2) := by decide +kernel
theorem d_M_block_155 : decode prog_10_method_41_code 155 = .ok (.aload_n 0, 1) := by decide +kernel
theorem d_M_block_156 : decode prog_10_method_41_code 156 = .ok (.getfield 196, 3) := by decide +kernel
theorem d_M_block_159 : decode prog_10_method_41_code 159 = .ok (.ifCond .ne 10, 3) := by decide +kernel
theorem d_M_block_162 : decode prog_10_method_41_code 162 = .ok (.aload_n 0, 1) := by decide +kernel
theorem d_M_block_163 : decode prog_10_method_41_code 163 = .ok (.iload_n 3, 1) := by decide +kernel
theorem d_M_block_164 : decode prog_10_method_41_code 164 = .ok (.iload 5, 2) := by decide +kernel
theorem d_M_block_166 : decode prog_10_method_41_code 166 = .ok (.invokevirtual 246, 3) := by decide +kernel
theorem d_M_block_169 : decode prog_10_method_41_code 169 = .ok (.goto (-167), 3) := by decide +kernel
theorem d_M_block_172 : decode prog_10_method_41_code 172 = .ok (.return_, 1) := by decide +kernel
theorem d_M_copy_0 : decode prog_10_method_40_code 0 = .ok (.iload_n 2, 1) := by decide +kernel
theorem d_M_copy_1 : decode prog_10_method_40_code 1 = .ok (.aload_n 0, 1) := by decide +kernel
theorem d_M_copy_2 : decode prog_10_method_40_code 2 = .ok (.getfield 58, 3) := by decide +kernel
theorem d_M_copy_5 : decode prog_10_method_40_code 5 = .ok (.aload_n 0, 1) := by decide +kernel
theorem d_M_copy_6 : decode prog_10_method_40_code 6 = .ok (.getfield 199, 3) := by decide +kernel
theorem d_M_copy_9 : decode prog_10_method_40_code 9 = .ok (.iaload, 1) := by decide +kernel
theorem d_M_copy_10 : decode prog_10_method_40_code 10 = .ok (.if_icmp .le 11, 3) := by decide +kernel
theorem d_M_copy_13 : decode prog_10_method_40_code 13 = .ok (.aload_n 0, 1) := by decide +kernel
theorem d_M_copy_14 : decode prog_10_method_40_code 14 = .ok (.bipush 36, 2) := by decide +kernel
theorem d_M_copy_16 : decode prog_10_method_40_code 16 = .ok (.invokevirtual 202, 3) := by decide +kernel
theorem d_M_copy_19 : decode prog_10_method_40_code 19 = .ok (.pop, 1) := by decide +kernel
theorem d_M_copy_20 : decode prog_10_method_40_code 20 = .ok (.return_, 1) := by decide +kernel
theorem d_M_copy_21 : decode prog_10_method_40_code 21 = .ok (.iconst 0, 1) := by decide +kernel
theorem d_M_copy_22 : decode prog_10_method_40_code 22 = .ok (.istore_n 3, 1) := by decide +kernel
theorem d_M_copy_23 : decode prog_10_method_40_code 23 = .ok (.iload_n 3, 1) := by decide +kernel
theorem d_M_copy_24 : decode prog_10_method_40_code 24 = .ok (.iload_n 1, 1) := by decide +kernel
theorem d_M_copy_25 : decode prog_10_method_40_code 25 = .ok (.if_icmp .ge 32, 3) := by decide +kernel
theorem d_M_copy_28 : decode prog_10_method_40_code 28 = .ok (.aload_n 0, 1) := by decide +kernel
theorem d_M_copy_29 : decode prog_10_method_40_code 29 = .ok (.getfield 196, 3) := by decide +kernel
theorem d_M_copy_32 : decode prog_10_method_40_code 32 = .ok (.ifCond .ne 25, 3) := by decide +kernel
theorem d_M_copy_35 : decode prog_10_method_40_code 35 = .ok (.aload_n 0, 1) := by decide +kernel
theorem d_M_copy_36 : decode prog_10_method_40_code 36 = .ok (.aload_n 0, 1) := by decide +kernel
theorem d_M_copy_37 : decode prog_10_method_40_code 37 = .ok (.getfield 62, 3) := by decide +kernel
theorem d_M_copy_40 : decode prog_10_method_40_code 40 = .ok (.aload_n 0, 1) := by decide +kernel
theorem d_M_copy_41 : decode prog_10_method_40_code 41 = .ok (.getfield 87, 3) := by decide +kernel
theorem d_M_copy_44 : decode prog_10_method_40_code 44 = .ok (.iload_n 2, 1) := by decide +kernel
theorem d_M_copy_45 : decode prog_10_method_40_code 45 = .ok (.isub, 1) := by decide +kernel
theorem d_M_copy_46 : decode prog_10_method_40_code 46 = .ok (.baload, 1) := by decide +kernel
theorem d_M_copy_47 : decode prog_10_method_40_code 47 = .ok (.invokevirtual 237, 3) := by decide +kernel
theorem d_M_copy_50 : decode prog_10_method_40_code 50 = .ok (.pop, 1) := by decide +kernel
theorem d_M_copy_51 : decode prog_10_method_40_code 51 = .ok (.iinc 3 1, 3) := by decide +kernel
theorem d_M_copy_54 : decode prog_10_method_40_code 54 = .ok (.goto (-31), 3) := by decide +kernel
theorem d_M_copy_57 : decode prog_10_method_40_code 57 = .ok (.return_, 1) := by decide +kernel
theorem d_M_distanceOf_0 : decode prog_10_method_39_code 0 = .ok (.iload_n 1, 1) := by decide +kernel
theorem d_M_distanceOf_1 : decode prog_10_method_39_code 1 = .ok (.iconst 4, 1) := by decide +kernel
theorem d_M_distanceOf_2 : decode prog_10_method_39_code 2 = .ok (.if_icmp .ge 7, 3) := by decide +kernel
theorem d_M_distanceOf_5 : decode prog_10_method_39_code 5 = .ok (.iconst 1, 1) := by decide +kernel
theorem d_M_distanceOf_6 : decode prog_10_method_39_code 6 = .ok (.iload_n 1, 1) := by decide +kernel
theorem d_M_distanceOf_7 : decode prog_10_method_39_code 7 = .ok (.iadd, 1) := by decide +kernel
theorem d_M_distanceOf_8 : decode prog_10_method_39_code 8 = .ok (.ireturn, 1) := by decide +kernel
theorem d_M_distanceOf_9 : decode prog_10_method_39_code 9 = .ok (.iload_n 1, 1) := by decide +kernel
theorem d_M_distanceOf_10 : decode prog_10_method_39_code 10 = .ok (.iconst 2, 1) := by decide +kernel
theorem d_M_distanceOf_11 : decode prog_10_method_39_code 11 = .ok (.idiv, 1) := by decide +kernel
theorem d_M_distanceOf_12 : decode prog_10_method_39_code 12 = .ok (.iconst 1, 1) := by decide +kernel
theorem d_M_distanceOf_13 : decode prog_10_method_39_code 13 = .ok (.isub, 1) := by decide +kernel
theorem d_M_distanceOf_14 : decode prog_10_method_39_code 14 = .ok (.istore_n 2, 1) := by decide +kernel
theorem d_M_distanceOf_15 : decode prog_10_method_39_code 15 = .ok (.iconst 1, 1) := by decide +kernel
theorem d_M_distanceOf_16 : decode prog_10_method_39_code 16 = .ok (.iconst 2, 1) := by decide +kernel
theorem d_M_distanceOf_17 : decode prog_10_method_39_code 17 = .ok (.iload_n 1, 1) := by decide +kernel
theorem d_M_distanceOf_18 : decode prog_10_method_39_code 18 = .ok (.iconst 2, 1) := by decide +kernel
theorem d_M_distanceOf_19 : decode prog_10_method_39_code 19 = .ok (.irem, 1) := by decide +kernel
theorem d_M_distanceOf_20 : decode prog_10_method_39_code 20 = .ok (.iadd, 1) := by decide +kernel
theorem d_M_distanceOf_21 : decode prog_10_method_39_code 21 = .ok (.iload_n 2, 1) := by decide +kernel
theorem d_M_distanceOf_22 : decode prog_10_method_39_code 22 = .ok (.ishl, 1) := by decide +kernel
theorem d_M_distanceOf_23 : decode prog_10_method_39_code 23 = .ok (.iadd, 1) := by decide +kernel
theorem d_M_distanceOf_24 : decode prog_10_method_39_code 24 = .ok (.aload_n 0, 1) := by decide +kernel
theorem d_M_distanceOf_25 : decode prog_10_method_39_code 25 = .ok (.iload_n 2, 1) := by decide +kernel
theorem d_M_distanceOf_26 : decode prog_10_method_39_code 26 = .ok (.invokevirtual 208, 3) := by decide +kernel
theorem d_M_distanceOf_29 : decode prog_10_method_39_code 29 = .ok (.iadd, 1) := by decide +kernel
theorem d_M_distanceOf_30 : decode prog_10_method_39_code 30 = .ok (.ireturn, 1) := by decide +kernel
theorem d_M_inflate_0 : decode prog_10_method_43_code 0 = .ok (.iconst 0, 1) := by decide +kernel
theorem d_M_inflate_1 : decode prog_10_method_43_code 1 = .ok (.istore_n 1, 1) := by decide +kernel
theorem d_M_inflate_2 : decode prog_10_method_43_code 2 = .ok (.iload_n 1, 1) := by decide +kernel
theorem d_M_inflate_3 : decode prog_10_method_43_code 3 = .ok (.ifCond .ne 95, 3) := by decide +kernel
theorem d_M_inflate_6 : decode prog_10_method_43_code 6 = .ok (.aload_n 0, 1) := by decide +kernel
theorem d_M_inflate_7 : decode prog_10_method_43_code 7 = .ok (.getfield 196, 3) := by decide +kernel
theorem d_M_inflate_10 : decode prog_10_method_43_code 10 = .ok (.ifCond .ne 88, 3) := by decide +kernel
theorem d_M_inflate_13 : decode prog_10_method_43_code 13 = .ok (.aload_n 0, 1) := by decide +kernel
theorem d_M_inflate_14 : decode prog_10_method_43_code 14 = .ok (.iconst 1, 1) := by decide +kernel
theorem d_M_inflate_15 : decode prog_10_method_43_code 15 = .ok (.invokevirtual 208, 3) := by decide +kernel
theorem d_M_inflate_18 : decode prog_10_method_43_code 18 = .ok (.iconst 1, 1) := by decide +kernel
theorem d_M_inflate_19 : decode prog_10_method_43_code 19 = .ok (.if_icmp .ne 7, 3) := by decide +kernel
theorem d_M_inflate_22 : decode prog_10_method_43_code 22 = .ok (.iconst 1, 1) := by decide +kernel
theorem d_M_inflate_23 : decode prog_10_method_43_code 23 = .ok (.goto 4, 3) := by decide +kernel
theorem d_M_inflate_26 : decode prog_10_method_43_code 26 = .ok (.iconst 0, 1) := by decide +kernel
theorem d_M_inflate_27 : decode prog_10_method_43_code 27 = .ok (.istore_n 1, 1) := by decide +kernel
theorem d_M_inflate_28 : decode prog_10_method_43_code 28 = .ok (.aload_n 0, 1) := by decide +kernel
theorem d_M_inflate_29 : decode prog_10_method_43_code 29 = .ok (.iconst 2, 1) := by decide +kernel
theorem d_M_inflate_30 : decode prog_10_method_43_code 30 = .ok (.invokevirtual 208, 3) := by decide +kernel
theorem d_M_inflate_33 : decode prog_10_method_43_code 33 = .ok (.istore_n 2, 1) := by decide +kernel
theorem d_M_inflate_34 : decode prog_10_method_43_code 34 = .ok (.aload_n 0, 1) := by decide +kernel
theorem d_M_inflate_35 : decode prog_10_method_43_code 35 = .ok (.getfield 196, 3) := by decide +kernel
theorem d_M_inflate_38 : decode prog_10_method_43_code 38 = .ok (.ifCond .eq 4, 3) := by decide +kernel
theorem d_M_inflate_41 : decode prog_10_method_43_code 41 = .ok (.return_, 1) := by decide +kernel
theorem d_M_inflate_42 : decode prog_10_method_43_code 42 = .ok (.iload_n 2, 1) := by decide +kernel
theorem d_M_inflate_43 : decode prog_10_method_43_code 43 = .ok (.ifCond .ne 10, 3) := by decide +kernel
theorem d_M_inflate_46 : decode prog_10_method_43_code 46 = .ok (.aload_n 0, 1) := by decide +kernel
theorem d_M_inflate_47 : decode prog_10_method_43_code 47 = .ok (.invokevirtual 251, 3) := by decide +kernel
theorem d_M_inflate_50 : decode prog_10_method_43_code 50 = .ok (.goto 45, 3) := by decide +kernel
theorem d_M_inflate_53 : decode prog_10_method_43_code 53 = .ok (.iload_n 2, 1) := by decide +kernel
theorem d_M_inflate_54 : decode prog_10_method_43_code 54 = .ok (.iconst 3, 1) := by decide +kernel
theorem d_M_inflate_55 : decode prog_10_method_43_code 55 = .ok (.if_icmp .ne 13, 3) := by decide +kernel
theorem d_M_inflate_58 : decode prog_10_method_43_code 58 = .ok (.aload_n 0, 1) := by decide +kernel
theorem d_M_inflate_59 : decode prog_10_method_43_code 59 = .ok (.bipush 37, 2) := by decide +kernel
theorem d_M_inflate_61 : decode prog_10_method_43_code 61 = .ok (.invokevirtual 202, 3) := by decide +kernel
theorem d_M_inflate_64 : decode prog_10_method_43_code 64 = .ok (.pop, 1) := by decide +kernel
theorem d_M_inflate_65 : decode prog_10_method_43_code 65 = .ok (.goto 30, 3) := by decide +kernel
theorem d_M_inflate_68 : decode prog_10_method_43_code 68 = .ok (.iload_n 2, 1) := by decide +kernel
theorem d_M_inflate_69 : decode prog_10_method_43_code 69 = .ok (.iconst 1, 1) := by decide +kernel
theorem d_M_inflate_70 : decode prog_10_method_43_code 70 = .ok (.if_icmp .ne 10, 3) := by decide +kernel
theorem d_M_inflate_73 : decode prog_10_method_43_code 73 = .ok (.aload_n 0, 1) := by decide +kernel
theorem d_M_inflate_74 : decode prog_10_method_43_code 74 = .ok (.invokevirtual 254, 3) := by decide +kernel
theorem d_M_inflate_77 : decode prog_10_method_43_code 77 = .ok (.goto 7, 3) := by decide +kernel
theorem d_M_inflate_80 : decode prog_10_method_43_code 80 = .ok (.aload_n 0, 1) := by decide +kernel
theorem d_M_inflate_81 : decode prog_10_method_43_code 81 = .ok (.invokevirtual 257, 3) := by decide +kernel
theorem d_M_inflate_84 : decode prog_10_method_43_code 84 = .ok (.aload_n 0, 1) := by decide +kernel
theorem d_M_inflate_85 : decode prog_10_method_43_code 85 = .ok (.getfield 196, 3) := by decide +kernel
theorem d_M_inflate_88 : decode prog_10_method_43_code 88 = .ok (.ifCond .ne 7, 3) := by decide +kernel
theorem d_M_inflate_91 : decode prog_10_method_43_code 91 = .ok (.aload_n 0, 1) := by decide +kernel
theorem d_M_inflate_92 : decode prog_10_method_43_code 92 = .ok (.invokevirtual 260, 3) := by decide +kernel
theorem d_M_inflate_95 : decode prog_10_method_43_code 95 = .ok (.goto (-93), 3) := by decide +kernel
theorem d_M_inflate_98 : decode prog_10_method_43_code 98 = .ok (.return_, 1) := by decide +kernel
theorem d_M_lengthOf_0 : decode prog_10_method_38_code 0 = .ok (.iload_n 1, 1) := by decide +kernel
theorem d_M_lengthOf_1 : decode prog_10_method_38_code 1 = .ok (.sipush 285, 3) := by decide +kernel
theorem d_M_lengthOf_4 : decode prog_10_method_38_code 4 = .ok (.if_icmp .ne 7, 3) := by decide +kernel
theorem d_M_lengthOf_7 : decode prog_10_method_38_code 7 = .ok (.sipush 258, 3) := by decide +kernel
theorem d_M_lengthOf_10 : decode prog_10_method_38_code 10 = .ok (.ireturn, 1) := by decide +kernel
theorem d_M_lengthOf_11 : decode prog_10_method_38_code 11 = .ok (.iload_n 1, 1) := by decide +kernel
theorem d_M_lengthOf_12 : decode prog_10_method_38_code 12 = .ok (.sipush 257, 3) := by decide +kernel
theorem d_M_lengthOf_15 : decode prog_10_method_38_code 15 = .ok (.isub, 1) := by decide +kernel
theorem d_M_lengthOf_16 : decode prog_10_method_38_code 16 = .ok (.istore_n 2, 1) := by decide +kernel
theorem d_M_lengthOf_17 : decode prog_10_method_38_code 17 = .ok (.iload_n 2, 1) := by decide +kernel
theorem d_M_lengthOf_18 : decode prog_10_method_38_code 18 = .ok (.bipush 8, 2) := by decide +kernel
theorem d_M_lengthOf_20 : decode prog_10_method_38_code 20 = .ok (.if_icmp .ge 7, 3) := by decide +kernel
theorem d_M_lengthOf_23 : decode prog_10_method_38_code 23 = .ok (.iconst 3, 1) := by decide +kernel
theorem d_M_lengthOf_24 : decode prog_10_method_38_code 24 = .ok (.iload_n 2, 1) := by decide +kernel
theorem d_M_lengthOf_25 : decode prog_10_method_38_code 25 = .ok (.iadd, 1) := by decide +kernel
theorem d_M_lengthOf_26 : decode prog_10_method_38_code 26 = .ok (.ireturn, 1) := by decide +kernel
theorem d_M_lengthOf_27 : decode prog_10_method_38_code 27 = .ok (.iload_n 2, 1) := by decide +kernel
theorem d_M_lengthOf_28 : decode prog_10_method_38_code 28 = .ok (.iconst 4, 1) := by decide +kernel
theorem d_M_lengthOf_29 : decode prog_10_method_38_code 29 = .ok (.idiv, 1) := by decide +kernel
theorem d_M_lengthOf_30 : decode prog_10_method_38_code 30 = .ok (.iconst 1, 1) := by decide +kernel
theorem d_M_lengthOf_31 : decode prog_10_method_38_code 31 = .ok (.isub, 1) := by decide +kernel
theorem d_M_lengthOf_32 : decode prog_10_method_38_code 32 = .ok (.istore_n 3, 1) := by decide +kernel
theorem d_M_lengthOf_33 : decode prog_10_method_38_code 33 = .ok (.iconst 3, 1) := by decide +kernel
theorem d_M_lengthOf_34 : decode prog_10_method_38_code 34 = .ok (.iconst 4, 1) := by decide +kernel
theorem d_M_lengthOf_35 : decode prog_10_method_38_code 35 = .ok (.iload_n 2, 1) := by decide +kernel
theorem d_M_lengthOf_36 : decode prog_10_method_38_code 36 = .ok (.iconst 4, 1) := by decide +kernel
theorem d_M_lengthOf_37 : decode prog_10_method_38_code 37 = .ok (.irem, 1) := by decide +kernel
theorem d_M_lengthOf_38 : decode prog_10_method_38_code 38 = .ok (.iadd, 1) := by decide +kernel
theorem d_M_lengthOf_39 : decode prog_10_method_38_code 39 = .ok (.iload_n 3, 1) := by decide +kernel
theorem d_M_lengthOf_40 : decode prog_10_method_38_code 40 = .ok (.ishl, 1) := by decide +kernel
theorem d_M_lengthOf_41 : decode prog_10_method_38_code 41 = .ok (.iadd, 1) := by decide +kernel
theorem d_M_lengthOf_42 : decode prog_10_method_38_code 42 = .ok (.aload_n 0, 1) := by decide +kernel
theorem d_M_lengthOf_43 : decode prog_10_method_38_code 43 = .ok (.iload_n 3, 1) := by decide +kernel
theorem d_M_lengthOf_44 : decode prog_10_method_38_code 44 = .ok (.invokevirtual 208, 3) := by decide +kernel
theorem d_M_lengthOf_47 : decode prog_10_method_38_code 47 = .ok (.iadd, 1) := by decide +kernel
theorem d_M_lengthOf_48 : decode prog_10_method_38_code 48 = .ok (.ireturn, 1) := by decide +kernel
theorem d_M_numberBoth_0 : decode prog_10_method_35_code 0 = .ok (.aload_n 0, 1) := by decide +kernel
theorem d_M_numberBoth_1 : decode prog_10_method_35_code 1 = .ok (.getfield 65, 3) := by decide +kernel
theorem d_M_numberBoth_4 : decode prog_10_method_35_code 4 = .ok (.aload_n 0, 1) := by decide +kernel
theorem d_M_numberBoth_5 : decode prog_10_method_35_code 5 = .ok (.getfield 71, 3) := by decide +kernel
theorem d_M_numberBoth_8 : decode prog_10_method_35_code 8 = .ok (.iconst 0, 1) := by decide +kernel
theorem d_M_numberBoth_9 : decode prog_10_method_35_code 9 = .ok (.aload_n 0, 1) := by decide +kernel
theorem d_M_numberBoth_10 : decode prog_10_method_35_code 10 = .ok (.getfield 213, 3) := by decide +kernel
theorem d_M_numberBoth_13 : decode prog_10_method_35_code 13 = .ok (.invokestatic 222, 3) := by decide +kernel
theorem d_M_numberBoth_16 : decode prog_10_method_35_code 16 = .ok (.aload_n 0, 1) := by decide +kernel
theorem d_M_numberBoth_17 : decode prog_10_method_35_code 17 = .ok (.getfield 65, 3) := by decide +kernel
theorem d_M_numberBoth_20 : decode prog_10_method_35_code 20 = .ok (.aload_n 0, 1) := by decide +kernel
theorem d_M_numberBoth_21 : decode prog_10_method_35_code 21 = .ok (.getfield 71, 3) := by decide +kernel
theorem d_M_numberBoth_24 : decode prog_10_method_35_code 24 = .ok (.aload_n 0, 1) := by decide +kernel
theorem d_M_numberBoth_25 : decode prog_10_method_35_code 25 = .ok (.getfield 213, 3) := by decide +kernel
theorem d_M_numberBoth_28 : decode prog_10_method_35_code 28 = .ok (.aload_n 0, 1) := by decide +kernel
theorem d_M_numberBoth_29 : decode prog_10_method_35_code 29 = .ok (.getfield 216, 3) := by decide +kernel
theorem d_M_numberBoth_32 : decode prog_10_method_35_code 32 = .ok (.invokestatic 222, 3) := by decide +kernel
theorem d_M_numberBoth_35 : decode prog_10_method_35_code 35 = .ok (.return_, 1) := by decide +kernel
theorem d_M_plainBlock_0 : decode prog_10_method_42_code 0 = .ok (.aload_n 0, 1) := by decide +kernel
theorem d_M_plainBlock_1 : decode prog_10_method_42_code 1 = .ok (.aload_n 0, 1) := by decide +kernel
theorem d_M_plainBlock_2 : decode prog_10_method_42_code 2 = .ok (.getfield 205, 3) := by decide +kernel
theorem d_M_plainBlock_5 : decode prog_10_method_42_code 5 = .ok (.bipush 7, 2) := by decide +kernel
theorem d_M_plainBlock_7 : decode prog_10_method_42_code 7 = .ok (.iadd, 1) := by decide +kernel
theorem d_M_plainBlock_8 : decode prog_10_method_42_code 8 = .ok (.bipush 8, 2) := by decide +kernel
theorem d_M_plainBlock_10 : decode prog_10_method_42_code 10 = .ok (.idiv, 1) := by decide +kernel
theorem d_M_plainBlock_11 : decode prog_10_method_42_code 11 = .ok (.bipush 8, 2) := by decide +kernel
theorem d_M_plainBlock_13 : decode prog_10_method_42_code 13 = .ok (.imul, 1) := by decide +kernel
theorem d_M_plainBlock_14 : decode prog_10_method_42_code 14 = .ok (.putfield 205, 3) := by decide +kernel
theorem d_M_plainBlock_17 : decode prog_10_method_42_code 17 = .ok (.aload_n 0, 1) := by decide +kernel
theorem d_M_plainBlock_18 : decode prog_10_method_42_code 18 = .ok (.bipush 16, 2) := by decide +kernel
theorem d_M_plainBlock_20 : decode prog_10_method_42_code 20 = .ok (.invokevirtual 208, 3) := by decide +kernel
theorem d_M_plainBlock_23 : decode prog_10_method_42_code 23 = .ok (.istore_n 1, 1) := by decide +kernel
theorem d_M_plainBlock_24 : decode prog_10_method_42_code 24 = .ok (.aload_n 0, 1) := by decide +kernel
theorem d_M_plainBlock_25 : decode prog_10_method_42_code 25 = .ok (.bipush 16, 2) := by decide +kernel
theorem d_M_plainBlock_27 : decode prog_10_method_42_code 27 = .ok (.invokevirtual 208, 3) := by decide +kernel
theorem d_M_plainBlock_30 : decode prog_10_method_42_code 30 = .ok (.istore_n 2, 1) := by decide +kernel
theorem d_M_plainBlock_31 : decode prog_10_method_42_code 31 = .ok (.aload_n 0, 1) := by decide +kernel
theorem d_M_plainBlock_32 : decode prog_10_method_42_code 32 = .ok (.getfield 196, 3) := by decide +kernel
theorem d_M_plainBlock_35 : decode prog_10_method_42_code 35 = .ok (.ifCond .ne 18, 3) := by decide +kernel
theorem d_M_plainBlock_38 : decode prog_10_method_42_code 38 = .ok (.iload_n 1, 1) := by decide +kernel
theorem d_M_plainBlock_39 : decode prog_10_method_42_code 39 = .ok (.iload_n 2, 1) := by decide +kernel
theorem d_M_plainBlock_40 : decode prog_10_method_42_code 40 = .ok (.ixor, 1) := by decide +kernel
theorem d_M_plainBlock_41 : decode prog_10_method_42_code 41 = .ok (.ldc 250, 2) := by decide +kernel
theorem d_M_plainBlock_43 : decode prog_10_method_42_code 43 = .ok (.if_icmp .eq 10, 3) := by decide +kernel
theorem d_M_plainBlock_46 : decode prog_10_method_42_code 46 = .ok (.aload_n 0, 1) := by decide +kernel
theorem d_M_plainBlock_47 : decode prog_10_method_42_code 47 = .ok (.bipush 31, 2) := by decide +kernel
theorem d_M_plainBlock_49 : decode prog_10_method_42_code 49 = .ok (.invokevirtual 202, 3) := by decide +kernel
theorem d_M_plainBlock_52 : decode prog_10_method_42_code 52 = .ok (.pop, 1) := by decide +kernel
theorem d_M_plainBlock_53 : decode prog_10_method_42_code 53 = .ok (.iconst 0, 1) := by decide +kernel
theorem d_M_plainBlock_54 : decode prog_10_method_42_code 54 = .ok (.istore_n 3, 1) := by decide +kernel
theorem d_M_plainBlock_55 : decode prog_10_method_42_code 55 = .ok (.iload_n 3, 1) := by decide +kernel
theorem d_M_plainBlock_56 : decode prog_10_method_42_code 56 = .ok (.iload_n 1, 1) := by decide +kernel
theorem d_M_plainBlock_57 : decode prog_10_method_42_code 57 = .ok (.if_icmp .ge 38, 3) := by decide +kernel
theorem d_M_plainBlock_60 : decode prog_10_method_42_code 60 = .ok (.aload_n 0, 1) := by decide +kernel
theorem d_M_plainBlock_61 : decode prog_10_method_42_code 61 = .ok (.getfield 196, 3) := by decide +kernel
theorem d_M_plainBlock_64 : decode prog_10_method_42_code 64 = .ok (.ifCond .ne 31, 3) := by decide +kernel
theorem d_M_plainBlock_67 : decode prog_10_method_42_code 67 = .ok (.aload_n 0, 1) := by decide +kernel
theorem d_M_plainBlock_68 : decode prog_10_method_42_code 68 = .ok (.bipush 8, 2) := by decide +kernel
theorem d_M_plainBlock_70 : decode prog_10_method_42_code 70 = .ok (.invokevirtual 208, 3) := by decide +kernel
theorem d_M_plainBlock_73 : decode prog_10_method_42_code 73 = .ok (.istore 4, 2) := by decide +kernel
theorem d_M_plainBlock_75 : decode prog_10_method_42_code 75 = .ok (.aload_n 0, 1) := by decide +kernel
theorem d_M_plainBlock_76 : decode prog_10_method_42_code 76 = .ok (.getfield 196, 3) := by decide +kernel
theorem d_M_plainBlock_79 : decode prog_10_method_42_code 79 = .ok (.ifCond .ne 10, 3) := by decide +kernel
theorem d_M_plainBlock_82 : decode prog_10_method_42_code 82 = .ok (.aload_n 0, 1) := by decide +kernel
theorem d_M_plainBlock_83 : decode prog_10_method_42_code 83 = .ok (.iload 4, 2) := by decide +kernel
theorem d_M_plainBlock_85 : decode prog_10_method_42_code 85 = .ok (.invokevirtual 237, 3) := by decide +kernel
theorem d_M_plainBlock_88 : decode prog_10_method_42_code 88 = .ok (.pop, 1) := by decide +kernel
theorem d_M_plainBlock_89 : decode prog_10_method_42_code 89 = .ok (.iinc 3 1, 3) := by decide +kernel
theorem d_M_plainBlock_92 : decode prog_10_method_42_code 92 = .ok (.goto (-37), 3) := by decide +kernel
theorem d_M_plainBlock_95 : decode prog_10_method_42_code 95 = .ok (.return_, 1) := by decide +kernel
theorem d_M_plainCodes_0 : decode prog_10_method_34_code 0 = .ok (.iconst 0, 1) := by decide +kernel
theorem d_M_plainCodes_1 : decode prog_10_method_34_code 1 = .ok (.istore_n 1, 1) := by decide +kernel
theorem d_M_plainCodes_2 : decode prog_10_method_34_code 2 = .ok (.iload_n 1, 1) := by decide +kernel
theorem d_M_plainCodes_3 : decode prog_10_method_34_code 3 = .ok (.sipush 288, 3) := by decide +kernel
theorem d_M_plainCodes_6 : decode prog_10_method_34_code 6 = .ok (.if_icmp .ge 53, 3) := by decide +kernel
theorem d_M_plainCodes_9 : decode prog_10_method_34_code 9 = .ok (.aload_n 0, 1) := by decide +kernel
theorem d_M_plainCodes_10 : decode prog_10_method_34_code 10 = .ok (.getfield 65, 3) := by decide +kernel
theorem d_M_plainCodes_13 : decode prog_10_method_34_code 13 = .ok (.iload_n 1, 1) := by decide +kernel
theorem d_M_plainCodes_14 : decode prog_10_method_34_code 14 = .ok (.iload_n 1, 1) := by decide +kernel
theorem d_M_plainCodes_15 : decode prog_10_method_34_code 15 = .ok (.sipush 144, 3) := by decide +kernel
theorem d_M_plainCodes_18 : decode prog_10_method_34_code 18 = .ok (.if_icmp .ge 8, 3) := by decide +kernel
theorem d_M_plainCodes_21 : decode prog_10_method_34_code 21 = .ok (.bipush 8, 2) := by decide +kernel
theorem d_M_plainCodes_23 : decode prog_10_method_34_code 23 = .ok (.goto 29, 3) := by decide +kernel
theorem d_M_plainCodes_26 : decode prog_10_method_34_code 26 = .ok (.iload_n 1, 1) := by decide +kernel
theorem d_M_plainCodes_27 : decode prog_10_method_34_code 27 = .ok (.sipush 256, 3) := by decide +kernel
theorem d_M_plainCodes_30 : decode prog_10_method_34_code 30 = .ok (.if_icmp .ge 8, 3) := by decide +kernel
theorem d_M_plainCodes_33 : decode prog_10_method_34_code 33 = .ok (.bipush 9, 2) := by decide +kernel
theorem d_M_plainCodes_35 : decode prog_10_method_34_code 35 = .ok (.goto 17, 3) := by decide +kernel
theorem d_M_plainCodes_38 : decode prog_10_method_34_code 38 = .ok (.iload_n 1, 1) := by decide +kernel
theorem d_M_plainCodes_39 : decode prog_10_method_34_code 39 = .ok (.sipush 280, 3) := by decide +kernel
theorem d_M_plainCodes_42 : decode prog_10_method_34_code 42 = .ok (.if_icmp .ge 8, 3) := by decide +kernel
theorem d_M_plainCodes_45 : decode prog_10_method_34_code 45 = .ok (.bipush 7, 2) := by decide +kernel
theorem d_M_plainCodes_47 : decode prog_10_method_34_code 47 = .ok (.goto 5, 3) := by decide +kernel
theorem d_M_plainCodes_50 : decode prog_10_method_34_code 50 = .ok (.bipush 8, 2) := by decide +kernel
theorem d_M_plainCodes_52 : decode prog_10_method_34_code 52 = .ok (.iastore, 1) := by decide +kernel
theorem d_M_plainCodes_53 : decode prog_10_method_34_code 53 = .ok (.iinc 1 1, 3) := by decide +kernel
theorem d_M_plainCodes_56 : decode prog_10_method_34_code 56 = .ok (.goto (-54), 3) := by decide +kernel
theorem d_M_plainCodes_59 : decode prog_10_method_34_code 59 = .ok (.iconst 0, 1) := by decide +kernel
theorem d_M_plainCodes_60 : decode prog_10_method_34_code 60 = .ok (.istore_n 1, 1) := by decide +kernel
theorem d_M_plainCodes_61 : decode prog_10_method_34_code 61 = .ok (.iload_n 1, 1) := by decide +kernel
theorem d_M_plainCodes_62 : decode prog_10_method_34_code 62 = .ok (.bipush 32, 2) := by decide +kernel
theorem d_M_plainCodes_64 : decode prog_10_method_34_code 64 = .ok (.if_icmp .ge 20, 3) := by decide +kernel
theorem d_M_plainCodes_67 : decode prog_10_method_34_code 67 = .ok (.aload_n 0, 1) := by decide +kernel
theorem d_M_plainCodes_68 : decode prog_10_method_34_code 68 = .ok (.getfield 65, 3) := by decide +kernel
theorem d_M_plainCodes_71 : decode prog_10_method_34_code 71 = .ok (.sipush 288, 3) := by decide +kernel
theorem d_M_plainCodes_74 : decode prog_10_method_34_code 74 = .ok (.iload_n 1, 1) := by decide +kernel
theorem d_M_plainCodes_75 : decode prog_10_method_34_code 75 = .ok (.iadd, 1) := by decide +kernel
theorem d_M_plainCodes_76 : decode prog_10_method_34_code 76 = .ok (.iconst 5, 1) := by decide +kernel
theorem d_M_plainCodes_77 : decode prog_10_method_34_code 77 = .ok (.iastore, 1) := by decide +kernel
theorem d_M_plainCodes_78 : decode prog_10_method_34_code 78 = .ok (.iinc 1 1, 3) := by decide +kernel
theorem d_M_plainCodes_81 : decode prog_10_method_34_code 81 = .ok (.goto (-20), 3) := by decide +kernel
theorem d_M_plainCodes_84 : decode prog_10_method_34_code 84 = .ok (.aload_n 0, 1) := by decide +kernel
theorem d_M_plainCodes_85 : decode prog_10_method_34_code 85 = .ok (.sipush 288, 3) := by decide +kernel
theorem d_M_plainCodes_88 : decode prog_10_method_34_code 88 = .ok (.putfield 213, 3) := by decide +kernel
theorem d_M_plainCodes_91 : decode prog_10_method_34_code 91 = .ok (.aload_n 0, 1) := by decide +kernel
theorem d_M_plainCodes_92 : decode prog_10_method_34_code 92 = .ok (.bipush 32, 2) := by decide +kernel
theorem d_M_plainCodes_94 : decode prog_10_method_34_code 94 = .ok (.putfield 216, 3) := by decide +kernel
theorem d_M_plainCodes_97 : decode prog_10_method_34_code 97 = .ok (.aload_n 0, 1) := by decide +kernel
theorem d_M_plainCodes_98 : decode prog_10_method_34_code 98 = .ok (.invokevirtual 219, 3) := by decide +kernel
theorem d_M_plainCodes_101 : decode prog_10_method_34_code 101 = .ok (.return_, 1) := by decide +kernel
theorem d_M_readCodes_0 : decode prog_10_method_37_code 0 = .ok (.aload_n 0, 1) := by decide +kernel
theorem d_M_readCodes_1 : decode prog_10_method_37_code 1 = .ok (.aload_n 0, 1) := by decide +kernel
theorem d_M_readCodes_2 : decode prog_10_method_37_code 2 = .ok (.iconst 5, 1) := by decide +kernel
theorem d_M_readCodes_3 : decode prog_10_method_37_code 3 = .ok (.invokevirtual 208, 3) := by decide +kernel
theorem d_M_readCodes_6 : decode prog_10_method_37_code 6 = .ok (.sipush 257, 3) := by decide +kernel
theorem d_M_readCodes_9 : decode prog_10_method_37_code 9 = .ok (.iadd, 1) := by decide +kernel
theorem d_M_readCodes_10 : decode prog_10_method_37_code 10 = .ok (.putfield 213, 3) := by decide +kernel
theorem d_M_readCodes_13 : decode prog_10_method_37_code 13 = .ok (.aload_n 0, 1) := by decide +kernel
theorem d_M_readCodes_14 : decode prog_10_method_37_code 14 = .ok (.aload_n 0, 1) := by decide +kernel
theorem d_M_readCodes_15 : decode prog_10_method_37_code 15 = .ok (.iconst 5, 1) := by decide +kernel
theorem d_M_readCodes_16 : decode prog_10_method_37_code 16 = .ok (.invokevirtual 208, 3) := by decide +kernel
theorem d_M_readCodes_19 : decode prog_10_method_37_code 19 = .ok (.iconst 1, 1) := by decide +kernel
theorem d_M_readCodes_20 : decode prog_10_method_37_code 20 = .ok (.iadd, 1) := by decide +kernel
theorem d_M_readCodes_21 : decode prog_10_method_37_code 21 = .ok (.putfield 216, 3) := by decide +kernel
theorem d_M_readCodes_24 : decode prog_10_method_37_code 24 = .ok (.aload_n 0, 1) := by decide +kernel
theorem d_M_readCodes_25 : decode prog_10_method_37_code 25 = .ok (.iconst 4, 1) := by decide +kernel
theorem d_M_readCodes_26 : decode prog_10_method_37_code 26 = .ok (.invokevirtual 208, 3) := by decide +kernel
theorem d_M_readCodes_29 : decode prog_10_method_37_code 29 = .ok (.iconst 4, 1) := by decide +kernel
theorem d_M_readCodes_30 : decode prog_10_method_37_code 30 = .ok (.iadd, 1) := by decide +kernel
theorem d_M_readCodes_31 : decode prog_10_method_37_code 31 = .ok (.istore_n 1, 1) := by decide +kernel
theorem d_M_readCodes_32 : decode prog_10_method_37_code 32 = .ok (.aload_n 0, 1) := by decide +kernel
theorem d_M_readCodes_33 : decode prog_10_method_37_code 33 = .ok (.getfield 196, 3) := by decide +kernel
theorem d_M_readCodes_36 : decode prog_10_method_37_code 36 = .ok (.ifCond .eq 4, 3) := by decide +kernel
theorem d_M_readCodes_39 : decode prog_10_method_37_code 39 = .ok (.return_, 1) := by decide +kernel
theorem d_M_readCodes_40 : decode prog_10_method_37_code 40 = .ok (.aload_n 0, 1) := by decide +kernel
theorem d_M_readCodes_41 : decode prog_10_method_37_code 41 = .ok (.getfield 213, 3) := by decide +kernel
theorem d_M_readCodes_44 : decode prog_10_method_37_code 44 = .ok (.sipush 286, 3) := by decide +kernel
theorem d_M_readCodes_47 : decode prog_10_method_37_code 47 = .ok (.if_icmp .gt 12, 3) := by decide +kernel
theorem d_M_readCodes_50 : decode prog_10_method_37_code 50 = .ok (.aload_n 0, 1) := by decide +kernel
theorem d_M_readCodes_51 : decode prog_10_method_37_code 51 = .ok (.getfield 216, 3) := by decide +kernel
theorem d_M_readCodes_54 : decode prog_10_method_37_code 54 = .ok (.bipush 30, 2) := by decide +kernel
theorem d_M_readCodes_56 : decode prog_10_method_37_code 56 = .ok (.if_icmp .le 11, 3) := by decide +kernel
theorem d_M_readCodes_59 : decode prog_10_method_37_code 59 = .ok (.aload_n 0, 1) := by decide +kernel
theorem d_M_readCodes_60 : decode prog_10_method_37_code 60 = .ok (.bipush 32, 2) := by decide +kernel
theorem d_M_readCodes_62 : decode prog_10_method_37_code 62 = .ok (.invokevirtual 202, 3) := by decide +kernel
theorem d_M_readCodes_65 : decode prog_10_method_37_code 65 = .ok (.pop, 1) := by decide +kernel
theorem d_M_readCodes_66 : decode prog_10_method_37_code 66 = .ok (.return_, 1) := by decide +kernel
theorem d_M_readCodes_67 : decode prog_10_method_37_code 67 = .ok (.iconst 0, 1) := by decide +kernel
theorem d_M_readCodes_68 : decode prog_10_method_37_code 68 = .ok (.istore_n 2, 1) := by decide +kernel
theorem d_M_readCodes_69 : decode prog_10_method_37_code 69 = .ok (.iload_n 2, 1) := by decide +kernel
theorem d_M_readCodes_70 : decode prog_10_method_37_code 70 = .ok (.bipush 19, 2) := by decide +kernel
theorem d_M_readCodes_72 : decode prog_10_method_37_code 72 = .ok (.if_icmp .ge 16, 3) := by decide +kernel
theorem d_M_readCodes_75 : decode prog_10_method_37_code 75 = .ok (.aload_n 0, 1) := by decide +kernel
theorem d_M_readCodes_76 : decode prog_10_method_37_code 76 = .ok (.getfield 68, 3) := by decide +kernel
theorem d_M_readCodes_79 : decode prog_10_method_37_code 79 = .ok (.iload_n 2, 1) := by decide +kernel
theorem d_M_readCodes_80 : decode prog_10_method_37_code 80 = .ok (.iconst 0, 1) := by decide +kernel
theorem d_M_readCodes_81 : decode prog_10_method_37_code 81 = .ok (.iastore, 1) := by decide +kernel
theorem d_M_readCodes_82 : decode prog_10_method_37_code 82 = .ok (.iinc 2 1, 3) := by decide +kernel
theorem d_M_readCodes_85 : decode prog_10_method_37_code 85 = .ok (.goto (-16), 3) := by decide +kernel
theorem d_M_readCodes_88 : decode prog_10_method_37_code 88 = .ok (.iconst 0, 1) := by decide +kernel
theorem d_M_readCodes_89 : decode prog_10_method_37_code 89 = .ok (.istore_n 2, 1) := by decide +kernel
theorem d_M_readCodes_90 : decode prog_10_method_37_code 90 = .ok (.iload_n 2, 1) := by decide +kernel
theorem d_M_readCodes_91 : decode prog_10_method_37_code 91 = .ok (.iload_n 1, 1) := by decide +kernel
theorem d_M_readCodes_92 : decode prog_10_method_37_code 92 = .ok (.if_icmp .ge 30, 3) := by decide +kernel
theorem d_M_readCodes_95 : decode prog_10_method_37_code 95 = .ok (.aload_n 0, 1) := by decide +kernel
theorem d_M_readCodes_96 : decode prog_10_method_37_code 96 = .ok (.getfield 196, 3) := by decide +kernel
theorem d_M_readCodes_99 : decode prog_10_method_37_code 99 = .ok (.ifCond .ne 23, 3) := by decide +kernel
theorem d_M_readCodes_102 : decode prog_10_method_37_code 102 = .ok (.aload_n 0, 1) := by decide +kernel
theorem d_M_readCodes_103 : decode prog_10_method_37_code 103 = .ok (.getfield 68, 3) := by decide +kernel
theorem d_M_readCodes_106 : decode prog_10_method_37_code 106 = .ok (.iload_n 2, 1) := by decide +kernel
theorem d_M_readCodes_107 : decode prog_10_method_37_code 107 = .ok (.invokestatic 226, 3) := by decide +kernel
theorem d_M_readCodes_110 : decode prog_10_method_37_code 110 = .ok (.aload_n 0, 1) := by decide +kernel
theorem d_M_readCodes_111 : decode prog_10_method_37_code 111 = .ok (.iconst 3, 1) := by decide +kernel
theorem d_M_readCodes_112 : decode prog_10_method_37_code 112 = .ok (.invokevirtual 208, 3) := by decide +kernel
theorem d_M_readCodes_115 : decode prog_10_method_37_code 115 = .ok (.iastore, 1) := by decide +kernel
theorem d_M_readCodes_116 : decode prog_10_method_37_code 116 = .ok (.iinc 2 1, 3) := by decide +kernel
theorem d_M_readCodes_119 : decode prog_10_method_37_code 119 = .ok (.goto (-29), 3) := by decide +kernel
theorem d_M_readCodes_122 : decode prog_10_method_37_code 122 = .ok (.aload_n 0, 1) := by decide +kernel
theorem d_M_readCodes_123 : decode prog_10_method_37_code 123 = .ok (.getfield 196, 3) := by decide +kernel
theorem d_M_readCodes_126 : decode prog_10_method_37_code 126 = .ok (.ifCond .ne 24, 3) := by decide +kernel
theorem d_M_readCodes_129 : decode prog_10_method_37_code 129 = .ok (.aload_n 0, 1) := by decide +kernel
theorem d_M_readCodes_130 : decode prog_10_method_37_code 130 = .ok (.getfield 68, 3) := by decide +kernel
theorem d_M_readCodes_133 : decode prog_10_method_37_code 133 = .ok (.iconst 0, 1) := by decide +kernel
theorem d_M_readCodes_134 : decode prog_10_method_37_code 134 = .ok (.bipush 19, 2) := by decide +kernel
theorem d_M_readCodes_136 : decode prog_10_method_37_code 136 = .ok (.iconst 0, 1) := by decide +kernel
theorem d_M_readCodes_137 : decode prog_10_method_37_code 137 = .ok (.invokestatic 229, 3) := by decide +kernel
theorem d_M_readCodes_140 : decode prog_10_method_37_code 140 = .ok (.ifCond .ne 10, 3) := by decide +kernel
theorem d_M_readCodes_143 : decode prog_10_method_37_code 143 = .ok (.aload_n 0, 1) := by decide +kernel
theorem d_M_readCodes_144 : decode prog_10_method_37_code 144 = .ok (.bipush 33, 2) := by decide +kernel
theorem d_M_readCodes_146 : decode prog_10_method_37_code 146 = .ok (.invokevirtual 202, 3) := by decide +kernel
theorem d_M_readCodes_149 : decode prog_10_method_37_code 149 = .ok (.pop, 1) := by decide +kernel
theorem d_M_readCodes_150 : decode prog_10_method_37_code 150 = .ok (.aload_n 0, 1) := by decide +kernel
theorem d_M_readCodes_151 : decode prog_10_method_37_code 151 = .ok (.getfield 68, 3) := by decide +kernel
theorem d_M_readCodes_154 : decode prog_10_method_37_code 154 = .ok (.aload_n 0, 1) := by decide +kernel
theorem d_M_readCodes_155 : decode prog_10_method_37_code 155 = .ok (.getfield 74, 3) := by decide +kernel
theorem d_M_readCodes_158 : decode prog_10_method_37_code 158 = .ok (.iconst 0, 1) := by decide +kernel
theorem d_M_readCodes_159 : decode prog_10_method_37_code 159 = .ok (.bipush 19, 2) := by decide +kernel
theorem d_M_readCodes_161 : decode prog_10_method_37_code 161 = .ok (.invokestatic 222, 3) := by decide +kernel
theorem d_M_readCodes_164 : decode prog_10_method_37_code 164 = .ok (.iconst 0, 1) := by decide +kernel
theorem d_M_readCodes_165 : decode prog_10_method_37_code 165 = .ok (.istore_n 2, 1) := by decide +kernel
theorem d_M_readCodes_166 : decode prog_10_method_37_code 166 = .ok (.aload_n 0, 1) := by decide +kernel
theorem d_M_readCodes_167 : decode prog_10_method_37_code 167 = .ok (.getfield 213, 3) := by decide +kernel
theorem d_M_readCodes_170 : decode prog_10_method_37_code 170 = .ok (.aload_n 0, 1) := by decide +kernel
theorem d_M_readCodes_171 : decode prog_10_method_37_code 171 = .ok (.getfield 216, 3) := by decide +kernel
theorem d_M_readCodes_174 : decode prog_10_method_37_code 174 = .ok (.iadd, 1) := by decide +kernel
theorem d_M_readCodes_175 : decode prog_10_method_37_code 175 = .ok (.istore_n 3, 1) := by decide +kernel
theorem d_M_readCodes_176 : decode prog_10_method_37_code 176 = .ok (.iload_n 2, 1) := by decide +kernel
theorem d_M_readCodes_177 : decode prog_10_method_37_code 177 = .ok (.iload_n 3, 1) := by decide +kernel
theorem d_M_readCodes_178 : decode prog_10_method_37_code 178 = .ok (.if_icmp .ge 194, 3) := by decide +kernel
theorem d_M_readCodes_181 : decode prog_10_method_37_code 181 = .ok (.aload_n 0, 1) := by decide +kernel
theorem d_M_readCodes_182 : decode prog_10_method_37_code 182 = .ok (.getfield 196, 3) := by decide +kernel
theorem d_M_readCodes_185 : decode prog_10_method_37_code 185 = .ok (.ifCond .ne 187, 3) := by decide +kernel
theorem d_M_readCodes_188 : decode prog_10_method_37_code 188 = .ok (.aload_n 0, 1) := by decide +kernel
theorem d_M_readCodes_189 : decode prog_10_method_37_code 189 = .ok (.aload_n 0, 1) := by decide +kernel
theorem d_M_readCodes_190 : decode prog_10_method_37_code 190 = .ok (.getfield 68, 3) := by decide +kernel
theorem d_M_readCodes_193 : decode prog_10_method_37_code 193 = .ok (.aload_n 0, 1) := by decide +kernel
theorem d_M_readCodes_194 : decode prog_10_method_37_code 194 = .ok (.getfield 74, 3) := by decide +kernel
theorem d_M_readCodes_197 : decode prog_10_method_37_code 197 = .ok (.iconst 0, 1) := by decide +kernel
theorem d_M_readCodes_198 : decode prog_10_method_37_code 198 = .ok (.bipush 19, 2) := by decide +kernel
theorem d_M_readCodes_200 : decode prog_10_method_37_code 200 = .ok (.invokevirtual 233, 3) := by decide +kernel
theorem d_M_readCodes_203 : decode prog_10_method_37_code 203 = .ok (.istore 4, 2) := by decide +kernel
theorem d_M_readCodes_205 : decode prog_10_method_37_code 205 = .ok (.aload_n 0, 1) := by decide +kernel
theorem d_M_readCodes_206 : decode prog_10_method_37_code 206 = .ok (.getfield 196, 3) := by decide +kernel
theorem d_M_readCodes_209 : decode prog_10_method_37_code 209 = .ok (.ifCond .eq 4, 3) := by decide +kernel
theorem d_M_readCodes_212 : decode prog_10_method_37_code 212 = .ok (.return_, 1) := by decide +kernel
theorem d_M_readCodes_213 : decode prog_10_method_37_code 213 = .ok (.iload 4, 2) := by decide +kernel
theorem d_M_readCodes_215 : decode prog_10_method_37_code 215 = .ok (.bipush 16, 2) := by decide +kernel
theorem d_M_readCodes_217 : decode prog_10_method_37_code 217 = .ok (.if_icmp .ge 7, 3) := by decide +kernel
theorem d_M_readCodes_220 : decode prog_10_method_37_code 220 = .ok (.iconst 1, 1) := by decide +kernel
theorem d_M_readCodes_221 : decode prog_10_method_37_code 221 = .ok (.goto 46, 3) := by decide +kernel
theorem d_M_readCodes_224 : decode prog_10_method_37_code 224 = .ok (.iload 4, 2) := by decide +kernel
theorem d_M_readCodes_226 : decode prog_10_method_37_code 226 = .ok (.bipush 16, 2) := by decide +kernel
theorem d_M_readCodes_228 : decode prog_10_method_37_code 228 = .ok (.if_icmp .ne 13, 3) := by decide +kernel
theorem d_M_readCodes_231 : decode prog_10_method_37_code 231 = .ok (.iconst 3, 1) := by decide +kernel
theorem d_M_readCodes_232 : decode prog_10_method_37_code 232 = .ok (.aload_n 0, 1) := by decide +kernel
theorem d_M_readCodes_233 : decode prog_10_method_37_code 233 = .ok (.iconst 2, 1) := by decide +kernel
theorem d_M_readCodes_234 : decode prog_10_method_37_code 234 = .ok (.invokevirtual 208, 3) := by decide +kernel
theorem d_M_readCodes_237 : decode prog_10_method_37_code 237 = .ok (.iadd, 1) := by decide +kernel
theorem d_M_readCodes_238 : decode prog_10_method_37_code 238 = .ok (.goto 29, 3) := by decide +kernel
theorem d_M_readCodes_241 : decode prog_10_method_37_code 241 = .ok (.iload 4, 2) := by decide +kernel
theorem d_M_readCodes_243 : decode prog_10_method_37_code 243 = .ok (.bipush 17, 2) := by decide +kernel
theorem d_M_readCodes_245 : decode prog_10_method_37_code 245 = .ok (.if_icmp .ne 13, 3) := by decide +kernel
theorem d_M_readCodes_248 : decode prog_10_method_37_code 248 = .ok (.iconst 3, 1) := by decide +kernel
theorem d_M_readCodes_249 : decode prog_10_method_37_code 249 = .ok (.aload_n 0, 1) := by decide +kernel
theorem d_M_readCodes_250 : decode prog_10_method_37_code 250 = .ok (.iconst 3, 1) := by decide +kernel
theorem d_M_readCodes_251 : decode prog_10_method_37_code 251 = .ok (.invokevirtual 208, 3) := by decide +kernel
theorem d_M_readCodes_254 : decode prog_10_method_37_code 254 = .ok (.iadd, 1) := by decide +kernel
theorem d_M_readCodes_255 : decode prog_10_method_37_code 255 = .ok (.goto 12, 3) := by decide +kernel
theorem d_M_readCodes_258 : decode prog_10_method_37_code 258 = .ok (.bipush 11, 2) := by decide +kernel
theorem d_M_readCodes_260 : decode prog_10_method_37_code 260 = .ok (.aload_n 0, 1) := by decide +kernel
theorem d_M_readCodes_261 : decode prog_10_method_37_code 261 = .ok (.bipush 7, 2) := by decide +kernel
theorem d_M_readCodes_263 : decode prog_10_method_37_code 263 = .ok (.invokevirtual 208, 3) := by decide +kernel
theorem d_M_readCodes_266 : decode prog_10_method_37_code 266 = .ok (.iadd, 1) := by decide +kernel
theorem d_M_readCodes_267 : decode prog_10_method_37_code 267 = .ok (.istore 5, 2) := by decide +kernel
theorem d_M_readCodes_269 : decode prog_10_method_37_code 269 = .ok (.aload_n 0, 1) := by decide +kernel
theorem d_M_readCodes_270 : decode prog_10_method_37_code 270 = .ok (.getfield 196, 3) := by decide +kernel
theorem d_M_readCodes_273 : decode prog_10_method_37_code 273 = .ok (.ifCond .eq 4, 3) := by decide +kernel
theorem d_M_readCodes_276 : decode prog_10_method_37_code 276 = .ok (.return_, 1) := by decide +kernel
theorem d_M_readCodes_277 : decode prog_10_method_37_code 277 = .ok (.iload 4, 2) := by decide +kernel
theorem d_M_readCodes_279 : decode prog_10_method_37_code 279 = .ok (.bipush 16, 2) := by decide +kernel
theorem d_M_readCodes_281 : decode prog_10_method_37_code 281 = .ok (.if_icmp .ne 7, 3) := by decide +kernel
theorem d_M_readCodes_284 : decode prog_10_method_37_code 284 = .ok (.iload_n 2, 1) := by decide +kernel
theorem d_M_readCodes_285 : decode prog_10_method_37_code 285 = .ok (.ifCond .eq 11, 3) := by decide +kernel
theorem d_M_readCodes_288 : decode prog_10_method_37_code 288 = .ok (.iload_n 2, 1) := by decide +kernel
theorem d_M_readCodes_289 : decode prog_10_method_37_code 289 = .ok (.iload 5, 2) := by decide +kernel
theorem d_M_readCodes_291 : decode prog_10_method_37_code 291 = .ok (.iadd, 1) := by decide +kernel
theorem d_M_readCodes_292 : decode prog_10_method_37_code 292 = .ok (.iload_n 3, 1) := by decide +kernel
theorem d_M_readCodes_293 : decode prog_10_method_37_code 293 = .ok (.if_icmp .le 11, 3) := by decide +kernel
theorem d_M_readCodes_296 : decode prog_10_method_37_code 296 = .ok (.aload_n 0, 1) := by decide +kernel
theorem d_M_readCodes_297 : decode prog_10_method_37_code 297 = .ok (.bipush 33, 2) := by decide +kernel
theorem d_M_readCodes_299 : decode prog_10_method_37_code 299 = .ok (.invokevirtual 202, 3) := by decide +kernel
theorem d_M_readCodes_302 : decode prog_10_method_37_code 302 = .ok (.pop, 1) := by decide +kernel
theorem d_M_readCodes_303 : decode prog_10_method_37_code 303 = .ok (.return_, 1) := by decide +kernel
theorem d_M_readCodes_304 : decode prog_10_method_37_code 304 = .ok (.iload 4, 2) := by decide +kernel
theorem d_M_readCodes_306 : decode prog_10_method_37_code 306 = .ok (.bipush 16, 2) := by decide +kernel
theorem d_M_readCodes_308 : decode prog_10_method_37_code 308 = .ok (.if_icmp .ge 8, 3) := by decide +kernel
theorem d_M_readCodes_311 : decode prog_10_method_37_code 311 = .ok (.iload 4, 2) := by decide +kernel
theorem d_M_readCodes_313 : decode prog_10_method_37_code 313 = .ok (.goto 22, 3) := by decide +kernel
theorem d_M_readCodes_316 : decode prog_10_method_37_code 316 = .ok (.iload 4, 2) := by decide +kernel
theorem d_M_readCodes_318 : decode prog_10_method_37_code 318 = .ok (.bipush 16, 2) := by decide +kernel
theorem d_M_readCodes_320 : decode prog_10_method_37_code 320 = .ok (.if_icmp .ne 14, 3) := by decide +kernel
theorem d_M_readCodes_323 : decode prog_10_method_37_code 323 = .ok (.aload_n 0, 1) := by decide +kernel
theorem d_M_readCodes_324 : decode prog_10_method_37_code 324 = .ok (.getfield 65, 3) := by decide +kernel
theorem d_M_readCodes_327 : decode prog_10_method_37_code 327 = .ok (.iload_n 2, 1) := by decide +kernel
theorem d_M_readCodes_328 : decode prog_10_method_37_code 328 = .ok (.iconst 1, 1) := by decide +kernel
theorem d_M_readCodes_329 : decode prog_10_method_37_code 329 = .ok (.isub, 1) := by decide +kernel
theorem d_M_readCodes_330 : decode prog_10_method_37_code 330 = .ok (.iaload, 1) := by decide +kernel
theorem d_M_readCodes_331 : decode prog_10_method_37_code 331 = .ok (.goto 4, 3) := by decide +kernel
theorem d_M_readCodes_334 : decode prog_10_method_37_code 334 = .ok (.iconst 0, 1) := by decide +kernel
theorem d_M_readCodes_335 : decode prog_10_method_37_code 335 = .ok (.istore 6, 2) := by decide +kernel
theorem d_M_readCodes_337 : decode prog_10_method_37_code 337 = .ok (.iconst 0, 1) := by decide +kernel
theorem d_M_readCodes_338 : decode prog_10_method_37_code 338 = .ok (.istore 7, 2) := by decide +kernel
theorem d_M_readCodes_340 : decode prog_10_method_37_code 340 = .ok (.iload 7, 2) := by decide +kernel
theorem d_M_readCodes_342 : decode prog_10_method_37_code 342 = .ok (.iload 5, 2) := by decide +kernel
theorem d_M_readCodes_344 : decode prog_10_method_37_code 344 = .ok (.if_icmp .ge 20, 3) := by decide +kernel
theorem d_M_readCodes_347 : decode prog_10_method_37_code 347 = .ok (.aload_n 0, 1) := by decide +kernel
theorem d_M_readCodes_348 : decode prog_10_method_37_code 348 = .ok (.getfield 65, 3) := by decide +kernel
theorem d_M_readCodes_351 : decode prog_10_method_37_code 351 = .ok (.iload_n 2, 1) := by decide +kernel
theorem d_M_readCodes_352 : decode prog_10_method_37_code 352 = .ok (.iload 7, 2) := by decide +kernel
theorem d_M_readCodes_354 : decode prog_10_method_37_code 354 = .ok (.iadd, 1) := by decide +kernel
theorem d_M_readCodes_355 : decode prog_10_method_37_code 355 = .ok (.iload 6, 2) := by decide +kernel
theorem d_M_readCodes_357 : decode prog_10_method_37_code 357 = .ok (.iastore, 1) := by decide +kernel
theorem d_M_readCodes_358 : decode prog_10_method_37_code 358 = .ok (.iinc 7 1, 3) := by decide +kernel
theorem d_M_readCodes_361 : decode prog_10_method_37_code 361 = .ok (.goto (-21), 3) := by decide +kernel
theorem d_M_readCodes_364 : decode prog_10_method_37_code 364 = .ok (.iload_n 2, 1) := by decide +kernel
theorem d_M_readCodes_365 : decode prog_10_method_37_code 365 = .ok (.iload 5, 2) := by decide +kernel
theorem d_M_readCodes_367 : decode prog_10_method_37_code 367 = .ok (.iadd, 1) := by decide +kernel
theorem d_M_readCodes_368 : decode prog_10_method_37_code 368 = .ok (.istore_n 2, 1) := by decide +kernel
theorem d_M_readCodes_369 : decode prog_10_method_37_code 369 = .ok (.goto (-193), 3) := by decide +kernel
theorem d_M_readCodes_372 : decode prog_10_method_37_code 372 = .ok (.aload_n 0, 1) := by decide +kernel
theorem d_M_readCodes_373 : decode prog_10_method_37_code 373 = .ok (.getfield 196, 3) := by decide +kernel
theorem d_M_readCodes_376 : decode prog_10_method_37_code 376 = .ok (.ifCond .eq 4, 3) := by decide +kernel
theorem d_M_readCodes_379 : decode prog_10_method_37_code 379 = .ok (.return_, 1) := by decide +kernel
theorem d_M_readCodes_380 : decode prog_10_method_37_code 380 = .ok (.aload_n 0, 1) := by decide +kernel
theorem d_M_readCodes_381 : decode prog_10_method_37_code 381 = .ok (.getfield 65, 3) := by decide +kernel
theorem d_M_readCodes_384 : decode prog_10_method_37_code 384 = .ok (.sipush 256, 3) := by decide +kernel
theorem d_M_readCodes_387 : decode prog_10_method_37_code 387 = .ok (.iaload, 1) := by decide +kernel
theorem d_M_readCodes_388 : decode prog_10_method_37_code 388 = .ok (.ifCond .eq 38, 3) := by decide +kernel
theorem d_M_readCodes_391 : decode prog_10_method_37_code 391 = .ok (.aload_n 0, 1) := by decide +kernel
theorem d_M_readCodes_392 : decode prog_10_method_37_code 392 = .ok (.getfield 65, 3) := by decide +kernel
theorem d_M_readCodes_395 : decode prog_10_method_37_code 395 = .ok (.iconst 0, 1) := by decide +kernel
theorem d_M_readCodes_396 : decode prog_10_method_37_code 396 = .ok (.aload_n 0, 1) := by decide +kernel
theorem d_M_readCodes_397 : decode prog_10_method_37_code 397 = .ok (.getfield 213, 3) := by decide +kernel
theorem d_M_readCodes_400 : decode prog_10_method_37_code 400 = .ok (.iconst 0, 1) := by decide +kernel
theorem d_M_readCodes_401 : decode prog_10_method_37_code 401 = .ok (.invokestatic 229, 3) := by decide +kernel
theorem d_M_readCodes_404 : decode prog_10_method_37_code 404 = .ok (.ifCond .eq 22, 3) := by decide +kernel
theorem d_M_readCodes_407 : decode prog_10_method_37_code 407 = .ok (.aload_n 0, 1) := by decide +kernel
theorem d_M_readCodes_408 : decode prog_10_method_37_code 408 = .ok (.getfield 65, 3) := by decide +kernel
theorem d_M_readCodes_411 : decode prog_10_method_37_code 411 = .ok (.aload_n 0, 1) := by decide +kernel
theorem d_M_readCodes_412 : decode prog_10_method_37_code 412 = .ok (.getfield 213, 3) := by decide +kernel
theorem d_M_readCodes_415 : decode prog_10_method_37_code 415 = .ok (.aload_n 0, 1) := by decide +kernel
theorem d_M_readCodes_416 : decode prog_10_method_37_code 416 = .ok (.getfield 216, 3) := by decide +kernel
theorem d_M_readCodes_419 : decode prog_10_method_37_code 419 = .ok (.iconst 1, 1) := by decide +kernel
theorem d_M_readCodes_420 : decode prog_10_method_37_code 420 = .ok (.invokestatic 229, 3) := by decide +kernel
theorem d_M_readCodes_423 : decode prog_10_method_37_code 423 = .ok (.ifCond .ne 10, 3) := by decide +kernel
theorem d_M_readCodes_426 : decode prog_10_method_37_code 426 = .ok (.aload_n 0, 1) := by decide +kernel
theorem d_M_readCodes_427 : decode prog_10_method_37_code 427 = .ok (.bipush 33, 2) := by decide +kernel
theorem d_M_readCodes_429 : decode prog_10_method_37_code 429 = .ok (.invokevirtual 202, 3) := by decide +kernel
theorem d_M_readCodes_432 : decode prog_10_method_37_code 432 = .ok (.pop, 1) := by decide +kernel
theorem d_M_readCodes_433 : decode prog_10_method_37_code 433 = .ok (.aload_n 0, 1) := by decide +kernel
theorem d_M_readCodes_434 : decode prog_10_method_37_code 434 = .ok (.invokevirtual 219, 3) := by decide +kernel
theorem d_M_readCodes_437 : decode prog_10_method_37_code 437 = .ok (.return_, 1) := by decide +kernel
set_option maxHeartbeats 4000000 in
set_option maxRecDepth 100000 in
theorem m_len (l : Launch) (D : va_G) (sz : Nat) (qm : Nat) (qT : Nat) (len : Int) (op : Int) (fp : Int) (bu : Int) (ra : Int) (en : Int) (qMe : Nat) (qPk : Nat) (qSz : Nat) (qSu : Nat) (qDa : Nat) (qLo : Nat) (qLe : Nat) (qNa : Nat) (qNs : Nat) (qSt : Nat) (qSa : Nat) (qCo : Nat) (qWr : Nat) (to : Int) (nw : Int) (bt : Int) (rf : Int) (qLn : Nat) (qSm : Nat) (qCd : Nat) (qSc : Nat) (sy : Int) (di : Int) (th : Int) (cT : ClassId) (fT : Nat → Int32) (cPk : ClassId) (fPk : Nat → Int) (cDa : ClassId) (fDa : Nat → Int) (y : Int) (hnw : 0 ≤ nw ∧ nw < 64) (hrf : -2147483648 ≤ rf ∧ rf ≤ 2147483647) (hpk : 0 ≤ fPk nw.toNat ∧ fPk nw.toNat ≤ 20000) (hda : 0 ≤ fDa nw.toNat ∧ fDa nw.toNat + fPk nw.toNat ≤ 20000) (hbt : 0 ≤ bt ∧ bt ≤ 8 * fPk nw.toNat) (hy : 257 ≤ y ∧ y ≤ 285) : Met l y_M_lengthOf (Cond.code y_M_lengthOf prog_10_method_38_code 4 (Option.some Jvm.ClassFile.FieldType.int) :: zt) { frames := 2, cells := 0, slots := 0, locals := 45 } (zPc [.ref qm, .int (iI y)] D [(qm, .inr (8, [.ref qT, .int (iI len), .int (iI op), .int (iI fp), .int (iI bu), .int (iI ra), .int (iI en), .ref qMe, .ref qPk, .ref qSz, .ref qSu, .ref qDa, .ref qLo, .ref qLe, .ref qNa, .ref qNs, .ref qSt, .ref qSa, .ref qCo, .ref qWr, .int (iI to), .int (iI nw), .int (iI bt), .int (iI rf), .ref qLn, .ref qSm, .ref qCd, .ref qSc, .int (iI sy), .int (iI di), .int (iI th)])), (qT, .inl (cT, 20000, .inl fT)), (qPk, .inl (cPk, 64, .inr (.inl (fun k => lI (fPk k))))), (qDa, .inl (cDa, 64, .inl (fun k => iI (fDa k))))] [(cT, .byte), (cPk, .long), (cDa, .int)] sz (fun _ => True)) (va_Qi (fun (r : Int32) => fun (u9 : Int × Int × Int) => match u9 with | (b1, r1, x) => r = (iI x) ∧ ((zBq fT (8 * fDa nw.toNat + bt) (8 * (fDa nw.toNat + fPk nw.toNat)) (zLB y) (x - zLA y) rf r1 bt b1) ∧ 0 ≤ x ∧ x ≤ 300 ∧ bt ≤ b1 ∧ b1 ≤ 8 * fPk nw.toNat ∧ (-2147483648 ≤ r1 ∧ r1 ≤ 2147483647) ∧ (¬ rf = 0 → r1 = rf))) (fun u9 t => zB D ((fun (u9 : Int × Int × Int) => match u9 with | (b1, r1, x) => [(qm, .inr (8, [.ref qT, .int (iI len), .int (iI op), .int (iI fp), .int (iI bu), .int (iI ra), .int (iI en), .ref qMe, .ref qPk, .ref qSz, .ref qSu, .ref qDa, .ref qLo, .ref qLe, .ref qNa, .ref qNs, .ref qSt, .ref qSa, .ref qCo, .ref qWr, .int (iI to), .int (iI nw), .int (iI b1), .int (iI r1), .ref qLn, .ref qSm, .ref qCd, .ref qSc, .int (iI sy), .int (iI di), .int (iI th)])), (qT, .inl (cT, 20000, .inl fT)), (qPk, .inl (cPk, 64, .inr (.inl (fun k => lI (fPk k))))), (qDa, .inl (cDa, 64, .inl (fun k => iI (fDa k))))]) u9) ((fun (u9 : Int × Int × Int) => match u9 with | (b1, r1, x) => [(cT, .byte), (cPk, .long), (cDa, .int)]) u9) (va_A [(qm, .inr (8, [.ref qT, .int (iI len), .int (iI op), .int (iI fp), .int (iI bu), .int (iI ra), .int (iI en), .ref qMe, .ref qPk, .ref qSz, .ref qSu, .ref qDa, .ref qLo, .ref qLe, .ref qNa, .ref qNs, .ref qSt, .ref qSa, .ref qCo, .ref qWr, .int (iI to), .int (iI nw), .int (iI bt), .int (iI rf), .ref qLn, .ref qSm, .ref qCd, .ref qSc, .int (iI sy), .int (iI di), .int (iI th)])), (qT, .inl (cT, 20000, .inl fT)), (qPk, .inl (cPk, 64, .inr (.inl (fun k => lI (fPk k))))), (qDa, .inl (cDa, 64, .inl (fun k => iI (fDa k))))] sz) t) (va_A [(qm, .inr (8, [.ref qT, .int (iI len), .int (iI op), .int (iI fp), .int (iI bu), .int (iI ra), .int (iI en), .ref qMe, .ref qPk, .ref qSz, .ref qSu, .ref qDa, .ref qLo, .ref qLe, .ref qNa, .ref qNs, .ref qSt, .ref qSa, .ref qCo, .ref qWr, .int (iI to), .int (iI nw), .int (iI bt), .int (iI rf), .ref qLn, .ref qSm, .ref qCd, .ref qSc, .int (iI sy), .int (iI di), .int (iI th)])), (qT, .inl (cT, 20000, .inl fT)), (qPk, .inl (cPk, 64, .inr (.inl (fun k => lI (fPk k))))), (qDa, .inl (cDa, 64, .inl (fun k => iI (fDa k))))] sz)) 0 0 (va_A [(qm, .inr (8, [.ref qT, .int (iI len), .int (iI op), .int (iI fp), .int (iI bu), .int (iI ra), .int (iI en), .ref qMe, .ref qPk, .ref qSz, .ref qSu, .ref qDa, .ref qLo, .ref qLe, .ref qNa, .ref qNs, .ref qSt, .ref qSa, .ref qCo, .ref qWr, .int (iI to), .int (iI nw), .int (iI bt), .int (iI rf), .ref qLn, .ref qSm, .ref qCd, .ref qSc, .int (iI sy), .int (iI di), .int (iI th)])), (qT, .inl (cT, 20000, .inl fT)), (qPk, .inl (cPk, 64, .inr (.inl (fun k => lI (fPk k))))), (qDa, .inl (cDa, 64, .inl (fun k => iI (fDa k))))] sz) :=
  zMet (Qf := fun A => va_Qi (fun (r : Int32) => fun (u9 : Int × Int × Int) => match u9 with | (b1, r1, x) => r = (iI x) ∧ ((zBq fT (8 * fDa nw.toNat + bt) (8 * (fDa nw.toNat + fPk nw.toNat)) (zLB y) (x - zLA y) rf r1 bt b1) ∧ 0 ≤ x ∧ x ≤ 300 ∧ bt ≤ b1 ∧ b1 ≤ 8 * fPk nw.toNat ∧ (-2147483648 ≤ r1 ∧ r1 ≤ 2147483647) ∧ (¬ rf = 0 → r1 = rf))) (fun u9 t => zB D ((fun (u9 : Int × Int × Int) => match u9 with | (b1, r1, x) => [(qm, .inr (8, [.ref qT, .int (iI len), .int (iI op), .int (iI fp), .int (iI bu), .int (iI ra), .int (iI en), .ref qMe, .ref qPk, .ref qSz, .ref qSu, .ref qDa, .ref qLo, .ref qLe, .ref qNa, .ref qNs, .ref qSt, .ref qSa, .ref qCo, .ref qWr, .int (iI to), .int (iI nw), .int (iI b1), .int (iI r1), .ref qLn, .ref qSm, .ref qCd, .ref qSc, .int (iI sy), .int (iI di), .int (iI th)])), (qT, .inl (cT, 20000, .inl fT)), (qPk, .inl (cPk, 64, .inr (.inl (fun k => lI (fPk k))))), (qDa, .inl (cDa, 64, .inl (fun k => iI (fDa k))))]) u9) ((fun (u9 : Int × Int × Int) => match u9 with | (b1, r1, x) => [(cT, .byte), (cPk, .long), (cDa, .int)]) u9) A t) A) (by decide) (Nat.le_of_ble_eq_true rfl) (fun p e s m below meth c A ls hx hb hr hml hown ht hlk hnm hA hK hP hD hX hl => by
    have hS : va_S A s.heap s.heap [] := va_S.rf
    have hl : lv_has ls 4 [(0, .ref qm), (1, .int (iI y))] := hl
    have hz5 : zp 5 = 32 := by decide
    refine lv_iload_n hx hb d_M_lengthOf_0 rfl (lv_at hl 1 rfl) ?_
    refine lv_sipush (v := iI 285) hx hb d_M_lengthOf_1 (by decide) ?_
    refine zv_icmp_ne (tgt := 11) hx hb d_M_lengthOf_4 (by decide) (by omega) (by omega) (fun hc_1 => ?_) (fun hc_1 => ?_)
    · skip
      refine lv_iload_n hx hb d_M_lengthOf_11 rfl (lv_at hl 1 rfl) ?_
      refine lv_sipush (v := iI 257) hx hb d_M_lengthOf_12 (by decide) ?_
      refine zv_isub (z := y - 257) hx hb d_M_lengthOf_15 (by omega) ?_
      refine lv_istore_n (lv' := [(2, .int (iI (y - 257))), (0, .ref qm), (1, .int (iI y))]) hx hb d_M_lengthOf_16 rfl hl (by decide) rfl (fun ls hl => ?_)
      refine lv_iload_n hx hb d_M_lengthOf_17 rfl (lv_at hl 0 rfl) ?_
      refine lv_bipush (v := iI 8) hx hb d_M_lengthOf_18 (by decide) ?_
      refine zv_icmp_ge (tgt := 27) hx hb d_M_lengthOf_20 (by decide) (by omega) (by omega) (fun hc_2 => ?_) (fun hc_2 => ?_)
      · skip
        refine lv_iload_n hx hb d_M_lengthOf_27 rfl (lv_at hl 0 rfl) ?_
        refine lv_iconst (v := iI 4) hx hb d_M_lengthOf_28 (by decide) ?_
        refine zv_idiv hx hb d_M_lengthOf_29 (by omega) (by omega) rfl ?_
        refine zv_nm (fun x_3 hz_4 => ?_)
        refine lv_iconst (v := iI 1) hx hb d_M_lengthOf_30 (by decide) ?_
        refine zv_isub (z := x_3 - 1) hx hb d_M_lengthOf_31 (by omega) ?_
        refine lv_istore_n (lv' := [(3, .int (iI (x_3 - 1))), (2, .int (iI (y - 257))), (0, .ref qm), (1, .int (iI y))]) hx hb d_M_lengthOf_32 rfl hl (by decide) rfl (fun ls hl => ?_)
        have hzl := zp_le (a := x_3 - 1) (b := 5) (by omega)
        have hzp := zp_pos (x_3 - 1)
        refine lv_iconst (v := iI 3) hx hb d_M_lengthOf_33 (by decide) ?_
        refine lv_iconst (v := iI 4) hx hb d_M_lengthOf_34 (by decide) ?_
        refine lv_iload_n hx hb d_M_lengthOf_35 rfl (lv_at hl 1 rfl) ?_
        refine lv_iconst (v := iI 4) hx hb d_M_lengthOf_36 (by decide) ?_
        refine zv_irem hx hb d_M_lengthOf_37 (by omega) (by omega) rfl ?_
        refine zv_nm (fun x_5 hz_6 => ?_)
        refine zv_iadd (z := x_5 + 4) hx hb d_M_lengthOf_38 (by omega) ?_
        refine lv_iload_n hx hb d_M_lengthOf_39 rfl (lv_at hl 0 rfl) ?_
        refine zv_ishlV hx hb d_M_lengthOf_40 (by omega) ?_
        refine zv_nm (fun x_7 hz_8 => ?_)
        have hm_9 := zmulc (a := (x_5 + 4)) (b := zp (x_3 - 1)) (A := 7) (B := 32) (by omega) (by omega)
        refine zv_iadd (z := x_7 + 3) hx hb d_M_lengthOf_41 (by omega) ?_
        refine lv_aload_n hx hb d_M_lengthOf_42 rfl (lv_at hl 2 rfl) ?_
        refine lv_iload_n hx hb d_M_lengthOf_43 rfl (lv_at hl 0 rfl) ?_
        refine zji (wr := []) (va_runV (As := [.int (iI (x_3 - 1))]) (rest := [.int (iI (x_7 + 3))]) ⟨hx, hb, hml, hown, ht⟩ (m_bits l D _ qm qT len op fp bu ra en qMe qPk qSz qSu qDa qLo qLe qNa qNs qSt qSa qCo qWr to nw bt rf qLn qSm qCd qSc sy di th cT fT cPk fPk cDa fDa (x_3 - 1) (by omega) (by omega) (by omega) (by omega) (by omega) (by omega)) (cwV 1 ht (zt_goodV zm_962 zm_963 zm_51 zm_79 zm_964) rfl rfl rfl (by decide +kernel) ⟨Nat.le_of_ble_eq_true rfl, Nat.le_of_ble_eq_true rfl⟩) (zpreV zBlind_t hK hP hD [0, 1, 2, 3] [0, 1, 2] rfl (by decide) rfl (fun _ _ _ => trivial) (va_recv (q := ("ZipGuardModel", F_M, 31)) hK hP rfl (q0 := 0) (ci := 8) rfl)) rfl rfl hl.1 rfl (lv_room (Nat.le_of_ble_eq_true rfl)) d_M_lengthOf_44 ⟨Nat.le_of_ble_eq_true rfl, Nat.le_of_ble_eq_true rfl⟩) hK hP hD hS hA [0, 1, 2, 3] [] rfl rfl (by decide) (by decide) (fun r13 u9 H locs hp14 hP hD hK hS => ?_)
        obtain ⟨b_10, r_11, x_12⟩ := u9
        dsimp only at hp14 hP hD hK
        have hP : va_P D zcl [(qm, .inr (8, [.ref qT, .int (iI len), .int (iI op), .int (iI fp), .int (iI bu), .int (iI ra), .int (iI en), .ref qMe, .ref qPk, .ref qSz, .ref qSu, .ref qDa, .ref qLo, .ref qLe, .ref qNa, .ref qNs, .ref qSt, .ref qSa, .ref qCo, .ref qWr, .int (iI to), .int (iI nw), .int (iI b_10), .int (iI r_11), .ref qLn, .ref qSm, .ref qCd, .ref qSc, .int (iI sy), .int (iI di), .int (iI th)])), (qT, .inl (cT, 20000, .inl fT)), (qPk, .inl (cPk, 64, .inr (.inl (fun k => lI (fPk k))))), (qDa, .inl (cDa, 64, .inl (fun k => iI (fDa k))))] H := hP
        have hD : va_D A [(qm, .inr (8, [.ref qT, .int (iI len), .int (iI op), .int (iI fp), .int (iI bu), .int (iI ra), .int (iI en), .ref qMe, .ref qPk, .ref qSz, .ref qSu, .ref qDa, .ref qLo, .ref qLe, .ref qNa, .ref qNs, .ref qSt, .ref qSa, .ref qCo, .ref qWr, .int (iI to), .int (iI nw), .int (iI b_10), .int (iI r_11), .ref qLn, .ref qSm, .ref qCd, .ref qSc, .int (iI sy), .int (iI di), .int (iI th)])), (qT, .inl (cT, 20000, .inl fT)), (qPk, .inl (cPk, 64, .inr (.inl (fun k => lI (fPk k))))), (qDa, .inl (cDa, 64, .inl (fun k => iI (fDa k))))] := hD
        have hK : va_K D zcl [(cT, .byte), (cPk, .long), (cDa, .int), (cT, .byte), (cPk, .long), (cDa, .int)] s := hK
        obtain ⟨he_15, hp14⟩ := hp14
        subst he_15
        have hP := hP.sub (ws' := [(qm, .inr (8, [.ref qT, .int (iI len), .int (iI op), .int (iI fp), .int (iI bu), .int (iI ra), .int (iI en), .ref qMe, .ref qPk, .ref qSz, .ref qSu, .ref qDa, .ref qLo, .ref qLe, .ref qNa, .ref qNs, .ref qSt, .ref qSa, .ref qCo, .ref qWr, .int (iI to), .int (iI nw), .int (iI b_10), .int (iI r_11), .ref qLn, .ref qSm, .ref qCd, .ref qSc, .int (iI sy), .int (iI di), .int (iI th)])), (qT, .inl (cT, 20000, .inl fT)), (qPk, .inl (cPk, 64, .inr (.inl (fun k => lI (fPk k))))), (qDa, .inl (cDa, 64, .inl (fun k => iI (fDa k))))]) [0, 1, 2, 3] rfl
        have hD := hD.sub (ws' := [(qm, .inr (8, [.ref qT, .int (iI len), .int (iI op), .int (iI fp), .int (iI bu), .int (iI ra), .int (iI en), .ref qMe, .ref qPk, .ref qSz, .ref qSu, .ref qDa, .ref qLo, .ref qLe, .ref qNa, .ref qNs, .ref qSt, .ref qSa, .ref qCo, .ref qWr, .int (iI to), .int (iI nw), .int (iI b_10), .int (iI r_11), .ref qLn, .ref qSm, .ref qCd, .ref qSc, .int (iI sy), .int (iI di), .int (iI th)])), (qT, .inl (cT, 20000, .inl fT)), (qPk, .inl (cPk, 64, .inr (.inl (fun k => lI (fPk k))))), (qDa, .inl (cDa, 64, .inl (fun k => iI (fDa k))))]) [0, 1, 2, 3] (by decide) rfl
        have hK := hK.sub (tys' := [(cT, .byte), (cPk, .long), (cDa, .int)]) [0, 1, 2] rfl
        refine zv_iadd (z := x_7 + x_12 + 3) hx hb d_M_lengthOf_47 (by omega) ?_
        exact zreti hx hb hr hlk hK hP hD hS (b_10, r_11, x_7 + x_12 + 3) [0, 1, 2, 3] [0, 1, 2] rfl (by decide) rfl (⟨rfl, ⟨by have h9 := zLen_b (by omega) hz_4 hz_6 hz_8; exact ⟨by rw [show zLB y = x_3 - 1 by omega, show x_7 + x_12 + 3 - zLA y = x_12 by omega]; exact hp14.1, fun h8 => by omega⟩, by omega⟩⟩) (Nat.le_of_ble_eq_true rfl) (Nat.le_of_ble_eq_true rfl) d_M_lengthOf_48
      · skip
        refine lv_iconst (v := iI 3) hx hb d_M_lengthOf_23 (by decide) ?_
        refine lv_iload_n hx hb d_M_lengthOf_24 rfl (lv_at hl 0 rfl) ?_
        refine zv_iadd (z := y - 254) hx hb d_M_lengthOf_25 (by omega) ?_
        exact zreti hx hb hr hlk hK hP hD hS (bt, rf, y - 254) [0, 1, 2, 3] [0, 1, 2] rfl (by decide) rfl (⟨rfl, ⟨by have h9 := zLen_a (y := y) (by omega); exact zBq_0 (by omega) (by omega) (by omega) rfl rfl, by omega⟩⟩) (Nat.le_of_ble_eq_true rfl) (Nat.le_of_ble_eq_true rfl) d_M_lengthOf_26
    · skip
      have hy9 : y = 285 := by omega
      refine lv_sipush (v := iI 258) hx hb d_M_lengthOf_7 (by decide) ?_
      exact zreti hx hb hr hlk hK hP hD hS (bt, rf, 258) [0, 1, 2, 3] [0, 1, 2] rfl (by decide) rfl (⟨rfl, ⟨by have h9 := (show zLA y = 258 ∧ zLB y = 0 by rw [hy9]; exact zLen_c); exact zBq_0 (by omega) (by omega) (by omega) rfl rfl, by omega⟩⟩) (Nat.le_of_ble_eq_true rfl) (Nat.le_of_ble_eq_true rfl) d_M_lengthOf_10)
set_option maxHeartbeats 4000000 in
set_option maxRecDepth 100000 in
theorem m_dis (l : Launch) (D : va_G) (sz : Nat) (qm : Nat) (qT : Nat) (len : Int) (op : Int) (fp : Int) (bu : Int) (ra : Int) (en : Int) (qMe : Nat) (qPk : Nat) (qSz : Nat) (qSu : Nat) (qDa : Nat) (qLo : Nat) (qLe : Nat) (qNa : Nat) (qNs : Nat) (qSt : Nat) (qSa : Nat) (qCo : Nat) (qWr : Nat) (to : Int) (nw : Int) (bt : Int) (rf : Int) (qLn : Nat) (qSm : Nat) (qCd : Nat) (qSc : Nat) (sy : Int) (di : Int) (th : Int) (cT : ClassId) (fT : Nat → Int32) (cPk : ClassId) (fPk : Nat → Int) (cDa : ClassId) (fDa : Nat → Int) (y : Int) (hnw : 0 ≤ nw ∧ nw < 64) (hrf : -2147483648 ≤ rf ∧ rf ≤ 2147483647) (hpk : 0 ≤ fPk nw.toNat ∧ fPk nw.toNat ≤ 20000) (hda : 0 ≤ fDa nw.toNat ∧ fDa nw.toNat + fPk nw.toNat ≤ 20000) (hbt : 0 ≤ bt ∧ bt ≤ 8 * fPk nw.toNat) (hy : 0 ≤ y ∧ y ≤ 29) : Met l y_M_distanceOf (Cond.code y_M_distanceOf prog_10_method_39_code 3 (Option.some Jvm.ClassFile.FieldType.int) :: zt) { frames := 2, cells := 0, slots := 0, locals := 45 } (zPc [.ref qm, .int (iI y)] D [(qm, .inr (8, [.ref qT, .int (iI len), .int (iI op), .int (iI fp), .int (iI bu), .int (iI ra), .int (iI en), .ref qMe, .ref qPk, .ref qSz, .ref qSu, .ref qDa, .ref qLo, .ref qLe, .ref qNa, .ref qNs, .ref qSt, .ref qSa, .ref qCo, .ref qWr, .int (iI to), .int (iI nw), .int (iI bt), .int (iI rf), .ref qLn, .ref qSm, .ref qCd, .ref qSc, .int (iI sy), .int (iI di), .int (iI th)])), (qT, .inl (cT, 20000, .inl fT)), (qPk, .inl (cPk, 64, .inr (.inl (fun k => lI (fPk k))))), (qDa, .inl (cDa, 64, .inl (fun k => iI (fDa k))))] [(cT, .byte), (cPk, .long), (cDa, .int)] sz (fun _ => True)) (va_Qi (fun (r : Int32) => fun (u9 : Int × Int × Int) => match u9 with | (b1, r1, x) => r = (iI x) ∧ ((zBq fT (8 * fDa nw.toNat + bt) (8 * (fDa nw.toNat + fPk nw.toNat)) (zDB y) (x - zDA y) rf r1 bt b1) ∧ 1 ≤ x ∧ x ≤ 40000 ∧ bt ≤ b1 ∧ b1 ≤ 8 * fPk nw.toNat ∧ (-2147483648 ≤ r1 ∧ r1 ≤ 2147483647) ∧ (¬ rf = 0 → r1 = rf))) (fun u9 t => zB D ((fun (u9 : Int × Int × Int) => match u9 with | (b1, r1, x) => [(qm, .inr (8, [.ref qT, .int (iI len), .int (iI op), .int (iI fp), .int (iI bu), .int (iI ra), .int (iI en), .ref qMe, .ref qPk, .ref qSz, .ref qSu, .ref qDa, .ref qLo, .ref qLe, .ref qNa, .ref qNs, .ref qSt, .ref qSa, .ref qCo, .ref qWr, .int (iI to), .int (iI nw), .int (iI b1), .int (iI r1), .ref qLn, .ref qSm, .ref qCd, .ref qSc, .int (iI sy), .int (iI di), .int (iI th)])), (qT, .inl (cT, 20000, .inl fT)), (qPk, .inl (cPk, 64, .inr (.inl (fun k => lI (fPk k))))), (qDa, .inl (cDa, 64, .inl (fun k => iI (fDa k))))]) u9) ((fun (u9 : Int × Int × Int) => match u9 with | (b1, r1, x) => [(cT, .byte), (cPk, .long), (cDa, .int)]) u9) (va_A [(qm, .inr (8, [.ref qT, .int (iI len), .int (iI op), .int (iI fp), .int (iI bu), .int (iI ra), .int (iI en), .ref qMe, .ref qPk, .ref qSz, .ref qSu, .ref qDa, .ref qLo, .ref qLe, .ref qNa, .ref qNs, .ref qSt, .ref qSa, .ref qCo, .ref qWr, .int (iI to), .int (iI nw), .int (iI bt), .int (iI rf), .ref qLn, .ref qSm, .ref qCd, .ref qSc, .int (iI sy), .int (iI di), .int (iI th)])), (qT, .inl (cT, 20000, .inl fT)), (qPk, .inl (cPk, 64, .inr (.inl (fun k => lI (fPk k))))), (qDa, .inl (cDa, 64, .inl (fun k => iI (fDa k))))] sz) t) (va_A [(qm, .inr (8, [.ref qT, .int (iI len), .int (iI op), .int (iI fp), .int (iI bu), .int (iI ra), .int (iI en), .ref qMe, .ref qPk, .ref qSz, .ref qSu, .ref qDa, .ref qLo, .ref qLe, .ref qNa, .ref qNs, .ref qSt, .ref qSa, .ref qCo, .ref qWr, .int (iI to), .int (iI nw), .int (iI bt), .int (iI rf), .ref qLn, .ref qSm, .ref qCd, .ref qSc, .int (iI sy), .int (iI di), .int (iI th)])), (qT, .inl (cT, 20000, .inl fT)), (qPk, .inl (cPk, 64, .inr (.inl (fun k => lI (fPk k))))), (qDa, .inl (cDa, 64, .inl (fun k => iI (fDa k))))] sz)) 0 0 (va_A [(qm, .inr (8, [.ref qT, .int (iI len), .int (iI op), .int (iI fp), .int (iI bu), .int (iI ra), .int (iI en), .ref qMe, .ref qPk, .ref qSz, .ref qSu, .ref qDa, .ref qLo, .ref qLe, .ref qNa, .ref qNs, .ref qSt, .ref qSa, .ref qCo, .ref qWr, .int (iI to), .int (iI nw), .int (iI bt), .int (iI rf), .ref qLn, .ref qSm, .ref qCd, .ref qSc, .int (iI sy), .int (iI di), .int (iI th)])), (qT, .inl (cT, 20000, .inl fT)), (qPk, .inl (cPk, 64, .inr (.inl (fun k => lI (fPk k))))), (qDa, .inl (cDa, 64, .inl (fun k => iI (fDa k))))] sz) :=
  zMet (Qf := fun A => va_Qi (fun (r : Int32) => fun (u9 : Int × Int × Int) => match u9 with | (b1, r1, x) => r = (iI x) ∧ ((zBq fT (8 * fDa nw.toNat + bt) (8 * (fDa nw.toNat + fPk nw.toNat)) (zDB y) (x - zDA y) rf r1 bt b1) ∧ 1 ≤ x ∧ x ≤ 40000 ∧ bt ≤ b1 ∧ b1 ≤ 8 * fPk nw.toNat ∧ (-2147483648 ≤ r1 ∧ r1 ≤ 2147483647) ∧ (¬ rf = 0 → r1 = rf))) (fun u9 t => zB D ((fun (u9 : Int × Int × Int) => match u9 with | (b1, r1, x) => [(qm, .inr (8, [.ref qT, .int (iI len), .int (iI op), .int (iI fp), .int (iI bu), .int (iI ra), .int (iI en), .ref qMe, .ref qPk, .ref qSz, .ref qSu, .ref qDa, .ref qLo, .ref qLe, .ref qNa, .ref qNs, .ref qSt, .ref qSa, .ref qCo, .ref qWr, .int (iI to), .int (iI nw), .int (iI b1), .int (iI r1), .ref qLn, .ref qSm, .ref qCd, .ref qSc, .int (iI sy), .int (iI di), .int (iI th)])), (qT, .inl (cT, 20000, .inl fT)), (qPk, .inl (cPk, 64, .inr (.inl (fun k => lI (fPk k))))), (qDa, .inl (cDa, 64, .inl (fun k => iI (fDa k))))]) u9) ((fun (u9 : Int × Int × Int) => match u9 with | (b1, r1, x) => [(cT, .byte), (cPk, .long), (cDa, .int)]) u9) A t) A) (by decide) (Nat.le_of_ble_eq_true rfl) (fun p e s m below meth c A ls hx hb hr hml hown ht hlk hnm hA hK hP hD hX hl => by
    have hS : va_S A s.heap s.heap [] := va_S.rf
    have hl : lv_has ls 3 [(0, .ref qm), (1, .int (iI y))] := hl
    have hz13 : zp 13 = 8192 := by decide
    refine lv_iload_n hx hb d_M_distanceOf_0 rfl (lv_at hl 1 rfl) ?_
    refine lv_iconst (v := iI 4) hx hb d_M_distanceOf_1 (by decide) ?_
    refine zv_icmp_ge (tgt := 9) hx hb d_M_distanceOf_2 (by decide) (by omega) (by omega) (fun hc_1 => ?_) (fun hc_1 => ?_)
    · skip
      refine lv_iload_n hx hb d_M_distanceOf_9 rfl (lv_at hl 1 rfl) ?_
      refine lv_iconst (v := iI 2) hx hb d_M_distanceOf_10 (by decide) ?_
      refine zv_idiv hx hb d_M_distanceOf_11 (by omega) (by omega) rfl ?_
      refine zv_nm (fun x_2 hz_3 => ?_)
      refine lv_iconst (v := iI 1) hx hb d_M_distanceOf_12 (by decide) ?_
      refine zv_isub (z := x_2 - 1) hx hb d_M_distanceOf_13 (by omega) ?_
      refine lv_istore_n (lv' := [(2, .int (iI (x_2 - 1))), (0, .ref qm), (1, .int (iI y))]) hx hb d_M_distanceOf_14 rfl hl (by decide) rfl (fun ls hl => ?_)
      have hzl := zp_le (a := x_2 - 1) (b := 13) (by omega)
      have hzp := zp_pos (x_2 - 1)
      refine lv_iconst (v := iI 1) hx hb d_M_distanceOf_15 (by decide) ?_
      refine lv_iconst (v := iI 2) hx hb d_M_distanceOf_16 (by decide) ?_
      refine lv_iload_n hx hb d_M_distanceOf_17 rfl (lv_at hl 2 rfl) ?_
      refine lv_iconst (v := iI 2) hx hb d_M_distanceOf_18 (by decide) ?_
      refine zv_irem hx hb d_M_distanceOf_19 (by omega) (by omega) rfl ?_
      refine zv_nm (fun x_4 hz_5 => ?_)
      refine zv_iadd (z := x_4 + 2) hx hb d_M_distanceOf_20 (by omega) ?_
      refine lv_iload_n hx hb d_M_distanceOf_21 rfl (lv_at hl 0 rfl) ?_
      refine zv_ishlV hx hb d_M_distanceOf_22 (by omega) ?_
      refine zv_nm (fun x_6 hz_7 => ?_)
      have hm_8 := zmulc (a := (x_4 + 2)) (b := zp (x_2 - 1)) (A := 3) (B := 8192) (by omega) (by omega)
      refine zv_iadd (z := x_6 + 1) hx hb d_M_distanceOf_23 (by omega) ?_
      refine lv_aload_n hx hb d_M_distanceOf_24 rfl (lv_at hl 1 rfl) ?_
      refine lv_iload_n hx hb d_M_distanceOf_25 rfl (lv_at hl 0 rfl) ?_
      refine zji (wr := []) (va_runV (As := [.int (iI (x_2 - 1))]) (rest := [.int (iI (x_6 + 1))]) ⟨hx, hb, hml, hown, ht⟩ (m_bits l D _ qm qT len op fp bu ra en qMe qPk qSz qSu qDa qLo qLe qNa qNs qSt qSa qCo qWr to nw bt rf qLn qSm qCd qSc sy di th cT fT cPk fPk cDa fDa (x_2 - 1) (by omega) (by omega) (by omega) (by omega) (by omega) (by omega)) (cwV 1 ht (zt_goodV zm_962 zm_963 zm_51 zm_79 zm_964) rfl rfl rfl (by decide +kernel) ⟨Nat.le_of_ble_eq_true rfl, Nat.le_of_ble_eq_true rfl⟩) (zpreV zBlind_t hK hP hD [0, 1, 2, 3] [0, 1, 2] rfl (by decide) rfl (fun _ _ _ => trivial) (va_recv (q := ("ZipGuardModel", F_M, 31)) hK hP rfl (q0 := 0) (ci := 8) rfl)) rfl rfl hl.1 rfl (lv_room (Nat.le_of_ble_eq_true rfl)) d_M_distanceOf_26 ⟨Nat.le_of_ble_eq_true rfl, Nat.le_of_ble_eq_true rfl⟩) hK hP hD hS hA [0, 1, 2, 3] [] rfl rfl (by decide) (by decide) (fun r12 u9 H locs hp13 hP hD hK hS => ?_)
      obtain ⟨b_9, r_10, x_11⟩ := u9
      dsimp only at hp13 hP hD hK
      have hP : va_P D zcl [(qm, .inr (8, [.ref qT, .int (iI len), .int (iI op), .int (iI fp), .int (iI bu), .int (iI ra), .int (iI en), .ref qMe, .ref qPk, .ref qSz, .ref qSu, .ref qDa, .ref qLo, .ref qLe, .ref qNa, .ref qNs, .ref qSt, .ref qSa, .ref qCo, .ref qWr, .int (iI to), .int (iI nw), .int (iI b_9), .int (iI r_10), .ref qLn, .ref qSm, .ref qCd, .ref qSc, .int (iI sy), .int (iI di), .int (iI th)])), (qT, .inl (cT, 20000, .inl fT)), (qPk, .inl (cPk, 64, .inr (.inl (fun k => lI (fPk k))))), (qDa, .inl (cDa, 64, .inl (fun k => iI (fDa k))))] H := hP
      have hD : va_D A [(qm, .inr (8, [.ref qT, .int (iI len), .int (iI op), .int (iI fp), .int (iI bu), .int (iI ra), .int (iI en), .ref qMe, .ref qPk, .ref qSz, .ref qSu, .ref qDa, .ref qLo, .ref qLe, .ref qNa, .ref qNs, .ref qSt, .ref qSa, .ref qCo, .ref qWr, .int (iI to), .int (iI nw), .int (iI b_9), .int (iI r_10), .ref qLn, .ref qSm, .ref qCd, .ref qSc, .int (iI sy), .int (iI di), .int (iI th)])), (qT, .inl (cT, 20000, .inl fT)), (qPk, .inl (cPk, 64, .inr (.inl (fun k => lI (fPk k))))), (qDa, .inl (cDa, 64, .inl (fun k => iI (fDa k))))] := hD
      have hK : va_K D zcl [(cT, .byte), (cPk, .long), (cDa, .int), (cT, .byte), (cPk, .long), (cDa, .int)] s := hK
      obtain ⟨he_14, hp13⟩ := hp13
      subst he_14
      have hP := hP.sub (ws' := [(qm, .inr (8, [.ref qT, .int (iI len), .int (iI op), .int (iI fp), .int (iI bu), .int (iI ra), .int (iI en), .ref qMe, .ref qPk, .ref qSz, .ref qSu, .ref qDa, .ref qLo, .ref qLe, .ref qNa, .ref qNs, .ref qSt, .ref qSa, .ref qCo, .ref qWr, .int (iI to), .int (iI nw), .int (iI b_9), .int (iI r_10), .ref qLn, .ref qSm, .ref qCd, .ref qSc, .int (iI sy), .int (iI di), .int (iI th)])), (qT, .inl (cT, 20000, .inl fT)), (qPk, .inl (cPk, 64, .inr (.inl (fun k => lI (fPk k))))), (qDa, .inl (cDa, 64, .inl (fun k => iI (fDa k))))]) [0, 1, 2, 3] rfl
      have hD := hD.sub (ws' := [(qm, .inr (8, [.ref qT, .int (iI len), .int (iI op), .int (iI fp), .int (iI bu), .int (iI ra), .int (iI en), .ref qMe, .ref qPk, .ref qSz, .ref qSu, .ref qDa, .ref qLo, .ref qLe, .ref qNa, .ref qNs, .ref qSt, .ref qSa, .ref qCo, .ref qWr, .int (iI to), .int (iI nw), .int (iI b_9), .int (iI r_10), .ref qLn, .ref qSm, .ref qCd, .ref qSc, .int (iI sy), .int (iI di), .int (iI th)])), (qT, .inl (cT, 20000, .inl fT)), (qPk, .inl (cPk, 64, .inr (.inl (fun k => lI (fPk k))))), (qDa, .inl (cDa, 64, .inl (fun k => iI (fDa k))))]) [0, 1, 2, 3] (by decide) rfl
      have hK := hK.sub (tys' := [(cT, .byte), (cPk, .long), (cDa, .int)]) [0, 1, 2] rfl
      refine zv_iadd (z := x_6 + x_11 + 1) hx hb d_M_distanceOf_29 (by omega) ?_
      exact zreti hx hb hr hlk hK hP hD hS (b_9, r_10, x_6 + x_11 + 1) [0, 1, 2, 3] [0, 1, 2] rfl (by decide) rfl (⟨rfl, ⟨by have h9 := zDis_b (by omega) hz_3 hz_5 hz_7; exact ⟨by rw [show zDB y = x_2 - 1 by omega, show x_6 + x_11 + 1 - zDA y = x_11 by omega]; exact hp13.1, fun h8 => by omega⟩, by omega⟩⟩) (Nat.le_of_ble_eq_true rfl) (Nat.le_of_ble_eq_true rfl) d_M_distanceOf_30
    · skip
      refine lv_iconst (v := iI 1) hx hb d_M_distanceOf_5 (by decide) ?_
      refine lv_iload_n hx hb d_M_distanceOf_6 rfl (lv_at hl 1 rfl) ?_
      refine zv_iadd (z := y + 1) hx hb d_M_distanceOf_7 (by omega) ?_
      exact zreti hx hb hr hlk hK hP hD hS (bt, rf, y + 1) [0, 1, 2, 3] [0, 1, 2] rfl (by decide) rfl (⟨rfl, ⟨by have h9 := zDis_a (y := y) (by omega); exact zBq_0 (by omega) (by omega) (by omega) rfl rfl, by omega⟩⟩) (Nat.le_of_ble_eq_true rfl) (Nat.le_of_ble_eq_true rfl) d_M_distanceOf_8)
set_option maxHeartbeats 4000000 in
set_option maxRecDepth 100000 in
theorem m_copy (l : Launch) (D : va_G) (sz : Nat) (qm : Nat) (qT : Nat) (len : Int) (op : Int) (fp : Int) (bu : Int) (ra : Int) (en : Int) (qMe : Nat) (qPk : Nat) (qSz : Nat) (qSu : Nat) (qDa : Nat) (qLo : Nat) (qLe : Nat) (qNa : Nat) (qNs : Nat) (qSt : Nat) (qSa : Nat) (qCo : Nat) (qWr : Nat) (to : Int) (nw : Int) (bt : Int) (rf : Int) (qLn : Nat) (qSm : Nat) (qCd : Nat) (qSc : Nat) (sy : Int) (di : Int) (th : Int) (cPk : ClassId) (fPk : Nat → Int) (cSz : ClassId) (fSz : Nat → Int64) (cCo : ClassId) (fCo : Nat → Int) (cWr : ClassId) (fWr : Nat → Int32) (le : Int) (ds : Int) (cs : Int) (hnw : 0 ≤ nw ∧ nw < 64) (hrf : -2147483648 ≤ rf ∧ rf ≤ 2147483647) (hpk : 0 ≤ fPk nw.toNat ∧ fPk nw.toNat ≤ 20000) (hlim : 0 ≤ bu ∧ bu ≤ 40000 ∧ 0 ≤ ra ∧ ra ≤ 2000) (hco : 0 ≤ fCo nw.toNat ∧ fCo nw.toNat ≤ to ∧ to ≤ 40000) (hld : 0 ≤ le ∧ le ≤ 300 ∧ 1 ≤ ds ∧ ds ≤ 40000) (hr0 : rf = 0) (hcs : 0 ≤ cs ∧ cs + fCo nw.toNat = to) : Met l y_M_copy (Cond.code y_M_copy prog_10_method_40_code 4 (Option.none : Option Jvm.ClassFile.FieldType) :: zt) { frames := 2, cells := 0, slots := 0, locals := 42 } (zPc [.ref qm, .int (iI le), .int (iI ds)] D [(qm, .inr (8, [.ref qT, .int (iI len), .int (iI op), .int (iI fp), .int (iI bu), .int (iI ra), .int (iI en), .ref qMe, .ref qPk, .ref qSz, .ref qSu, .ref qDa, .ref qLo, .ref qLe, .ref qNa, .ref qNs, .ref qSt, .ref qSa, .ref qCo, .ref qWr, .int (iI to), .int (iI nw), .int (iI bt), .int (iI rf), .ref qLn, .ref qSm, .ref qCd, .ref qSc, .int (iI sy), .int (iI di), .int (iI th)])), (qPk, .inl (cPk, 64, .inr (.inl (fun k => lI (fPk k))))), (qSz, .inl (cSz, 64, .inr (.inl fSz))), (qCo, .inl (cCo, 64, .inl (fun k => iI (fCo k)))), (qWr, .inl (cWr, 40000, .inl fWr))] [(cPk, .long), (cSz, .long), (cCo, .int), (cWr, .byte)] sz (fun _ => True)) (va_Qv (fun (u9 : Int × Int × (Nat → Int) × (Nat → Int32)) => match u9 with | (to1, r1, fc1, fw1) => (∀ k : Nat, k ≠ nw.toNat → fc1 k = fCo k) ∧ (zCy bu ra (fPk nw.toNat) (fSz nw.toNat) cs le ds to (fCo nw.toNat) to1 (fc1 nw.toNat) r1 fWr fw1) ∧ (-2147483648 ≤ r1 ∧ r1 ≤ 2147483647) ∧ to ≤ to1 ∧ to1 ≤ 40000 ∧ fc1 nw.toNat - fCo nw.toNat = to1 - to ∧ 0 ≤ r1 ∧ r1 ≤ 36) (fun u9 t => zB D ((fun (u9 : Int × Int × (Nat → Int) × (Nat → Int32)) => match u9 with | (to1, r1, fc1, fw1) => [(qm, .inr (8, [.ref qT, .int (iI len), .int (iI op), .int (iI fp), .int (iI bu), .int (iI ra), .int (iI en), .ref qMe, .ref qPk, .ref qSz, .ref qSu, .ref qDa, .ref qLo, .ref qLe, .ref qNa, .ref qNs, .ref qSt, .ref qSa, .ref qCo, .ref qWr, .int (iI to1), .int (iI nw), .int (iI bt), .int (iI r1), .ref qLn, .ref qSm, .ref qCd, .ref qSc, .int (iI sy), .int (iI di), .int (iI th)])), (qPk, .inl (cPk, 64, .inr (.inl (fun k => lI (fPk k))))), (qSz, .inl (cSz, 64, .inr (.inl fSz))), (qCo, .inl (cCo, 64, .inl (fun k => iI (fc1 k)))), (qWr, .inl (cWr, 40000, .inl fw1))]) u9) ((fun (u9 : Int × Int × (Nat → Int) × (Nat → Int32)) => match u9 with | (to1, r1, fc1, fw1) => [(cPk, .long), (cSz, .long), (cCo, .int), (cWr, .byte)]) u9) (va_A [(qm, .inr (8, [.ref qT, .int (iI len), .int (iI op), .int (iI fp), .int (iI bu), .int (iI ra), .int (iI en), .ref qMe, .ref qPk, .ref qSz, .ref qSu, .ref qDa, .ref qLo, .ref qLe, .ref qNa, .ref qNs, .ref qSt, .ref qSa, .ref qCo, .ref qWr, .int (iI to), .int (iI nw), .int (iI bt), .int (iI rf), .ref qLn, .ref qSm, .ref qCd, .ref qSc, .int (iI sy), .int (iI di), .int (iI th)])), (qPk, .inl (cPk, 64, .inr (.inl (fun k => lI (fPk k))))), (qSz, .inl (cSz, 64, .inr (.inl fSz))), (qCo, .inl (cCo, 64, .inl (fun k => iI (fCo k)))), (qWr, .inl (cWr, 40000, .inl fWr))] sz) t) (va_A [(qm, .inr (8, [.ref qT, .int (iI len), .int (iI op), .int (iI fp), .int (iI bu), .int (iI ra), .int (iI en), .ref qMe, .ref qPk, .ref qSz, .ref qSu, .ref qDa, .ref qLo, .ref qLe, .ref qNa, .ref qNs, .ref qSt, .ref qSa, .ref qCo, .ref qWr, .int (iI to), .int (iI nw), .int (iI bt), .int (iI rf), .ref qLn, .ref qSm, .ref qCd, .ref qSc, .int (iI sy), .int (iI di), .int (iI th)])), (qPk, .inl (cPk, 64, .inr (.inl (fun k => lI (fPk k))))), (qSz, .inl (cSz, 64, .inr (.inl fSz))), (qCo, .inl (cCo, 64, .inl (fun k => iI (fCo k)))), (qWr, .inl (cWr, 40000, .inl fWr))] sz)) 0 0 (va_A [(qm, .inr (8, [.ref qT, .int (iI len), .int (iI op), .int (iI fp), .int (iI bu), .int (iI ra), .int (iI en), .ref qMe, .ref qPk, .ref qSz, .ref qSu, .ref qDa, .ref qLo, .ref qLe, .ref qNa, .ref qNs, .ref qSt, .ref qSa, .ref qCo, .ref qWr, .int (iI to), .int (iI nw), .int (iI bt), .int (iI rf), .ref qLn, .ref qSm, .ref qCd, .ref qSc, .int (iI sy), .int (iI di), .int (iI th)])), (qPk, .inl (cPk, 64, .inr (.inl (fun k => lI (fPk k))))), (qSz, .inl (cSz, 64, .inr (.inl fSz))), (qCo, .inl (cCo, 64, .inl (fun k => iI (fCo k)))), (qWr, .inl (cWr, 40000, .inl fWr))] sz) :=
  zMet (Qf := fun A => va_Qv (fun (u9 : Int × Int × (Nat → Int) × (Nat → Int32)) => match u9 with | (to1, r1, fc1, fw1) => (∀ k : Nat, k ≠ nw.toNat → fc1 k = fCo k) ∧ (zCy bu ra (fPk nw.toNat) (fSz nw.toNat) cs le ds to (fCo nw.toNat) to1 (fc1 nw.toNat) r1 fWr fw1) ∧ (-2147483648 ≤ r1 ∧ r1 ≤ 2147483647) ∧ to ≤ to1 ∧ to1 ≤ 40000 ∧ fc1 nw.toNat - fCo nw.toNat = to1 - to ∧ 0 ≤ r1 ∧ r1 ≤ 36) (fun u9 t => zB D ((fun (u9 : Int × Int × (Nat → Int) × (Nat → Int32)) => match u9 with | (to1, r1, fc1, fw1) => [(qm, .inr (8, [.ref qT, .int (iI len), .int (iI op), .int (iI fp), .int (iI bu), .int (iI ra), .int (iI en), .ref qMe, .ref qPk, .ref qSz, .ref qSu, .ref qDa, .ref qLo, .ref qLe, .ref qNa, .ref qNs, .ref qSt, .ref qSa, .ref qCo, .ref qWr, .int (iI to1), .int (iI nw), .int (iI bt), .int (iI r1), .ref qLn, .ref qSm, .ref qCd, .ref qSc, .int (iI sy), .int (iI di), .int (iI th)])), (qPk, .inl (cPk, 64, .inr (.inl (fun k => lI (fPk k))))), (qSz, .inl (cSz, 64, .inr (.inl fSz))), (qCo, .inl (cCo, 64, .inl (fun k => iI (fc1 k)))), (qWr, .inl (cWr, 40000, .inl fw1))]) u9) ((fun (u9 : Int × Int × (Nat → Int) × (Nat → Int32)) => match u9 with | (to1, r1, fc1, fw1) => [(cPk, .long), (cSz, .long), (cCo, .int), (cWr, .byte)]) u9) A t) A) (by decide) (Nat.le_of_ble_eq_true rfl) (fun p e s m below meth c A ls hx hb hr hml hown ht hlk hnm hA hK hP hD hX hl => by
    have hS : va_S A s.heap s.heap [] := va_S.rf
    have hl : lv_has ls 4 [(0, .ref qm), (1, .int (iI le)), (2, .int (iI ds))] := hl
    refine lv_iload_n hx hb d_M_copy_0 rfl (lv_at hl 2 rfl) ?_
    refine lv_aload_n hx hb d_M_copy_1 rfl (lv_at hl 0 rfl) ?_
    refine va_get (ci := 8) (C := "ZipGuardModel") (T := F_M) (N := 31) hx hb ht zi_M hown hK hP 0 rfl rfl 18 (by decide) (ht _ zm_770) (fun _ h9 => h9) rfl d_M_copy_2 ?_
    refine lv_aload_n hx hb d_M_copy_5 rfl (lv_at hl 0 rfl) ?_
    refine va_get (ci := 8) (C := "ZipGuardModel") (T := F_M) (N := 31) hx hb ht zi_M hown hK hP 0 rfl rfl 21 (by decide) (ht _ zm_773) (fun _ h9 => h9) rfl d_M_copy_6 ?_
    refine zv_iald hx hb hK hP 3 2 rfl rfl (by omega) (by decide) d_M_copy_9 (fun x_1 hz_2 => ?_)
    refine zv_icmp_le (tgt := 21) hx hb d_M_copy_10 (by decide) (by omega) (by omega) (fun hc_3 => ?_) (fun hc_3 => ?_)
    · skip
      refine lv_iconst (v := iI 0) hx hb d_M_copy_21 (by decide) ?_
      refine lv_istore_n (lv' := [(3, .int (iI 0)), (0, .ref qm), (1, .int (iI le)), (2, .int (iI ds))]) hx hb d_M_copy_22 rfl hl (by decide) rfl (fun ls hl => ?_)
      have lp23 : ∀ (j : Nat) (k : Int) (t2 : Int) (r2 : Int) (fc2 : Nat → Int) (fw2 : Nat → Int32) (H : Heap) (locs : List Loc) (ls : Array Slot), (0 ≤ k ∧ k ≤ le) → (0 ≤ r2 ∧ r2 ≤ 36) → (∀ k : Nat, k ≠ nw.toNat → fc2 k = fCo k) → (-2147483648 ≤ r2 ∧ r2 ≤ 2147483647) → (to ≤ t2 ∧ t2 ≤ 40000 ∧ fc2 nw.toNat - fCo nw.toNat = t2 - to) → (zAg bu ra (fPk nw.toNat) (fSz nw.toNat) cs ds le k (zOo to (fCo nw.toNat) cs fWr) t2 (fc2 nw.toNat) r2 fw2) → (le - k < (j : Int)) → va_P D zcl [(qm, .inr (8, [.ref qT, .int (iI len), .int (iI op), .int (iI fp), .int (iI bu), .int (iI ra), .int (iI en), .ref qMe, .ref qPk, .ref qSz, .ref qSu, .ref qDa, .ref qLo, .ref qLe, .ref qNa, .ref qNs, .ref qSt, .ref qSa, .ref qCo, .ref qWr, .int (iI t2), .int (iI nw), .int (iI bt), .int (iI r2), .ref qLn, .ref qSm, .ref qCd, .ref qSc, .int (iI sy), .int (iI di), .int (iI th)])), (qPk, .inl (cPk, 64, .inr (.inl (fun k => lI (fPk k))))), (qSz, .inl (cSz, 64, .inr (.inl fSz))), (qCo, .inl (cCo, 64, .inl (fun k => iI (fc2 k)))), (qWr, .inl (cWr, 40000, .inl fw2))] H → va_D A [(qm, .inr (8, [.ref qT, .int (iI len), .int (iI op), .int (iI fp), .int (iI bu), .int (iI ra), .int (iI en), .ref qMe, .ref qPk, .ref qSz, .ref qSu, .ref qDa, .ref qLo, .ref qLe, .ref qNa, .ref qNs, .ref qSt, .ref qSa, .ref qCo, .ref qWr, .int (iI t2), .int (iI nw), .int (iI bt), .int (iI r2), .ref qLn, .ref qSm, .ref qCd, .ref qSc, .int (iI sy), .int (iI di), .int (iI th)])), (qPk, .inl (cPk, 64, .inr (.inl (fun k => lI (fPk k))))), (qSz, .inl (cSz, 64, .inr (.inl fSz))), (qCo, .inl (cCo, 64, .inl (fun k => iI (fc2 k)))), (qWr, .inl (cWr, 40000, .inl fw2))] → va_S A s.heap H locs → lv_has ls 4 [(3, .int (iI k)), (0, .ref qm), (1, .int (iI le)), (2, .int (iI ds))] → W p l e { frames := 2, cells := 0, slots := 0, locals := 42 } s m [.ref qm, .int (iI le), .int (iI ds)].toArray below meth c H locs 0 0 (MQ below ((fun A => va_Qv (fun (u9 : Int × Int × (Nat → Int) × (Nat → Int32)) => match u9 with | (to1, r1, fc1, fw1) => (∀ k : Nat, k ≠ nw.toNat → fc1 k = fCo k) ∧ (zCy bu ra (fPk nw.toNat) (fSz nw.toNat) cs le ds to (fCo nw.toNat) to1 (fc1 nw.toNat) r1 fWr fw1) ∧ (-2147483648 ≤ r1 ∧ r1 ≤ 2147483647) ∧ to ≤ to1 ∧ to1 ≤ 40000 ∧ fc1 nw.toNat - fCo nw.toNat = to1 - to ∧ 0 ≤ r1 ∧ r1 ≤ 36) (fun u9 t => zB D ((fun (u9 : Int × Int × (Nat → Int) × (Nat → Int32)) => match u9 with | (to1, r1, fc1, fw1) => [(qm, .inr (8, [.ref qT, .int (iI len), .int (iI op), .int (iI fp), .int (iI bu), .int (iI ra), .int (iI en), .ref qMe, .ref qPk, .ref qSz, .ref qSu, .ref qDa, .ref qLo, .ref qLe, .ref qNa, .ref qNs, .ref qSt, .ref qSa, .ref qCo, .ref qWr, .int (iI to1), .int (iI nw), .int (iI bt), .int (iI r1), .ref qLn, .ref qSm, .ref qCd, .ref qSc, .int (iI sy), .int (iI di), .int (iI th)])), (qPk, .inl (cPk, 64, .inr (.inl (fun k => lI (fPk k))))), (qSz, .inl (cSz, 64, .inr (.inl fSz))), (qCo, .inl (cCo, 64, .inl (fun k => iI (fc1 k)))), (qWr, .inl (cWr, 40000, .inl fw1))]) u9) ((fun (u9 : Int × Int × (Nat → Int) × (Nat → Int32)) => match u9 with | (to1, r1, fc1, fw1) => [(cPk, .long), (cSz, .long), (cCo, .int), (cWr, .byte)]) u9) A t) A) A) [.ref qm, .int (iI le), .int (iI ds)].toArray s 0 0 A) (F0 m 23 ls []) := by
        intro j
        induction j with
        | zero => intro k t2 r2 fc2 fw2 H locs ls hk1 hr9 hw1 hw2 hw3 hag hj23 hP hD hS hl; exfalso; omega
        | succ j ih23 =>
          intro k t2 r2 fc2 fw2 H locs ls hk1 hr9 hw1 hw2 hw3 hag hj23 hP hD hS hl
          refine lv_iload_n hx hb d_M_copy_23 rfl (lv_at hl 0 rfl) ?_
          refine lv_iload_n hx hb d_M_copy_24 rfl (lv_at hl 2 rfl) ?_
          refine zv_icmp_ge (tgt := 57) hx hb d_M_copy_25 (by decide) (by omega) (by omega) (fun hc_4 => ?_) (fun hc_4 => ?_)
          · skip
            exact zretv hx hb hr hlk hK hP hD hS (t2, r2, fc2, fw2) [0, 1, 2, 3, 4] [0, 1, 2, 3] rfl (by decide) rfl (⟨hw1, zCy_ag (by omega) hag (fun h9 => by omega), by omega⟩) (Nat.le_of_ble_eq_true rfl) (Nat.le_of_ble_eq_true rfl) d_M_copy_57
          · skip
            refine lv_aload_n hx hb d_M_copy_28 rfl (lv_at hl 1 rfl) ?_
            refine va_get (ci := 8) (C := "ZipGuardModel") (T := F_M) (N := 31) hx hb ht zi_M hown hK hP 0 rfl rfl 23 (by decide) (ht _ zm_775) (fun _ h9 => h9) rfl d_M_copy_29 ?_
            refine zv_if_ne (tgt := 57) hx hb d_M_copy_32 (by decide) (by omega) (fun hc_5 => ?_) (fun hc_5 => ?_)
            · skip
              exact zretv hx hb hr hlk hK hP hD hS (t2, r2, fc2, fw2) [0, 1, 2, 3, 4] [0, 1, 2, 3] rfl (by decide) rfl (⟨hw1, zCy_ag (by omega) hag (fun h9 => by omega), by omega⟩) (Nat.le_of_ble_eq_true rfl) (Nat.le_of_ble_eq_true rfl) d_M_copy_57
            · skip
              refine lv_aload_n hx hb d_M_copy_35 rfl (lv_at hl 1 rfl) ?_
              refine lv_aload_n hx hb d_M_copy_36 rfl (lv_at hl 1 rfl) ?_
              refine va_get (ci := 8) (C := "ZipGuardModel") (T := F_M) (N := 31) hx hb ht zi_M hown hK hP 0 rfl rfl 19 (by decide) (ht _ zm_771) (fun _ h9 => h9) rfl d_M_copy_37 ?_
              refine lv_aload_n hx hb d_M_copy_40 rfl (lv_at hl 1 rfl) ?_
              refine va_get (ci := 8) (C := "ZipGuardModel") (T := F_M) (N := 31) hx hb ht zi_M hown hK hP 0 rfl rfl 20 (by decide) (ht _ zm_772) (fun _ h9 => h9) rfl d_M_copy_41 ?_
              refine lv_iload_n hx hb d_M_copy_44 rfl (lv_at hl 3 rfl) ?_
              refine zv_isub (z := t2 - ds) hx hb d_M_copy_45 (by omega) ?_
              refine zv_bald hx hb hK hP 4 3 rfl rfl (by omega) (by decide) d_M_copy_46 (fun x_6 hz_7 ha_8 ha_9 => ?_)
              refine zji (wr := []) (va_runV (As := [.int (iI x_6)]) (rest := []) ⟨hx, hb, hml, hown, ht⟩ (m_write l D _ qm qT len op fp bu ra en qMe qPk qSz qSu qDa qLo qLe qNa qNs qSt qSa qCo qWr t2 nw bt r2 qLn qSm qCd qSc sy di th cPk fPk cSz fSz cCo fc2 cWr fw2 x_6 (by omega) (by omega) (by omega) (by omega) (by omega)) (cwV 1 ht (zt_goodV zm_972 zm_973 zm_54 zm_79 zm_974) rfl rfl rfl (by decide +kernel) ⟨Nat.le_of_ble_eq_true rfl, Nat.le_of_ble_eq_true rfl⟩) (zpreV zBlind_t hK hP hD [0, 1, 2, 3, 4] [0, 1, 2, 3] rfl (by decide) rfl (fun _ _ _ => trivial) (va_recv (q := ("ZipGuardModel", F_M, 31)) hK hP rfl (q0 := 0) (ci := 8) rfl)) rfl rfl hl.1 rfl (lv_room (Nat.le_of_ble_eq_true rfl)) d_M_copy_47 ⟨Nat.le_of_ble_eq_true rfl, Nat.le_of_ble_eq_true rfl⟩) hK hP hD hS hA [0, 1, 2, 3, 4] [] rfl rfl (by decide) (by decide) (fun r15 u9 H locs hp16 hP hD hK hS => ?_)
              obtain ⟨t_10, r_11, x_12, f_13, f_14⟩ := u9
              dsimp only at hp16 hP hD hK
              have hP : va_P D zcl [(qm, .inr (8, [.ref qT, .int (iI len), .int (iI op), .int (iI fp), .int (iI bu), .int (iI ra), .int (iI en), .ref qMe, .ref qPk, .ref qSz, .ref qSu, .ref qDa, .ref qLo, .ref qLe, .ref qNa, .ref qNs, .ref qSt, .ref qSa, .ref qCo, .ref qWr, .int (iI t_10), .int (iI nw), .int (iI bt), .int (iI r_11), .ref qLn, .ref qSm, .ref qCd, .ref qSc, .int (iI sy), .int (iI di), .int (iI th)])), (qPk, .inl (cPk, 64, .inr (.inl (fun k => lI (fPk k))))), (qSz, .inl (cSz, 64, .inr (.inl fSz))), (qCo, .inl (cCo, 64, .inl (fun k => iI (f_13 k)))), (qWr, .inl (cWr, 40000, .inl f_14))] H := hP
              have hD : va_D A [(qm, .inr (8, [.ref qT, .int (iI len), .int (iI op), .int (iI fp), .int (iI bu), .int (iI ra), .int (iI en), .ref qMe, .ref qPk, .ref qSz, .ref qSu, .ref qDa, .ref qLo, .ref qLe, .ref qNa, .ref qNs, .ref qSt, .ref qSa, .ref qCo, .ref qWr, .int (iI t_10), .int (iI nw), .int (iI bt), .int (iI r_11), .ref qLn, .ref qSm, .ref qCd, .ref qSc, .int (iI sy), .int (iI di), .int (iI th)])), (qPk, .inl (cPk, 64, .inr (.inl (fun k => lI (fPk k))))), (qSz, .inl (cSz, 64, .inr (.inl fSz))), (qCo, .inl (cCo, 64, .inl (fun k => iI (f_13 k)))), (qWr, .inl (cWr, 40000, .inl f_14))] := hD
              have hK : va_K D zcl [(cPk, .long), (cSz, .long), (cCo, .int), (cWr, .byte), (cPk, .long), (cSz, .long), (cCo, .int), (cWr, .byte)] s := hK
              obtain ⟨he_17, hp16⟩ := hp16
              subst he_17
              have hP := hP.sub (ws' := [(qm, .inr (8, [.ref qT, .int (iI len), .int (iI op), .int (iI fp), .int (iI bu), .int (iI ra), .int (iI en), .ref qMe, .ref qPk, .ref qSz, .ref qSu, .ref qDa, .ref qLo, .ref qLe, .ref qNa, .ref qNs, .ref qSt, .ref qSa, .ref qCo, .ref qWr, .int (iI t_10), .int (iI nw), .int (iI bt), .int (iI r_11), .ref qLn, .ref qSm, .ref qCd, .ref qSc, .int (iI sy), .int (iI di), .int (iI th)])), (qPk, .inl (cPk, 64, .inr (.inl (fun k => lI (fPk k))))), (qSz, .inl (cSz, 64, .inr (.inl fSz))), (qCo, .inl (cCo, 64, .inl (fun k => iI (f_13 k)))), (qWr, .inl (cWr, 40000, .inl f_14))]) [0, 1, 2, 3, 4] rfl
              have hD := hD.sub (ws' := [(qm, .inr (8, [.ref qT, .int (iI len), .int (iI op), .int (iI fp), .int (iI bu), .int (iI ra), .int (iI en), .ref qMe, .ref qPk, .ref qSz, .ref qSu, .ref qDa, .ref qLo, .ref qLe, .ref qNa, .ref qNs, .ref qSt, .ref qSa, .ref qCo, .ref qWr, .int (iI t_10), .int (iI nw), .int (iI bt), .int (iI r_11), .ref qLn, .ref qSm, .ref qCd, .ref qSc, .int (iI sy), .int (iI di), .int (iI th)])), (qPk, .inl (cPk, 64, .inr (.inl (fun k => lI (fPk k))))), (qSz, .inl (cSz, 64, .inr (.inl fSz))), (qCo, .inl (cCo, 64, .inl (fun k => iI (f_13 k)))), (qWr, .inl (cWr, 40000, .inl f_14))]) [0, 1, 2, 3, 4] (by decide) rfl
              have hK := hK.sub (tys' := [(cPk, .long), (cSz, .long), (cCo, .int), (cWr, .byte)]) [0, 1, 2, 3] rfl
              have ho_18 := fun k hk => (hp16.1 k hk).trans (hw1 k hk)
              refine lv_pop hx hb d_M_copy_50 rfl ?_
              refine lv_iinc (k := 0) (v := iI (k + 1)) (lv' := [(3, .int (iI (k + 1))), (0, .ref qm), (1, .int (iI le)), (2, .int (iI ds))]) hx hb d_M_copy_51 hl rfl (zinc (by omega)) (by decide) rfl (fun ls hl => ?_)
              refine lv_goto (tgt := 23) hx hb d_M_copy_54 (by decide) ?_
              exact ih23 (k + 1) t_10 r_11 f_13 f_14 _ _ _ (by omega) (by have h9 := zWi_r (zWi_q hp16.2.1 (by omega) rfl); omega) ho_18 (by omega) (by omega) (zAg_s hag (by omega) (by omega) hz_7 hp16.2.1 rfl (by omega) (by omega) (by omega) (by omega) (by omega) (by omega)) (by omega) hP hD hS hl
      exact lp23 ((le - 0 + 1 : Int)).toNat 0 to rf fCo fWr _ _ _ (by omega) (by omega) (fun _ _ => rfl) (by omega) (by omega) (zAg_0 (by omega)) (by omega) hP hD hS hl
    · skip
      refine lv_aload_n hx hb d_M_copy_13 rfl (lv_at hl 0 rfl) ?_
      refine lv_bipush (v := iI 36) hx hb d_M_copy_14 (by decide) ?_
      refine zji (wr := [(qPk, .inl (cPk, 64, .inr (.inl (fun k => lI (fPk k))))), (qSz, .inl (cSz, 64, .inr (.inl fSz))), (qCo, .inl (cCo, 64, .inl (fun k => iI (fCo k)))), (qWr, .inl (cWr, 40000, .inl fWr))]) (va_runV (As := [.int (iI 36)]) (rest := []) ⟨hx, hb, hml, hown, ht⟩ (m_refuse l D _ qm qT len op fp bu ra en qMe qPk qSz qSu qDa qLo qLe qNa qNs qSt qSa qCo qWr to nw bt rf qLn qSm qCd qSc sy di th 36 (by omega)) (cwV 1 ht (zt_goodV zm_965 zm_966 zm_52 zm_79 zm_967) rfl rfl rfl (by decide +kernel) ⟨Nat.le_of_ble_eq_true rfl, Nat.le_of_ble_eq_true rfl⟩) (zpreV zBlind_t hK hP hD [0] [] rfl (by decide) rfl (fun _ _ _ => trivial) (va_recv (q := ("ZipGuardModel", F_M, 31)) hK hP rfl (q0 := 0) (ci := 8) rfl)) rfl rfl hl.1 rfl (lv_room (Nat.le_of_ble_eq_true rfl)) d_M_copy_16 ⟨Nat.le_of_ble_eq_true rfl, Nat.le_of_ble_eq_true rfl⟩) hK hP hD hS hA [0] [1, 2, 3, 4] rfl rfl (by decide) (by decide) (fun r20 u9 H locs hp21 hP hD hK hS => ?_)
      obtain ⟨r_19, rfl⟩ : ∃ z, z = u9 := ⟨u9, rfl⟩
      dsimp only at hp21 hP hD hK
      have hP : va_P D zcl [(qPk, .inl (cPk, 64, .inr (.inl (fun k => lI (fPk k))))), (qSz, .inl (cSz, 64, .inr (.inl fSz))), (qCo, .inl (cCo, 64, .inl (fun k => iI (fCo k)))), (qWr, .inl (cWr, 40000, .inl fWr)), (qm, .inr (8, [.ref qT, .int (iI len), .int (iI op), .int (iI fp), .int (iI bu), .int (iI ra), .int (iI en), .ref qMe, .ref qPk, .ref qSz, .ref qSu, .ref qDa, .ref qLo, .ref qLe, .ref qNa, .ref qNs, .ref qSt, .ref qSa, .ref qCo, .ref qWr, .int (iI to), .int (iI nw), .int (iI bt), .int (iI r_19), .ref qLn, .ref qSm, .ref qCd, .ref qSc, .int (iI sy), .int (iI di), .int (iI th)]))] H := hP
      have hD : va_D A [(qPk, .inl (cPk, 64, .inr (.inl (fun k => lI (fPk k))))), (qSz, .inl (cSz, 64, .inr (.inl fSz))), (qCo, .inl (cCo, 64, .inl (fun k => iI (fCo k)))), (qWr, .inl (cWr, 40000, .inl fWr)), (qm, .inr (8, [.ref qT, .int (iI len), .int (iI op), .int (iI fp), .int (iI bu), .int (iI ra), .int (iI en), .ref qMe, .ref qPk, .ref qSz, .ref qSu, .ref qDa, .ref qLo, .ref qLe, .ref qNa, .ref qNs, .ref qSt, .ref qSa, .ref qCo, .ref qWr, .int (iI to), .int (iI nw), .int (iI bt), .int (iI r_19), .ref qLn, .ref qSm, .ref qCd, .ref qSc, .int (iI sy), .int (iI di), .int (iI th)]))] := hD
      have hK : va_K D zcl [(cPk, .long), (cSz, .long), (cCo, .int), (cWr, .byte)] s := hK
      obtain ⟨he_22, hp21⟩ := hp21
      subst he_22
      have hP := hP.sub (ws' := [(qm, .inr (8, [.ref qT, .int (iI len), .int (iI op), .int (iI fp), .int (iI bu), .int (iI ra), .int (iI en), .ref qMe, .ref qPk, .ref qSz, .ref qSu, .ref qDa, .ref qLo, .ref qLe, .ref qNa, .ref qNs, .ref qSt, .ref qSa, .ref qCo, .ref qWr, .int (iI to), .int (iI nw), .int (iI bt), .int (iI r_19), .ref qLn, .ref qSm, .ref qCd, .ref qSc, .int (iI sy), .int (iI di), .int (iI th)])), (qPk, .inl (cPk, 64, .inr (.inl (fun k => lI (fPk k))))), (qSz, .inl (cSz, 64, .inr (.inl fSz))), (qCo, .inl (cCo, 64, .inl (fun k => iI (fCo k)))), (qWr, .inl (cWr, 40000, .inl fWr))]) [4, 0, 1, 2, 3] rfl
      have hD := hD.sub (ws' := [(qm, .inr (8, [.ref qT, .int (iI len), .int (iI op), .int (iI fp), .int (iI bu), .int (iI ra), .int (iI en), .ref qMe, .ref qPk, .ref qSz, .ref qSu, .ref qDa, .ref qLo, .ref qLe, .ref qNa, .ref qNs, .ref qSt, .ref qSa, .ref qCo, .ref qWr, .int (iI to), .int (iI nw), .int (iI bt), .int (iI r_19), .ref qLn, .ref qSm, .ref qCd, .ref qSc, .int (iI sy), .int (iI di), .int (iI th)])), (qPk, .inl (cPk, 64, .inr (.inl (fun k => lI (fPk k))))), (qSz, .inl (cSz, 64, .inr (.inl fSz))), (qCo, .inl (cCo, 64, .inl (fun k => iI (fCo k)))), (qWr, .inl (cWr, 40000, .inl fWr))]) [4, 0, 1, 2, 3] (by decide) rfl
      have hK := hK.sub (tys' := [(cPk, .long), (cSz, .long), (cCo, .int), (cWr, .byte)]) [0, 1, 2, 3] rfl
      refine lv_pop hx hb d_M_copy_19 rfl ?_
      exact zretv hx hb hr hlk hK hP hD hS (to, r_19, fCo, fWr) [0, 1, 2, 3, 4] [0, 1, 2, 3] rfl (by decide) rfl (⟨(fun _ _ => rfl), zCy_far (by omega) (by omega), by omega⟩) (Nat.le_of_ble_eq_true rfl) (Nat.le_of_ble_eq_true rfl) d_M_copy_20)
set_option maxHeartbeats 4000000 in
set_option maxRecDepth 100000 in
theorem m_nboth (l : Launch) (D : va_G) (sz : Nat) (qm : Nat) (qT : Nat) (len : Int) (op : Int) (fp : Int) (bu : Int) (ra : Int) (en : Int) (qMe : Nat) (qPk : Nat) (qSz : Nat) (qSu : Nat) (qDa : Nat) (qLo : Nat) (qLe : Nat) (qNa : Nat) (qNs : Nat) (qSt : Nat) (qSa : Nat) (qCo : Nat) (qWr : Nat) (to : Int) (nw : Int) (bt : Int) (rf : Int) (qLn : Nat) (qSm : Nat) (qCd : Nat) (qSc : Nat) (sy : Int) (di : Int) (th : Int) (cLn : ClassId) (fLn : Nat → Int) (cCd : ClassId) (fCd : Nat → Int32) (d : Nat → Nat) (dx : Nat → Nat) (hLn : ∀ k : Nat, 0 ≤ fLn k ∧ fLn k ≤ 15) (hsd : 0 ≤ sy ∧ 0 ≤ di ∧ sy + di ≤ 320) (hd1 : ∀ k : Int, 0 ≤ k → k < sy → fLn (0 + k).toNat = (d k.toNat : Int)) (hd2 : ∀ k : Int, 0 ≤ k → k < di → fLn (sy + k).toNat = (dx k.toNat : Int)) : Met l y_M_numberBoth (Cond.code y_M_numberBoth prog_10_method_35_code 1 (Option.none : Option Jvm.ClassFile.FieldType) :: zt) { frames := 1, cells := 0, slots := 0, locals := 26 } (zPc [.ref qm] D [(qm, .inr (8, [.ref qT, .int (iI len), .int (iI op), .int (iI fp), .int (iI bu), .int (iI ra), .int (iI en), .ref qMe, .ref qPk, .ref qSz, .ref qSu, .ref qDa, .ref qLo, .ref qLe, .ref qNa, .ref qNs, .ref qSt, .ref qSa, .ref qCo, .ref qWr, .int (iI to), .int (iI nw), .int (iI bt), .int (iI rf), .ref qLn, .ref qSm, .ref qCd, .ref qSc, .int (iI sy), .int (iI di), .int (iI th)])), (qLn, .inl (cLn, 320, .inl (fun k => iI (fLn k)))), (qCd, .inl (cCd, 320, .inl fCd))] [(cLn, .int), (cCd, .int)] sz (fun _ => True)) (va_Qv (fun (u9 : (Nat → Int32)) => match u9 with | fk1 => (zCk d (sy : Int).toNat 0 sy fk1 16 0) ∧ (zCk dx (di : Int).toNat sy di fk1 16 0)) (fun u9 t => zB D ((fun (u9 : (Nat → Int32)) => match u9 with | fk1 => [(qm, .inr (8, [.ref qT, .int (iI len), .int (iI op), .int (iI fp), .int (iI bu), .int (iI ra), .int (iI en), .ref qMe, .ref qPk, .ref qSz, .ref qSu, .ref qDa, .ref qLo, .ref qLe, .ref qNa, .ref qNs, .ref qSt, .ref qSa, .ref qCo, .ref qWr, .int (iI to), .int (iI nw), .int (iI bt), .int (iI rf), .ref qLn, .ref qSm, .ref qCd, .ref qSc, .int (iI sy), .int (iI di), .int (iI th)])), (qLn, .inl (cLn, 320, .inl (fun k => iI (fLn k)))), (qCd, .inl (cCd, 320, .inl fk1))]) u9) ((fun (u9 : (Nat → Int32)) => match u9 with | fk1 => [(cLn, .int), (cCd, .int)]) u9) (va_A [(qm, .inr (8, [.ref qT, .int (iI len), .int (iI op), .int (iI fp), .int (iI bu), .int (iI ra), .int (iI en), .ref qMe, .ref qPk, .ref qSz, .ref qSu, .ref qDa, .ref qLo, .ref qLe, .ref qNa, .ref qNs, .ref qSt, .ref qSa, .ref qCo, .ref qWr, .int (iI to), .int (iI nw), .int (iI bt), .int (iI rf), .ref qLn, .ref qSm, .ref qCd, .ref qSc, .int (iI sy), .int (iI di), .int (iI th)])), (qLn, .inl (cLn, 320, .inl (fun k => iI (fLn k)))), (qCd, .inl (cCd, 320, .inl fCd))] sz) t) (va_A [(qm, .inr (8, [.ref qT, .int (iI len), .int (iI op), .int (iI fp), .int (iI bu), .int (iI ra), .int (iI en), .ref qMe, .ref qPk, .ref qSz, .ref qSu, .ref qDa, .ref qLo, .ref qLe, .ref qNa, .ref qNs, .ref qSt, .ref qSa, .ref qCo, .ref qWr, .int (iI to), .int (iI nw), .int (iI bt), .int (iI rf), .ref qLn, .ref qSm, .ref qCd, .ref qSc, .int (iI sy), .int (iI di), .int (iI th)])), (qLn, .inl (cLn, 320, .inl (fun k => iI (fLn k)))), (qCd, .inl (cCd, 320, .inl fCd))] sz)) 0 0 (va_A [(qm, .inr (8, [.ref qT, .int (iI len), .int (iI op), .int (iI fp), .int (iI bu), .int (iI ra), .int (iI en), .ref qMe, .ref qPk, .ref qSz, .ref qSu, .ref qDa, .ref qLo, .ref qLe, .ref qNa, .ref qNs, .ref qSt, .ref qSa, .ref qCo, .ref qWr, .int (iI to), .int (iI nw), .int (iI bt), .int (iI rf), .ref qLn, .ref qSm, .ref qCd, .ref qSc, .int (iI sy), .int (iI di), .int (iI th)])), (qLn, .inl (cLn, 320, .inl (fun k => iI (fLn k)))), (qCd, .inl (cCd, 320, .inl fCd))] sz) :=
  zMet (Qf := fun A => va_Qv (fun (u9 : (Nat → Int32)) => match u9 with | fk1 => (zCk d (sy : Int).toNat 0 sy fk1 16 0) ∧ (zCk dx (di : Int).toNat sy di fk1 16 0)) (fun u9 t => zB D ((fun (u9 : (Nat → Int32)) => match u9 with | fk1 => [(qm, .inr (8, [.ref qT, .int (iI len), .int (iI op), .int (iI fp), .int (iI bu), .int (iI ra), .int (iI en), .ref qMe, .ref qPk, .ref qSz, .ref qSu, .ref qDa, .ref qLo, .ref qLe, .ref qNa, .ref qNs, .ref qSt, .ref qSa, .ref qCo, .ref qWr, .int (iI to), .int (iI nw), .int (iI bt), .int (iI rf), .ref qLn, .ref qSm, .ref qCd, .ref qSc, .int (iI sy), .int (iI di), .int (iI th)])), (qLn, .inl (cLn, 320, .inl (fun k => iI (fLn k)))), (qCd, .inl (cCd, 320, .inl fk1))]) u9) ((fun (u9 : (Nat → Int32)) => match u9 with | fk1 => [(cLn, .int), (cCd, .int)]) u9) A t) A) (by decide) (Nat.le_of_ble_eq_true rfl) (fun p e s m below meth c A ls hx hb hr hml hown ht hlk hnm hA hK hP hD hX hl => by
    have hS : va_S A s.heap s.heap [] := va_S.rf
    have hl : lv_has ls 1 [(0, .ref qm)] := hl
    refine lv_aload_n hx hb d_M_numberBoth_0 rfl (lv_at hl 0 rfl) ?_
    refine va_get (ci := 8) (C := "ZipGuardModel") (T := F_M) (N := 31) hx hb ht zi_M hown hK hP 0 rfl rfl 24 (by decide) (ht _ zm_776) (fun _ h9 => h9) rfl d_M_numberBoth_1 ?_
    refine lv_aload_n hx hb d_M_numberBoth_4 rfl (lv_at hl 0 rfl) ?_
    refine va_get (ci := 8) (C := "ZipGuardModel") (T := F_M) (N := 31) hx hb ht zi_M hown hK hP 0 rfl rfl 26 (by decide) (ht _ zm_778) (fun _ h9 => h9) rfl d_M_numberBoth_5 ?_
    refine lv_iconst (v := iI 0) hx hb d_M_numberBoth_8 (by decide) ?_
    refine lv_aload_n hx hb d_M_numberBoth_9 rfl (lv_at hl 0 rfl) ?_
    refine va_get (ci := 8) (C := "ZipGuardModel") (T := F_M) (N := 31) hx hb ht zi_M hown hK hP 0 rfl rfl 28 (by decide) (ht _ zm_780) (fun _ h9 => h9) rfl d_M_numberBoth_10 ?_
    refine zjv (wr := [(qm, .inr (8, [.ref qT, .int (iI len), .int (iI op), .int (iI fp), .int (iI bu), .int (iI ra), .int (iI en), .ref qMe, .ref qPk, .ref qSz, .ref qSu, .ref qDa, .ref qLo, .ref qLe, .ref qNa, .ref qNs, .ref qSt, .ref qSa, .ref qCo, .ref qWr, .int (iI to), .int (iI nw), .int (iI bt), .int (iI rf), .ref qLn, .ref qSm, .ref qCd, .ref qSc, .int (iI sy), .int (iI di), .int (iI th)]))]) (va_runS (As := [.ref qLn, .ref qCd, .int (iI 0), .int (iI sy)]) (rest := []) ⟨hx, hb, hml, hown, ht⟩ (m_number l D _ qLn cLn 320 fLn qCd cCd 320 fCd 0 sy d (by omega) (by omega) hLn (by omega) hd1) (cwS 4 ht (zt_goodS zm_981 zm_982 zm_79 zm_983) rfl rfl rfl (by decide +kernel) ⟨Nat.le_of_ble_eq_true rfl, Nat.le_of_ble_eq_true rfl⟩) (zpre zBlind_t hK hP hD [1, 2] [0, 1] rfl (by decide) rfl (fun _ _ _ => trivial)) rfl rfl hl.1 rfl (lv_room (Nat.le_of_ble_eq_true rfl)) d_M_numberBoth_13 ⟨Nat.le_of_ble_eq_true rfl, Nat.le_of_ble_eq_true rfl⟩) hK hP hD hS hA [1, 2] [0] rfl rfl (by decide) (by decide) (fun u9 H locs hp3 hP hD hK hS => ?_)
    obtain ⟨f_1, rfl⟩ : ∃ z, z = u9 := ⟨u9, rfl⟩
    dsimp only at hp3 hP hD hK
    have hP : va_P D zcl [(qm, .inr (8, [.ref qT, .int (iI len), .int (iI op), .int (iI fp), .int (iI bu), .int (iI ra), .int (iI en), .ref qMe, .ref qPk, .ref qSz, .ref qSu, .ref qDa, .ref qLo, .ref qLe, .ref qNa, .ref qNs, .ref qSt, .ref qSa, .ref qCo, .ref qWr, .int (iI to), .int (iI nw), .int (iI bt), .int (iI rf), .ref qLn, .ref qSm, .ref qCd, .ref qSc, .int (iI sy), .int (iI di), .int (iI th)])), (qLn, .inl (cLn, 320, .inl (fun k => iI (fLn k)))), (qCd, .inl (cCd, 320, .inl f_1))] H := hP
    have hD : va_D A [(qm, .inr (8, [.ref qT, .int (iI len), .int (iI op), .int (iI fp), .int (iI bu), .int (iI ra), .int (iI en), .ref qMe, .ref qPk, .ref qSz, .ref qSu, .ref qDa, .ref qLo, .ref qLe, .ref qNa, .ref qNs, .ref qSt, .ref qSa, .ref qCo, .ref qWr, .int (iI to), .int (iI nw), .int (iI bt), .int (iI rf), .ref qLn, .ref qSm, .ref qCd, .ref qSc, .int (iI sy), .int (iI di), .int (iI th)])), (qLn, .inl (cLn, 320, .inl (fun k => iI (fLn k)))), (qCd, .inl (cCd, 320, .inl f_1))] := hD
    have hK : va_K D zcl [(cLn, .int), (cCd, .int), (cLn, .int), (cCd, .int)] s := hK
    have hP := hP.sub (ws' := [(qm, .inr (8, [.ref qT, .int (iI len), .int (iI op), .int (iI fp), .int (iI bu), .int (iI ra), .int (iI en), .ref qMe, .ref qPk, .ref qSz, .ref qSu, .ref qDa, .ref qLo, .ref qLe, .ref qNa, .ref qNs, .ref qSt, .ref qSa, .ref qCo, .ref qWr, .int (iI to), .int (iI nw), .int (iI bt), .int (iI rf), .ref qLn, .ref qSm, .ref qCd, .ref qSc, .int (iI sy), .int (iI di), .int (iI th)])), (qLn, .inl (cLn, 320, .inl (fun k => iI (fLn k)))), (qCd, .inl (cCd, 320, .inl f_1))]) [0, 1, 2] rfl
    have hD := hD.sub (ws' := [(qm, .inr (8, [.ref qT, .int (iI len), .int (iI op), .int (iI fp), .int (iI bu), .int (iI ra), .int (iI en), .ref qMe, .ref qPk, .ref qSz, .ref qSu, .ref qDa, .ref qLo, .ref qLe, .ref qNa, .ref qNs, .ref qSt, .ref qSa, .ref qCo, .ref qWr, .int (iI to), .int (iI nw), .int (iI bt), .int (iI rf), .ref qLn, .ref qSm, .ref qCd, .ref qSc, .int (iI sy), .int (iI di), .int (iI th)])), (qLn, .inl (cLn, 320, .inl (fun k => iI (fLn k)))), (qCd, .inl (cCd, 320, .inl f_1))]) [0, 1, 2] (by decide) rfl
    have hK := hK.sub (tys' := [(cLn, .int), (cCd, .int)]) [0, 1] rfl
    refine lv_aload_n hx hb d_M_numberBoth_16 rfl (lv_at hl 0 rfl) ?_
    refine va_get (ci := 8) (C := "ZipGuardModel") (T := F_M) (N := 31) hx hb ht zi_M hown hK hP 0 rfl rfl 24 (by decide) (ht _ zm_776) (fun _ h9 => h9) rfl d_M_numberBoth_17 ?_
    refine lv_aload_n hx hb d_M_numberBoth_20 rfl (lv_at hl 0 rfl) ?_
    refine va_get (ci := 8) (C := "ZipGuardModel") (T := F_M) (N := 31) hx hb ht zi_M hown hK hP 0 rfl rfl 26 (by decide) (ht _ zm_778) (fun _ h9 => h9) rfl d_M_numberBoth_21 ?_
    refine lv_aload_n hx hb d_M_numberBoth_24 rfl (lv_at hl 0 rfl) ?_
    refine va_get (ci := 8) (C := "ZipGuardModel") (T := F_M) (N := 31) hx hb ht zi_M hown hK hP 0 rfl rfl 28 (by decide) (ht _ zm_780) (fun _ h9 => h9) rfl d_M_numberBoth_25 ?_
    refine lv_aload_n hx hb d_M_numberBoth_28 rfl (lv_at hl 0 rfl) ?_
    refine va_get (ci := 8) (C := "ZipGuardModel") (T := F_M) (N := 31) hx hb ht zi_M hown hK hP 0 rfl rfl 29 (by decide) (ht _ zm_781) (fun _ h9 => h9) rfl d_M_numberBoth_29 ?_
    refine zjv (wr := [(qm, .inr (8, [.ref qT, .int (iI len), .int (iI op), .int (iI fp), .int (iI bu), .int (iI ra), .int (iI en), .ref qMe, .ref qPk, .ref qSz, .ref qSu, .ref qDa, .ref qLo, .ref qLe, .ref qNa, .ref qNs, .ref qSt, .ref qSa, .ref qCo, .ref qWr, .int (iI to), .int (iI nw), .int (iI bt), .int (iI rf), .ref qLn, .ref qSm, .ref qCd, .ref qSc, .int (iI sy), .int (iI di), .int (iI th)]))]) (va_runS (As := [.ref qLn, .ref qCd, .int (iI sy), .int (iI di)]) (rest := []) ⟨hx, hb, hml, hown, ht⟩ (m_number l D _ qLn cLn 320 fLn qCd cCd 320 f_1 sy di dx (by omega) (by omega) hLn (by omega) hd2) (cwS 4 ht (zt_goodS zm_981 zm_982 zm_79 zm_983) rfl rfl rfl (by decide +kernel) ⟨Nat.le_of_ble_eq_true rfl, Nat.le_of_ble_eq_true rfl⟩) (zpre zBlind_t hK hP hD [1, 2] [0, 1] rfl (by decide) rfl (fun _ _ _ => trivial)) rfl rfl hl.1 rfl (lv_room (Nat.le_of_ble_eq_true rfl)) d_M_numberBoth_32 ⟨Nat.le_of_ble_eq_true rfl, Nat.le_of_ble_eq_true rfl⟩) hK hP hD hS hA [1, 2] [0] rfl rfl (by decide) (by decide) (fun u9 H locs hp6 hP hD hK hS => ?_)
    obtain ⟨f_4, rfl⟩ : ∃ z, z = u9 := ⟨u9, rfl⟩
    dsimp only at hp6 hP hD hK
    have hP : va_P D zcl [(qm, .inr (8, [.ref qT, .int (iI len), .int (iI op), .int (iI fp), .int (iI bu), .int (iI ra), .int (iI en), .ref qMe, .ref qPk, .ref qSz, .ref qSu, .ref qDa, .ref qLo, .ref qLe, .ref qNa, .ref qNs, .ref qSt, .ref qSa, .ref qCo, .ref qWr, .int (iI to), .int (iI nw), .int (iI bt), .int (iI rf), .ref qLn, .ref qSm, .ref qCd, .ref qSc, .int (iI sy), .int (iI di), .int (iI th)])), (qLn, .inl (cLn, 320, .inl (fun k => iI (fLn k)))), (qCd, .inl (cCd, 320, .inl f_4))] H := hP
    have hD : va_D A [(qm, .inr (8, [.ref qT, .int (iI len), .int (iI op), .int (iI fp), .int (iI bu), .int (iI ra), .int (iI en), .ref qMe, .ref qPk, .ref qSz, .ref qSu, .ref qDa, .ref qLo, .ref qLe, .ref qNa, .ref qNs, .ref qSt, .ref qSa, .ref qCo, .ref qWr, .int (iI to), .int (iI nw), .int (iI bt), .int (iI rf), .ref qLn, .ref qSm, .ref qCd, .ref qSc, .int (iI sy), .int (iI di), .int (iI th)])), (qLn, .inl (cLn, 320, .inl (fun k => iI (fLn k)))), (qCd, .inl (cCd, 320, .inl f_4))] := hD
    have hK : va_K D zcl [(cLn, .int), (cCd, .int), (cLn, .int), (cCd, .int)] s := hK
    have hP := hP.sub (ws' := [(qm, .inr (8, [.ref qT, .int (iI len), .int (iI op), .int (iI fp), .int (iI bu), .int (iI ra), .int (iI en), .ref qMe, .ref qPk, .ref qSz, .ref qSu, .ref qDa, .ref qLo, .ref qLe, .ref qNa, .ref qNs, .ref qSt, .ref qSa, .ref qCo, .ref qWr, .int (iI to), .int (iI nw), .int (iI bt), .int (iI rf), .ref qLn, .ref qSm, .ref qCd, .ref qSc, .int (iI sy), .int (iI di), .int (iI th)])), (qLn, .inl (cLn, 320, .inl (fun k => iI (fLn k)))), (qCd, .inl (cCd, 320, .inl f_4))]) [0, 1, 2] rfl
    have hD := hD.sub (ws' := [(qm, .inr (8, [.ref qT, .int (iI len), .int (iI op), .int (iI fp), .int (iI bu), .int (iI ra), .int (iI en), .ref qMe, .ref qPk, .ref qSz, .ref qSu, .ref qDa, .ref qLo, .ref qLe, .ref qNa, .ref qNs, .ref qSt, .ref qSa, .ref qCo, .ref qWr, .int (iI to), .int (iI nw), .int (iI bt), .int (iI rf), .ref qLn, .ref qSm, .ref qCd, .ref qSc, .int (iI sy), .int (iI di), .int (iI th)])), (qLn, .inl (cLn, 320, .inl (fun k => iI (fLn k)))), (qCd, .inl (cCd, 320, .inl f_4))]) [0, 1, 2] (by decide) rfl
    have hK := hK.sub (tys' := [(cLn, .int), (cCd, .int)]) [0, 1] rfl
    exact zretv hx hb hr hlk hK hP hD hS f_4 [0, 1, 2] [0, 1] rfl (by decide) rfl (⟨zCk_keep hp3.1 (by omega) (fun i h1 h2 => hp6.2 i (Or.inl (by omega))), hp6.1⟩) (Nat.le_of_ble_eq_true rfl) (Nat.le_of_ble_eq_true rfl) d_M_numberBoth_35)
set_option maxHeartbeats 4000000 in
set_option maxRecDepth 100000 in
theorem m_plain (l : Launch) (D : va_G) (sz : Nat) (qm : Nat) (qT : Nat) (len : Int) (op : Int) (fp : Int) (bu : Int) (ra : Int) (en : Int) (qMe : Nat) (qPk : Nat) (qSz : Nat) (qSu : Nat) (qDa : Nat) (qLo : Nat) (qLe : Nat) (qNa : Nat) (qNs : Nat) (qSt : Nat) (qSa : Nat) (qCo : Nat) (qWr : Nat) (to : Int) (nw : Int) (bt : Int) (rf : Int) (qLn : Nat) (qSm : Nat) (qCd : Nat) (qSc : Nat) (sy : Int) (di : Int) (th : Int) (cLn : ClassId) (fLn : Nat → Int) (cCd : ClassId) (fCd : Nat → Int32) (hLn : ∀ k : Nat, 0 ≤ fLn k ∧ fLn k ≤ 15) : Met l y_M_plainCodes (Cond.code y_M_plainCodes prog_10_method_34_code 2 (Option.none : Option Jvm.ClassFile.FieldType) :: zt) { frames := 2, cells := 0, slots := 0, locals := 46 } (zPc [.ref qm] D [(qm, .inr (8, [.ref qT, .int (iI len), .int (iI op), .int (iI fp), .int (iI bu), .int (iI ra), .int (iI en), .ref qMe, .ref qPk, .ref qSz, .ref qSu, .ref qDa, .ref qLo, .ref qLe, .ref qNa, .ref qNs, .ref qSt, .ref qSa, .ref qCo, .ref qWr, .int (iI to), .int (iI nw), .int (iI bt), .int (iI rf), .ref qLn, .ref qSm, .ref qCd, .ref qSc, .int (iI sy), .int (iI di), .int (iI th)])), (qLn, .inl (cLn, 320, .inl (fun k => iI (fLn k)))), (qCd, .inl (cCd, 320, .inl fCd))] [(cLn, .int), (cCd, .int)] sz (fun _ => True)) (va_Qv (fun (u9 : (Nat → Int) × (Nat → Int32)) => match u9 with | (fl1, fk1) => (∀ k : Nat, 0 ≤ fl1 k ∧ fl1 k ≤ 15) ∧ (∀ j : Int, 0 ≤ j → j < 288 → fl1 j.toNat = (zfx j.toNat : Int)) ∧ (∀ j : Int, 0 ≤ j → j < 32 → fl1 (j + 288).toNat = (((fun _ => 5) : Nat → Nat) j.toNat : Int)) ∧ (zCk zfx (288 : Int).toNat 0 288 fk1 16 0) ∧ (zCk (fun _ => 5) (32 : Int).toNat 288 32 fk1 16 0)) (fun u9 t => zB D ((fun (u9 : (Nat → Int) × (Nat → Int32)) => match u9 with | (fl1, fk1) => [(qm, .inr (8, [.ref qT, .int (iI len), .int (iI op), .int (iI fp), .int (iI bu), .int (iI ra), .int (iI en), .ref qMe, .ref qPk, .ref qSz, .ref qSu, .ref qDa, .ref qLo, .ref qLe, .ref qNa, .ref qNs, .ref qSt, .ref qSa, .ref qCo, .ref qWr, .int (iI to), .int (iI nw), .int (iI bt), .int (iI rf), .ref qLn, .ref qSm, .ref qCd, .ref qSc, .int (iI 288), .int (iI 32), .int (iI th)])), (qLn, .inl (cLn, 320, .inl (fun k => iI (fl1 k)))), (qCd, .inl (cCd, 320, .inl fk1))]) u9) ((fun (u9 : (Nat → Int) × (Nat → Int32)) => match u9 with | (fl1, fk1) => [(cLn, .int), (cCd, .int)]) u9) (va_A [(qm, .inr (8, [.ref qT, .int (iI len), .int (iI op), .int (iI fp), .int (iI bu), .int (iI ra), .int (iI en), .ref qMe, .ref qPk, .ref qSz, .ref qSu, .ref qDa, .ref qLo, .ref qLe, .ref qNa, .ref qNs, .ref qSt, .ref qSa, .ref qCo, .ref qWr, .int (iI to), .int (iI nw), .int (iI bt), .int (iI rf), .ref qLn, .ref qSm, .ref qCd, .ref qSc, .int (iI sy), .int (iI di), .int (iI th)])), (qLn, .inl (cLn, 320, .inl (fun k => iI (fLn k)))), (qCd, .inl (cCd, 320, .inl fCd))] sz) t) (va_A [(qm, .inr (8, [.ref qT, .int (iI len), .int (iI op), .int (iI fp), .int (iI bu), .int (iI ra), .int (iI en), .ref qMe, .ref qPk, .ref qSz, .ref qSu, .ref qDa, .ref qLo, .ref qLe, .ref qNa, .ref qNs, .ref qSt, .ref qSa, .ref qCo, .ref qWr, .int (iI to), .int (iI nw), .int (iI bt), .int (iI rf), .ref qLn, .ref qSm, .ref qCd, .ref qSc, .int (iI sy), .int (iI di), .int (iI th)])), (qLn, .inl (cLn, 320, .inl (fun k => iI (fLn k)))), (qCd, .inl (cCd, 320, .inl fCd))] sz)) 0 0 (va_A [(qm, .inr (8, [.ref qT, .int (iI len), .int (iI op), .int (iI fp), .int (iI bu), .int (iI ra), .int (iI en), .ref qMe, .ref qPk, .ref qSz, .ref qSu, .ref qDa, .ref qLo, .ref qLe, .ref qNa, .ref qNs, .ref qSt, .ref qSa, .ref qCo, .ref qWr, .int (iI to), .int (iI nw), .int (iI bt), .int (iI rf), .ref qLn, .ref qSm, .ref qCd, .ref qSc, .int (iI sy), .int (iI di), .int (iI th)])), (qLn, .inl (cLn, 320, .inl (fun k => iI (fLn k)))), (qCd, .inl (cCd, 320, .inl fCd))] sz) :=
  zMet (Qf := fun A => va_Qv (fun (u9 : (Nat → Int) × (Nat → Int32)) => match u9 with | (fl1, fk1) => (∀ k : Nat, 0 ≤ fl1 k ∧ fl1 k ≤ 15) ∧ (∀ j : Int, 0 ≤ j → j < 288 → fl1 j.toNat = (zfx j.toNat : Int)) ∧ (∀ j : Int, 0 ≤ j → j < 32 → fl1 (j + 288).toNat = (((fun _ => 5) : Nat → Nat) j.toNat : Int)) ∧ (zCk zfx (288 : Int).toNat 0 288 fk1 16 0) ∧ (zCk (fun _ => 5) (32 : Int).toNat 288 32 fk1 16 0)) (fun u9 t => zB D ((fun (u9 : (Nat → Int) × (Nat → Int32)) => match u9 with | (fl1, fk1) => [(qm, .inr (8, [.ref qT, .int (iI len), .int (iI op), .int (iI fp), .int (iI bu), .int (iI ra), .int (iI en), .ref qMe, .ref qPk, .ref qSz, .ref qSu, .ref qDa, .ref qLo, .ref qLe, .ref qNa, .ref qNs, .ref qSt, .ref qSa, .ref qCo, .ref qWr, .int (iI to), .int (iI nw), .int (iI bt), .int (iI rf), .ref qLn, .ref qSm, .ref qCd, .ref qSc, .int (iI 288), .int (iI 32), .int (iI th)])), (qLn, .inl (cLn, 320, .inl (fun k => iI (fl1 k)))), (qCd, .inl (cCd, 320, .inl fk1))]) u9) ((fun (u9 : (Nat → Int) × (Nat → Int32)) => match u9 with | (fl1, fk1) => [(cLn, .int), (cCd, .int)]) u9) A t) A) (by decide) (Nat.le_of_ble_eq_true rfl) (fun p e s m below meth c A ls hx hb hr hml hown ht hlk hnm hA hK hP hD hX hl => by
    have hS : va_S A s.heap s.heap [] := va_S.rf
    have hl : lv_has ls 2 [(0, .ref qm)] := hl
    refine lv_iconst (v := iI 0) hx hb d_M_plainCodes_0 (by decide) ?_
    refine lv_istore_n (lv' := [(1, .int (iI 0)), (0, .ref qm)]) hx hb d_M_plainCodes_1 rfl hl (by decide) rfl (fun ls hl => ?_)
    have lp2 : ∀ (j : Nat) (k : Int) (l2 : Nat → Int) (H : Heap) (locs : List Loc) (ls : Array Slot), (0 ≤ k ∧ k ≤ 288) → (∀ k : Nat, 0 ≤ l2 k ∧ l2 k ≤ 15) → (∀ j : Int, 0 ≤ j → j < k → l2 j.toNat = (zfx j.toNat : Int)) → (288 - k < (j : Int)) → va_P D zcl [(qm, .inr (8, [.ref qT, .int (iI len), .int (iI op), .int (iI fp), .int (iI bu), .int (iI ra), .int (iI en), .ref qMe, .ref qPk, .ref qSz, .ref qSu, .ref qDa, .ref qLo, .ref qLe, .ref qNa, .ref qNs, .ref qSt, .ref qSa, .ref qCo, .ref qWr, .int (iI to), .int (iI nw), .int (iI bt), .int (iI rf), .ref qLn, .ref qSm, .ref qCd, .ref qSc, .int (iI sy), .int (iI di), .int (iI th)])), (qLn, .inl (cLn, 320, .inl (fun k => iI (l2 k)))), (qCd, .inl (cCd, 320, .inl fCd))] H → va_D A [(qm, .inr (8, [.ref qT, .int (iI len), .int (iI op), .int (iI fp), .int (iI bu), .int (iI ra), .int (iI en), .ref qMe, .ref qPk, .ref qSz, .ref qSu, .ref qDa, .ref qLo, .ref qLe, .ref qNa, .ref qNs, .ref qSt, .ref qSa, .ref qCo, .ref qWr, .int (iI to), .int (iI nw), .int (iI bt), .int (iI rf), .ref qLn, .ref qSm, .ref qCd, .ref qSc, .int (iI sy), .int (iI di), .int (iI th)])), (qLn, .inl (cLn, 320, .inl (fun k => iI (l2 k)))), (qCd, .inl (cCd, 320, .inl fCd))] → va_S A s.heap H locs → lv_has ls 2 [(1, .int (iI k)), (0, .ref qm)] → W p l e { frames := 2, cells := 0, slots := 0, locals := 46 } s m [.ref qm].toArray below meth c H locs 0 0 (MQ below ((fun A => va_Qv (fun (u9 : (Nat → Int) × (Nat → Int32)) => match u9 with | (fl1, fk1) => (∀ k : Nat, 0 ≤ fl1 k ∧ fl1 k ≤ 15) ∧ (∀ j : Int, 0 ≤ j → j < 288 → fl1 j.toNat = (zfx j.toNat : Int)) ∧ (∀ j : Int, 0 ≤ j → j < 32 → fl1 (j + 288).toNat = (((fun _ => 5) : Nat → Nat) j.toNat : Int)) ∧ (zCk zfx (288 : Int).toNat 0 288 fk1 16 0) ∧ (zCk (fun _ => 5) (32 : Int).toNat 288 32 fk1 16 0)) (fun u9 t => zB D ((fun (u9 : (Nat → Int) × (Nat → Int32)) => match u9 with | (fl1, fk1) => [(qm, .inr (8, [.ref qT, .int (iI len), .int (iI op), .int (iI fp), .int (iI bu), .int (iI ra), .int (iI en), .ref qMe, .ref qPk, .ref qSz, .ref qSu, .ref qDa, .ref qLo, .ref qLe, .ref qNa, .ref qNs, .ref qSt, .ref qSa, .ref qCo, .ref qWr, .int (iI to), .int (iI nw), .int (iI bt), .int (iI rf), .ref qLn, .ref qSm, .ref qCd, .ref qSc, .int (iI 288), .int (iI 32), .int (iI th)])), (qLn, .inl (cLn, 320, .inl (fun k => iI (fl1 k)))), (qCd, .inl (cCd, 320, .inl fk1))]) u9) ((fun (u9 : (Nat → Int) × (Nat → Int32)) => match u9 with | (fl1, fk1) => [(cLn, .int), (cCd, .int)]) u9) A t) A) A) [.ref qm].toArray s 0 0 A) (F0 m 2 ls []) := by
      intro j
      induction j with
      | zero => intro k l2 H locs ls hk1 hl2 hx2 hj2 hP hD hS hl; exfalso; omega
      | succ j ih2 =>
        intro k l2 H locs ls hk1 hl2 hx2 hj2 hP hD hS hl
        refine lv_iload_n hx hb d_M_plainCodes_2 rfl (lv_at hl 0 rfl) ?_
        refine lv_sipush (v := iI 288) hx hb d_M_plainCodes_3 (by decide) ?_
        refine zv_icmp_ge (tgt := 59) hx hb d_M_plainCodes_6 (by decide) (by omega) (by omega) (fun hc_1 => ?_) (fun hc_1 => ?_)
        · skip
          refine lv_iconst (v := iI 0) hx hb d_M_plainCodes_59 (by decide) ?_
          refine lv_istore_n (lv' := [(1, .int (iI 0)), (0, .ref qm)]) hx hb d_M_plainCodes_60 rfl hl (by decide) rfl (fun ls hl => ?_)
          have lp61 : ∀ (j : Nat) (k2 : Int) (l3 : Nat → Int) (H : Heap) (locs : List Loc) (ls : Array Slot), (0 ≤ k2 ∧ k2 ≤ 32) → (∀ k : Nat, 0 ≤ l3 k ∧ l3 k ≤ 15) → (∀ j : Int, 0 ≤ j → j < 288 → l3 j.toNat = (zfx j.toNat : Int)) → (∀ j : Int, 0 ≤ j → j < k2 → l3 (j + 288).toNat = (((fun _ => 5) : Nat → Nat) j.toNat : Int)) → (32 - k2 < (j : Int)) → va_P D zcl [(qm, .inr (8, [.ref qT, .int (iI len), .int (iI op), .int (iI fp), .int (iI bu), .int (iI ra), .int (iI en), .ref qMe, .ref qPk, .ref qSz, .ref qSu, .ref qDa, .ref qLo, .ref qLe, .ref qNa, .ref qNs, .ref qSt, .ref qSa, .ref qCo, .ref qWr, .int (iI to), .int (iI nw), .int (iI bt), .int (iI rf), .ref qLn, .ref qSm, .ref qCd, .ref qSc, .int (iI sy), .int (iI di), .int (iI th)])), (qLn, .inl (cLn, 320, .inl (fun k => iI (l3 k)))), (qCd, .inl (cCd, 320, .inl fCd))] H → va_D A [(qm, .inr (8, [.ref qT, .int (iI len), .int (iI op), .int (iI fp), .int (iI bu), .int (iI ra), .int (iI en), .ref qMe, .ref qPk, .ref qSz, .ref qSu, .ref qDa, .ref qLo, .ref qLe, .ref qNa, .ref qNs, .ref qSt, .ref qSa, .ref qCo, .ref qWr, .int (iI to), .int (iI nw), .int (iI bt), .int (iI rf), .ref qLn, .ref qSm, .ref qCd, .ref qSc, .int (iI sy), .int (iI di), .int (iI th)])), (qLn, .inl (cLn, 320, .inl (fun k => iI (l3 k)))), (qCd, .inl (cCd, 320, .inl fCd))] → va_S A s.heap H locs → lv_has ls 2 [(1, .int (iI k2)), (0, .ref qm)] → W p l e { frames := 2, cells := 0, slots := 0, locals := 46 } s m [.ref qm].toArray below meth c H locs 0 0 (MQ below ((fun A => va_Qv (fun (u9 : (Nat → Int) × (Nat → Int32)) => match u9 with | (fl1, fk1) => (∀ k : Nat, 0 ≤ fl1 k ∧ fl1 k ≤ 15) ∧ (∀ j : Int, 0 ≤ j → j < 288 → fl1 j.toNat = (zfx j.toNat : Int)) ∧ (∀ j : Int, 0 ≤ j → j < 32 → fl1 (j + 288).toNat = (((fun _ => 5) : Nat → Nat) j.toNat : Int)) ∧ (zCk zfx (288 : Int).toNat 0 288 fk1 16 0) ∧ (zCk (fun _ => 5) (32 : Int).toNat 288 32 fk1 16 0)) (fun u9 t => zB D ((fun (u9 : (Nat → Int) × (Nat → Int32)) => match u9 with | (fl1, fk1) => [(qm, .inr (8, [.ref qT, .int (iI len), .int (iI op), .int (iI fp), .int (iI bu), .int (iI ra), .int (iI en), .ref qMe, .ref qPk, .ref qSz, .ref qSu, .ref qDa, .ref qLo, .ref qLe, .ref qNa, .ref qNs, .ref qSt, .ref qSa, .ref qCo, .ref qWr, .int (iI to), .int (iI nw), .int (iI bt), .int (iI rf), .ref qLn, .ref qSm, .ref qCd, .ref qSc, .int (iI 288), .int (iI 32), .int (iI th)])), (qLn, .inl (cLn, 320, .inl (fun k => iI (fl1 k)))), (qCd, .inl (cCd, 320, .inl fk1))]) u9) ((fun (u9 : (Nat → Int) × (Nat → Int32)) => match u9 with | (fl1, fk1) => [(cLn, .int), (cCd, .int)]) u9) A t) A) A) [.ref qm].toArray s 0 0 A) (F0 m 61 ls []) := by
            intro j
            induction j with
            | zero => intro k2 l3 H locs ls hk2 hl3 hx3 h53 hj61 hP hD hS hl; exfalso; omega
            | succ j ih61 =>
              intro k2 l3 H locs ls hk2 hl3 hx3 h53 hj61 hP hD hS hl
              refine lv_iload_n hx hb d_M_plainCodes_61 rfl (lv_at hl 0 rfl) ?_
              refine lv_bipush (v := iI 32) hx hb d_M_plainCodes_62 (by decide) ?_
              refine zv_icmp_ge (tgt := 84) hx hb d_M_plainCodes_64 (by decide) (by omega) (by omega) (fun hc_2 => ?_) (fun hc_2 => ?_)
              · skip
                refine lv_aload_n hx hb d_M_plainCodes_84 rfl (lv_at hl 1 rfl) ?_
                refine lv_sipush (v := iI 288) hx hb d_M_plainCodes_85 (by decide) ?_
                refine va_put (ci := 8) (v := .int (iI 288)) (ty := .int) (C := "ZipGuardModel") (T := F_M) (N := 31) hx hb ht zi_M ty_M tk_M nm_M hown hK hP hD hS 0 rfl rfl 28 (by decide) (ht _ zm_780) (fun _ h9 => h9) rfl (by decide +kernel) rfl rfl (Nat.le_of_ble_eq_true rfl) d_M_plainCodes_88 (fun H locs hP hD hS => ?_)
                have hP : va_P D zcl [(qm, .inr (8, [.ref qT, .int (iI len), .int (iI op), .int (iI fp), .int (iI bu), .int (iI ra), .int (iI en), .ref qMe, .ref qPk, .ref qSz, .ref qSu, .ref qDa, .ref qLo, .ref qLe, .ref qNa, .ref qNs, .ref qSt, .ref qSa, .ref qCo, .ref qWr, .int (iI to), .int (iI nw), .int (iI bt), .int (iI rf), .ref qLn, .ref qSm, .ref qCd, .ref qSc, .int (iI 288), .int (iI di), .int (iI th)])), (qLn, .inl (cLn, 320, .inl (fun k => iI (l3 k)))), (qCd, .inl (cCd, 320, .inl fCd))] H := hP
                have hD : va_D A [(qm, .inr (8, [.ref qT, .int (iI len), .int (iI op), .int (iI fp), .int (iI bu), .int (iI ra), .int (iI en), .ref qMe, .ref qPk, .ref qSz, .ref qSu, .ref qDa, .ref qLo, .ref qLe, .ref qNa, .ref qNs, .ref qSt, .ref qSa, .ref qCo, .ref qWr, .int (iI to), .int (iI nw), .int (iI bt), .int (iI rf), .ref qLn, .ref qSm, .ref qCd, .ref qSc, .int (iI 288), .int (iI di), .int (iI th)])), (qLn, .inl (cLn, 320, .inl (fun k => iI (l3 k)))), (qCd, .inl (cCd, 320, .inl fCd))] := hD
                refine lv_aload_n hx hb d_M_plainCodes_91 rfl (lv_at hl 1 rfl) ?_
                refine lv_bipush (v := iI 32) hx hb d_M_plainCodes_92 (by decide) ?_
                refine va_put (ci := 8) (v := .int (iI 32)) (ty := .int) (C := "ZipGuardModel") (T := F_M) (N := 31) hx hb ht zi_M ty_M tk_M nm_M hown hK hP hD hS 0 rfl rfl 29 (by decide) (ht _ zm_781) (fun _ h9 => h9) rfl (by decide +kernel) rfl rfl (Nat.le_of_ble_eq_true rfl) d_M_plainCodes_94 (fun H locs hP hD hS => ?_)
                have hP : va_P D zcl [(qm, .inr (8, [.ref qT, .int (iI len), .int (iI op), .int (iI fp), .int (iI bu), .int (iI ra), .int (iI en), .ref qMe, .ref qPk, .ref qSz, .ref qSu, .ref qDa, .ref qLo, .ref qLe, .ref qNa, .ref qNs, .ref qSt, .ref qSa, .ref qCo, .ref qWr, .int (iI to), .int (iI nw), .int (iI bt), .int (iI rf), .ref qLn, .ref qSm, .ref qCd, .ref qSc, .int (iI 288), .int (iI 32), .int (iI th)])), (qLn, .inl (cLn, 320, .inl (fun k => iI (l3 k)))), (qCd, .inl (cCd, 320, .inl fCd))] H := hP
                have hD : va_D A [(qm, .inr (8, [.ref qT, .int (iI len), .int (iI op), .int (iI fp), .int (iI bu), .int (iI ra), .int (iI en), .ref qMe, .ref qPk, .ref qSz, .ref qSu, .ref qDa, .ref qLo, .ref qLe, .ref qNa, .ref qNs, .ref qSt, .ref qSa, .ref qCo, .ref qWr, .int (iI to), .int (iI nw), .int (iI bt), .int (iI rf), .ref qLn, .ref qSm, .ref qCd, .ref qSc, .int (iI 288), .int (iI 32), .int (iI th)])), (qLn, .inl (cLn, 320, .inl (fun k => iI (l3 k)))), (qCd, .inl (cCd, 320, .inl fCd))] := hD
                refine lv_aload_n hx hb d_M_plainCodes_97 rfl (lv_at hl 1 rfl) ?_
                refine zjv (wr := []) (va_runV (As := []) (rest := []) ⟨hx, hb, hml, hown, ht⟩ (m_nboth l D _ qm qT len op fp bu ra en qMe qPk qSz qSu qDa qLo qLe qNa qNs qSt qSa qCo qWr to nw bt rf qLn qSm qCd qSc 288 32 th cLn l3 cCd fCd zfx (fun _ => 5) hl3 (by omega) (fun k h1 h2 => by rw [Int.zero_add]; exact hx3 k h1 h2) (fun k h1 h2 => by rw [Int.add_comm 288 k]; exact h53 k h1 (by omega))) (cwV 0 ht (zt_goodV zm_978 zm_979 zm_56 zm_79 zm_980) rfl rfl rfl (by decide +kernel) ⟨Nat.le_of_ble_eq_true rfl, Nat.le_of_ble_eq_true rfl⟩) (zpreV zBlind_t hK hP hD [0, 1, 2] [0, 1] rfl (by decide) rfl (fun _ _ _ => trivial) (va_recv (q := ("ZipGuardModel", F_M, 31)) hK hP rfl (q0 := 0) (ci := 8) rfl)) rfl rfl hl.1 rfl (lv_room (Nat.le_of_ble_eq_true rfl)) d_M_plainCodes_98 ⟨Nat.le_of_ble_eq_true rfl, Nat.le_of_ble_eq_true rfl⟩) hK hP hD hS hA [0, 1, 2] [] rfl rfl (by decide) (by decide) (fun u9 H locs hp5 hP hD hK hS => ?_)
                obtain ⟨f_3, rfl⟩ : ∃ z, z = u9 := ⟨u9, rfl⟩
                dsimp only at hp5 hP hD hK
                have hP : va_P D zcl [(qm, .inr (8, [.ref qT, .int (iI len), .int (iI op), .int (iI fp), .int (iI bu), .int (iI ra), .int (iI en), .ref qMe, .ref qPk, .ref qSz, .ref qSu, .ref qDa, .ref qLo, .ref qLe, .ref qNa, .ref qNs, .ref qSt, .ref qSa, .ref qCo, .ref qWr, .int (iI to), .int (iI nw), .int (iI bt), .int (iI rf), .ref qLn, .ref qSm, .ref qCd, .ref qSc, .int (iI 288), .int (iI 32), .int (iI th)])), (qLn, .inl (cLn, 320, .inl (fun k => iI (l3 k)))), (qCd, .inl (cCd, 320, .inl f_3))] H := hP
                have hD : va_D A [(qm, .inr (8, [.ref qT, .int (iI len), .int (iI op), .int (iI fp), .int (iI bu), .int (iI ra), .int (iI en), .ref qMe, .ref qPk, .ref qSz, .ref qSu, .ref qDa, .ref qLo, .ref qLe, .ref qNa, .ref qNs, .ref qSt, .ref qSa, .ref qCo, .ref qWr, .int (iI to), .int (iI nw), .int (iI bt), .int (iI rf), .ref qLn, .ref qSm, .ref qCd, .ref qSc, .int (iI 288), .int (iI 32), .int (iI th)])), (qLn, .inl (cLn, 320, .inl (fun k => iI (l3 k)))), (qCd, .inl (cCd, 320, .inl f_3))] := hD
                have hK : va_K D zcl [(cLn, .int), (cCd, .int), (cLn, .int), (cCd, .int)] s := hK
                have hP := hP.sub (ws' := [(qm, .inr (8, [.ref qT, .int (iI len), .int (iI op), .int (iI fp), .int (iI bu), .int (iI ra), .int (iI en), .ref qMe, .ref qPk, .ref qSz, .ref qSu, .ref qDa, .ref qLo, .ref qLe, .ref qNa, .ref qNs, .ref qSt, .ref qSa, .ref qCo, .ref qWr, .int (iI to), .int (iI nw), .int (iI bt), .int (iI rf), .ref qLn, .ref qSm, .ref qCd, .ref qSc, .int (iI 288), .int (iI 32), .int (iI th)])), (qLn, .inl (cLn, 320, .inl (fun k => iI (l3 k)))), (qCd, .inl (cCd, 320, .inl f_3))]) [0, 1, 2] rfl
                have hD := hD.sub (ws' := [(qm, .inr (8, [.ref qT, .int (iI len), .int (iI op), .int (iI fp), .int (iI bu), .int (iI ra), .int (iI en), .ref qMe, .ref qPk, .ref qSz, .ref qSu, .ref qDa, .ref qLo, .ref qLe, .ref qNa, .ref qNs, .ref qSt, .ref qSa, .ref qCo, .ref qWr, .int (iI to), .int (iI nw), .int (iI bt), .int (iI rf), .ref qLn, .ref qSm, .ref qCd, .ref qSc, .int (iI 288), .int (iI 32), .int (iI th)])), (qLn, .inl (cLn, 320, .inl (fun k => iI (l3 k)))), (qCd, .inl (cCd, 320, .inl f_3))]) [0, 1, 2] (by decide) rfl
                have hK := hK.sub (tys' := [(cLn, .int), (cCd, .int)]) [0, 1] rfl
                exact zretv hx hb hr hlk hK hP hD hS (l3, f_3) [0, 1, 2] [0, 1] rfl (by decide) rfl (⟨hl3, hx3, fun j h1 h2 => h53 j h1 (by omega), hp5⟩) (Nat.le_of_ble_eq_true rfl) (Nat.le_of_ble_eq_true rfl) d_M_plainCodes_101
              · skip
                refine lv_aload_n hx hb d_M_plainCodes_67 rfl (lv_at hl 1 rfl) ?_
                refine va_get (ci := 8) (C := "ZipGuardModel") (T := F_M) (N := 31) hx hb ht zi_M hown hK hP 0 rfl rfl 24 (by decide) (ht _ zm_776) (fun _ h9 => h9) rfl d_M_plainCodes_68 ?_
                refine lv_sipush (v := iI 288) hx hb d_M_plainCodes_71 (by decide) ?_
                refine lv_iload_n hx hb d_M_plainCodes_74 rfl (lv_at hl 0 rfl) ?_
                refine zv_iadd (z := k2 + 288) hx hb d_M_plainCodes_75 (by omega) ?_
                refine lv_iconst (v := iI 5) hx hb d_M_plainCodes_76 (by decide) ?_
                refine zv_iast hx hb hK hP hD hS 1 0 rfl rfl (by omega) (by decide) d_M_plainCodes_77 (fun g_6 H locs hg_7 hP hD hS => ?_)
                have hP : va_P D zcl [(qm, .inr (8, [.ref qT, .int (iI len), .int (iI op), .int (iI fp), .int (iI bu), .int (iI ra), .int (iI en), .ref qMe, .ref qPk, .ref qSz, .ref qSu, .ref qDa, .ref qLo, .ref qLe, .ref qNa, .ref qNs, .ref qSt, .ref qSa, .ref qCo, .ref qWr, .int (iI to), .int (iI nw), .int (iI bt), .int (iI rf), .ref qLn, .ref qSm, .ref qCd, .ref qSc, .int (iI sy), .int (iI di), .int (iI th)])), (qLn, .inl (cLn, 320, .inl (fun k => iI (g_6 k)))), (qCd, .inl (cCd, 320, .inl fCd))] H := hP
                have hD : va_D A [(qm, .inr (8, [.ref qT, .int (iI len), .int (iI op), .int (iI fp), .int (iI bu), .int (iI ra), .int (iI en), .ref qMe, .ref qPk, .ref qSz, .ref qSu, .ref qDa, .ref qLo, .ref qLe, .ref qNa, .ref qNs, .ref qSt, .ref qSa, .ref qCo, .ref qWr, .int (iI to), .int (iI nw), .int (iI bt), .int (iI rf), .ref qLn, .ref qSm, .ref qCd, .ref qSc, .int (iI sy), .int (iI di), .int (iI th)])), (qLn, .inl (cLn, 320, .inl (fun k => iI (g_6 k)))), (qCd, .inl (cCd, 320, .inl fCd))] := hD
                have hf_8 := zup_all hl3 hg_7 (by omega)
                refine lv_iinc (k := 0) (v := iI (k2 + 1)) (lv' := [(1, .int (iI (k2 + 1))), (0, .ref qm)]) hx hb d_M_plainCodes_78 hl rfl (zinc (by omega)) (by decide) rfl (fun ls hl => ?_)
                refine lv_goto (tgt := 61) hx hb d_M_plainCodes_81 (by decide) ?_
                exact ih61 (k2 + 1) g_6 _ _ _ (by omega) hf_8 (fun j h1 h2 => by rw [hg_7, zup_ne (by omega)]; exact hx3 j h1 h2) (zfl_s (F := fun _ => 5) h53 hg_7 rfl (by omega)) (by omega) hP hD hS hl
          exact lp61 ((32 - 0 + 1 : Int)).toNat 0 l2 _ _ _ (by omega) hl2 (fun j h1 h2 => hx2 j h1 (by omega)) (fun j h1 h2 => absurd h2 (by omega)) (by omega) hP hD hS hl
        · skip
          refine lv_aload_n hx hb d_M_plainCodes_9 rfl (lv_at hl 1 rfl) ?_
          refine va_get (ci := 8) (C := "ZipGuardModel") (T := F_M) (N := 31) hx hb ht zi_M hown hK hP 0 rfl rfl 24 (by decide) (ht _ zm_776) (fun _ h9 => h9) rfl d_M_plainCodes_10 ?_
          refine lv_iload_n hx hb d_M_plainCodes_13 rfl (lv_at hl 0 rfl) ?_
          refine lv_iload_n hx hb d_M_plainCodes_14 rfl (lv_at hl 0 rfl) ?_
          refine lv_sipush (v := iI 144) hx hb d_M_plainCodes_15 (by decide) ?_
          refine zv_icmp_ge (tgt := 26) hx hb d_M_plainCodes_18 (by decide) (by omega) (by omega) (fun hc_9 => ?_) (fun hc_9 => ?_)
          · skip
            refine lv_iload_n hx hb d_M_plainCodes_26 rfl (lv_at hl 0 rfl) ?_
            refine lv_sipush (v := iI 256) hx hb d_M_plainCodes_27 (by decide) ?_
            refine zv_icmp_ge (tgt := 38) hx hb d_M_plainCodes_30 (by decide) (by omega) (by omega) (fun hc_10 => ?_) (fun hc_10 => ?_)
            · skip
              refine lv_iload_n hx hb d_M_plainCodes_38 rfl (lv_at hl 0 rfl) ?_
              refine lv_sipush (v := iI 280) hx hb d_M_plainCodes_39 (by decide) ?_
              refine zv_icmp_ge (tgt := 50) hx hb d_M_plainCodes_42 (by decide) (by omega) (by omega) (fun hc_11 => ?_) (fun hc_11 => ?_)
              · skip
                refine lv_bipush (v := iI 8) hx hb d_M_plainCodes_50 (by decide) ?_
                refine zv_iast hx hb hK hP hD hS 1 0 rfl rfl (by omega) (by decide) d_M_plainCodes_52 (fun g_12 H locs hg_13 hP hD hS => ?_)
                have hP : va_P D zcl [(qm, .inr (8, [.ref qT, .int (iI len), .int (iI op), .int (iI fp), .int (iI bu), .int (iI ra), .int (iI en), .ref qMe, .ref qPk, .ref qSz, .ref qSu, .ref qDa, .ref qLo, .ref qLe, .ref qNa, .ref qNs, .ref qSt, .ref qSa, .ref qCo, .ref qWr, .int (iI to), .int (iI nw), .int (iI bt), .int (iI rf), .ref qLn, .ref qSm, .ref qCd, .ref qSc, .int (iI sy), .int (iI di), .int (iI th)])), (qLn, .inl (cLn, 320, .inl (fun k => iI (g_12 k)))), (qCd, .inl (cCd, 320, .inl fCd))] H := hP
                have hD : va_D A [(qm, .inr (8, [.ref qT, .int (iI len), .int (iI op), .int (iI fp), .int (iI bu), .int (iI ra), .int (iI en), .ref qMe, .ref qPk, .ref qSz, .ref qSu, .ref qDa, .ref qLo, .ref qLe, .ref qNa, .ref qNs, .ref qSt, .ref qSa, .ref qCo, .ref qWr, .int (iI to), .int (iI nw), .int (iI bt), .int (iI rf), .ref qLn, .ref qSm, .ref qCd, .ref qSc, .int (iI sy), .int (iI di), .int (iI th)])), (qLn, .inl (cLn, 320, .inl (fun k => iI (g_12 k)))), (qCd, .inl (cCd, 320, .inl fCd))] := hD
                have hf_14 := zup_all hl2 hg_13 (by omega)
                refine lv_iinc (k := 0) (v := iI (k + 1)) (lv' := [(1, .int (iI (k + 1))), (0, .ref qm)]) hx hb d_M_plainCodes_53 hl rfl (zinc (by omega)) (by decide) rfl (fun ls hl => ?_)
                refine lv_goto (tgt := 2) hx hb d_M_plainCodes_56 (by decide) ?_
                exact ih2 (k + 1) g_12 _ _ _ (by omega) hf_14 (zfl_0 hx2 hg_13 (by unfold zfx; (repeat' split) <;> omega) (by omega)) (by omega) hP hD hS hl
              · skip
                refine lv_bipush (v := iI 7) hx hb d_M_plainCodes_45 (by decide) ?_
                refine lv_goto (tgt := 52) hx hb d_M_plainCodes_47 (by decide) ?_
                refine zv_iast hx hb hK hP hD hS 1 0 rfl rfl (by omega) (by decide) d_M_plainCodes_52 (fun g_15 H locs hg_16 hP hD hS => ?_)
                have hP : va_P D zcl [(qm, .inr (8, [.ref qT, .int (iI len), .int (iI op), .int (iI fp), .int (iI bu), .int (iI ra), .int (iI en), .ref qMe, .ref qPk, .ref qSz, .ref qSu, .ref qDa, .ref qLo, .ref qLe, .ref qNa, .ref qNs, .ref qSt, .ref qSa, .ref qCo, .ref qWr, .int (iI to), .int (iI nw), .int (iI bt), .int (iI rf), .ref qLn, .ref qSm, .ref qCd, .ref qSc, .int (iI sy), .int (iI di), .int (iI th)])), (qLn, .inl (cLn, 320, .inl (fun k => iI (g_15 k)))), (qCd, .inl (cCd, 320, .inl fCd))] H := hP
                have hD : va_D A [(qm, .inr (8, [.ref qT, .int (iI len), .int (iI op), .int (iI fp), .int (iI bu), .int (iI ra), .int (iI en), .ref qMe, .ref qPk, .ref qSz, .ref qSu, .ref qDa, .ref qLo, .ref qLe, .ref qNa, .ref qNs, .ref qSt, .ref qSa, .ref qCo, .ref qWr, .int (iI to), .int (iI nw), .int (iI bt), .int (iI rf), .ref qLn, .ref qSm, .ref qCd, .ref qSc, .int (iI sy), .int (iI di), .int (iI th)])), (qLn, .inl (cLn, 320, .inl (fun k => iI (g_15 k)))), (qCd, .inl (cCd, 320, .inl fCd))] := hD
                have hf_17 := zup_all hl2 hg_16 (by omega)
                refine lv_iinc (k := 0) (v := iI (k + 1)) (lv' := [(1, .int (iI (k + 1))), (0, .ref qm)]) hx hb d_M_plainCodes_53 hl rfl (zinc (by omega)) (by decide) rfl (fun ls hl => ?_)
                refine lv_goto (tgt := 2) hx hb d_M_plainCodes_56 (by decide) ?_
                exact ih2 (k + 1) g_15 _ _ _ (by omega) hf_17 (zfl_0 hx2 hg_16 (by unfold zfx; (repeat' split) <;> omega) (by omega)) (by omega) hP hD hS hl
            · skip
              refine lv_bipush (v := iI 9) hx hb d_M_plainCodes_33 (by decide) ?_
              refine lv_goto (tgt := 52) hx hb d_M_plainCodes_35 (by decide) ?_
              refine zv_iast hx hb hK hP hD hS 1 0 rfl rfl (by omega) (by decide) d_M_plainCodes_52 (fun g_18 H locs hg_19 hP hD hS => ?_)
              have hP : va_P D zcl [(qm, .inr (8, [.ref qT, .int (iI len), .int (iI op), .int (iI fp), .int (iI bu), .int (iI ra), .int (iI en), .ref qMe, .ref qPk, .ref qSz, .ref qSu, .ref qDa, .ref qLo, .ref qLe, .ref qNa, .ref qNs, .ref qSt, .ref qSa, .ref qCo, .ref qWr, .int (iI to), .int (iI nw), .int (iI bt), .int (iI rf), .ref qLn, .ref qSm, .ref qCd, .ref qSc, .int (iI sy), .int (iI di), .int (iI th)])), (qLn, .inl (cLn, 320, .inl (fun k => iI (g_18 k)))), (qCd, .inl (cCd, 320, .inl fCd))] H := hP
              have hD : va_D A [(qm, .inr (8, [.ref qT, .int (iI len), .int (iI op), .int (iI fp), .int (iI bu), .int (iI ra), .int (iI en), .ref qMe, .ref qPk, .ref qSz, .ref qSu, .ref qDa, .ref qLo, .ref qLe, .ref qNa, .ref qNs, .ref qSt, .ref qSa, .ref qCo, .ref qWr, .int (iI to), .int (iI nw), .int (iI bt), .int (iI rf), .ref qLn, .ref qSm, .ref qCd, .ref qSc, .int (iI sy), .int (iI di), .int (iI th)])), (qLn, .inl (cLn, 320, .inl (fun k => iI (g_18 k)))), (qCd, .inl (cCd, 320, .inl fCd))] := hD
              have hf_20 := zup_all hl2 hg_19 (by omega)
              refine lv_iinc (k := 0) (v := iI (k + 1)) (lv' := [(1, .int (iI (k + 1))), (0, .ref qm)]) hx hb d_M_plainCodes_53 hl rfl (zinc (by omega)) (by decide) rfl (fun ls hl => ?_)
              refine lv_goto (tgt := 2) hx hb d_M_plainCodes_56 (by decide) ?_
              exact ih2 (k + 1) g_18 _ _ _ (by omega) hf_20 (zfl_0 hx2 hg_19 (by unfold zfx; (repeat' split) <;> omega) (by omega)) (by omega) hP hD hS hl
          · skip
            refine lv_bipush (v := iI 8) hx hb d_M_plainCodes_21 (by decide) ?_
            refine lv_goto (tgt := 52) hx hb d_M_plainCodes_23 (by decide) ?_
            refine zv_iast hx hb hK hP hD hS 1 0 rfl rfl (by omega) (by decide) d_M_plainCodes_52 (fun g_21 H locs hg_22 hP hD hS => ?_)
            have hP : va_P D zcl [(qm, .inr (8, [.ref qT, .int (iI len), .int (iI op), .int (iI fp), .int (iI bu), .int (iI ra), .int (iI en), .ref qMe, .ref qPk, .ref qSz, .ref qSu, .ref qDa, .ref qLo, .ref qLe, .ref qNa, .ref qNs, .ref qSt, .ref qSa, .ref qCo, .ref qWr, .int (iI to), .int (iI nw), .int (iI bt), .int (iI rf), .ref qLn, .ref qSm, .ref qCd, .ref qSc, .int (iI sy), .int (iI di), .int (iI th)])), (qLn, .inl (cLn, 320, .inl (fun k => iI (g_21 k)))), (qCd, .inl (cCd, 320, .inl fCd))] H := hP
            have hD : va_D A [(qm, .inr (8, [.ref qT, .int (iI len), .int (iI op), .int (iI fp), .int (iI bu), .int (iI ra), .int (iI en), .ref qMe, .ref qPk, .ref qSz, .ref qSu, .ref qDa, .ref qLo, .ref qLe, .ref qNa, .ref qNs, .ref qSt, .ref qSa, .ref qCo, .ref qWr, .int (iI to), .int (iI nw), .int (iI bt), .int (iI rf), .ref qLn, .ref qSm, .ref qCd, .ref qSc, .int (iI sy), .int (iI di), .int (iI th)])), (qLn, .inl (cLn, 320, .inl (fun k => iI (g_21 k)))), (qCd, .inl (cCd, 320, .inl fCd))] := hD
            have hf_23 := zup_all hl2 hg_22 (by omega)
            refine lv_iinc (k := 0) (v := iI (k + 1)) (lv' := [(1, .int (iI (k + 1))), (0, .ref qm)]) hx hb d_M_plainCodes_53 hl rfl (zinc (by omega)) (by decide) rfl (fun ls hl => ?_)
            refine lv_goto (tgt := 2) hx hb d_M_plainCodes_56 (by decide) ?_
            exact ih2 (k + 1) g_21 _ _ _ (by omega) hf_23 (zfl_0 hx2 hg_22 (by unfold zfx; (repeat' split) <;> omega) (by omega)) (by omega) hP hD hS hl
    exact lp2 ((288 - 0 + 1 : Int)).toNat 0 fLn _ _ _ (by omega) hLn (fun j h1 h2 => absurd h2 (by omega)) (by omega) hP hD hS hl)
set_option maxHeartbeats 4000000 in
set_option maxRecDepth 100000 in
theorem m_pblock (l : Launch) (D : va_G) (sz : Nat) (qm : Nat) (qT : Nat) (len : Int) (op : Int) (fp : Int) (bu : Int) (ra : Int) (en : Int) (qMe : Nat) (qPk : Nat) (qSz : Nat) (qSu : Nat) (qDa : Nat) (qLo : Nat) (qLe : Nat) (qNa : Nat) (qNs : Nat) (qSt : Nat) (qSa : Nat) (qCo : Nat) (qWr : Nat) (to : Int) (nw : Int) (bt : Int) (rf : Int) (qLn : Nat) (qSm : Nat) (qCd : Nat) (qSc : Nat) (sy : Int) (di : Int) (th : Int) (cT : ClassId) (fT : Nat → Int32) (cPk : ClassId) (fPk : Nat → Int) (cDa : ClassId) (fDa : Nat → Int) (cSz : ClassId) (fSz : Nat → Int64) (cCo : ClassId) (fCo : Nat → Int) (cWr : ClassId) (fWr : Nat → Int32) (cs : Int) (hnw : 0 ≤ nw ∧ nw < 64) (hrf : -2147483648 ≤ rf ∧ rf ≤ 2147483647) (hpk : 0 ≤ fPk nw.toNat ∧ fPk nw.toNat ≤ 20000) (hda : 0 ≤ fDa nw.toNat ∧ fDa nw.toNat + fPk nw.toNat ≤ 20000) (hbt : 0 ≤ bt ∧ bt ≤ 8 * fPk nw.toNat) (hlim : 0 ≤ bu ∧ bu ≤ 40000 ∧ 0 ≤ ra ∧ ra ≤ 2000) (hco : 0 ≤ fCo nw.toNat ∧ fCo nw.toNat ≤ to ∧ to ≤ 40000) (hcs : 0 ≤ cs ∧ cs + fCo nw.toNat = to) (hr0 : rf = 0) : Met l y_M_plainBlock (Cond.code y_M_plainBlock prog_10_method_42_code 5 (Option.none : Option Jvm.ClassFile.FieldType) :: zt) { frames := 2, cells := 0, slots := 0, locals := 45 } (zPc [.ref qm] D [(qm, .inr (8, [.ref qT, .int (iI len), .int (iI op), .int (iI fp), .int (iI bu), .int (iI ra), .int (iI en), .ref qMe, .ref qPk, .ref qSz, .ref qSu, .ref qDa, .ref qLo, .ref qLe, .ref qNa, .ref qNs, .ref qSt, .ref qSa, .ref qCo, .ref qWr, .int (iI to), .int (iI nw), .int (iI bt), .int (iI rf), .ref qLn, .ref qSm, .ref qCd, .ref qSc, .int (iI sy), .int (iI di), .int (iI th)])), (qT, .inl (cT, 20000, .inl fT)), (qPk, .inl (cPk, 64, .inr (.inl (fun k => lI (fPk k))))), (qDa, .inl (cDa, 64, .inl (fun k => iI (fDa k)))), (qSz, .inl (cSz, 64, .inr (.inl fSz))), (qCo, .inl (cCo, 64, .inl (fun k => iI (fCo k)))), (qWr, .inl (cWr, 40000, .inl fWr))] [(cT, .byte), (cPk, .long), (cDa, .int), (cSz, .long), (cCo, .int), (cWr, .byte)] sz (fun _ => True)) (va_Qv (fun (u9 : Int × Int × Int × (Nat → Int) × (Nat → Int32)) => match u9 with | (b1, to1, r1, fc1, fw1) => (∀ k : Nat, k ≠ nw.toNat → fc1 k = fCo k) ∧ (zRz (zstored fT (fDa nw.toNat + fPk nw.toNat).toNat bu.toNat ra.toNat (fPk nw.toNat).toNat (fSz nw.toNat) (8 * fDa nw.toNat + bt).toNat (zOo to (fCo nw.toNat) cs fWr)) r1 (8 * fDa nw.toNat + b1) to1 (fc1 nw.toNat) cs fw1) ∧ (-2147483648 ≤ r1 ∧ r1 ≤ 2147483647) ∧ to ≤ to1 ∧ to1 ≤ 40000 ∧ fc1 nw.toNat - fCo nw.toNat = to1 - to ∧ bt ≤ b1 ∧ b1 ≤ 8 * fPk nw.toNat ∧ 0 ≤ r1 ∧ r1 ≤ 100) (fun u9 t => zB D ((fun (u9 : Int × Int × Int × (Nat → Int) × (Nat → Int32)) => match u9 with | (b1, to1, r1, fc1, fw1) => [(qm, .inr (8, [.ref qT, .int (iI len), .int (iI op), .int (iI fp), .int (iI bu), .int (iI ra), .int (iI en), .ref qMe, .ref qPk, .ref qSz, .ref qSu, .ref qDa, .ref qLo, .ref qLe, .ref qNa, .ref qNs, .ref qSt, .ref qSa, .ref qCo, .ref qWr, .int (iI to1), .int (iI nw), .int (iI b1), .int (iI r1), .ref qLn, .ref qSm, .ref qCd, .ref qSc, .int (iI sy), .int (iI di), .int (iI th)])), (qT, .inl (cT, 20000, .inl fT)), (qPk, .inl (cPk, 64, .inr (.inl (fun k => lI (fPk k))))), (qDa, .inl (cDa, 64, .inl (fun k => iI (fDa k)))), (qSz, .inl (cSz, 64, .inr (.inl fSz))), (qCo, .inl (cCo, 64, .inl (fun k => iI (fc1 k)))), (qWr, .inl (cWr, 40000, .inl fw1))]) u9) ((fun (u9 : Int × Int × Int × (Nat → Int) × (Nat → Int32)) => match u9 with | (b1, to1, r1, fc1, fw1) => [(cT, .byte), (cPk, .long), (cDa, .int), (cSz, .long), (cCo, .int), (cWr, .byte)]) u9) (va_A [(qm, .inr (8, [.ref qT, .int (iI len), .int (iI op), .int (iI fp), .int (iI bu), .int (iI ra), .int (iI en), .ref qMe, .ref qPk, .ref qSz, .ref qSu, .ref qDa, .ref qLo, .ref qLe, .ref qNa, .ref qNs, .ref qSt, .ref qSa, .ref qCo, .ref qWr, .int (iI to), .int (iI nw), .int (iI bt), .int (iI rf), .ref qLn, .ref qSm, .ref qCd, .ref qSc, .int (iI sy), .int (iI di), .int (iI th)])), (qT, .inl (cT, 20000, .inl fT)), (qPk, .inl (cPk, 64, .inr (.inl (fun k => lI (fPk k))))), (qDa, .inl (cDa, 64, .inl (fun k => iI (fDa k)))), (qSz, .inl (cSz, 64, .inr (.inl fSz))), (qCo, .inl (cCo, 64, .inl (fun k => iI (fCo k)))), (qWr, .inl (cWr, 40000, .inl fWr))] sz) t) (va_A [(qm, .inr (8, [.ref qT, .int (iI len), .int (iI op), .int (iI fp), .int (iI bu), .int (iI ra), .int (iI en), .ref qMe, .ref qPk, .ref qSz, .ref qSu, .ref qDa, .ref qLo, .ref qLe, .ref qNa, .ref qNs, .ref qSt, .ref qSa, .ref qCo, .ref qWr, .int (iI to), .int (iI nw), .int (iI bt), .int (iI rf), .ref qLn, .ref qSm, .ref qCd, .ref qSc, .int (iI sy), .int (iI di), .int (iI th)])), (qT, .inl (cT, 20000, .inl fT)), (qPk, .inl (cPk, 64, .inr (.inl (fun k => lI (fPk k))))), (qDa, .inl (cDa, 64, .inl (fun k => iI (fDa k)))), (qSz, .inl (cSz, 64, .inr (.inl fSz))), (qCo, .inl (cCo, 64, .inl (fun k => iI (fCo k)))), (qWr, .inl (cWr, 40000, .inl fWr))] sz)) 0 0 (va_A [(qm, .inr (8, [.ref qT, .int (iI len), .int (iI op), .int (iI fp), .int (iI bu), .int (iI ra), .int (iI en), .ref qMe, .ref qPk, .ref qSz, .ref qSu, .ref qDa, .ref qLo, .ref qLe, .ref qNa, .ref qNs, .ref qSt, .ref qSa, .ref qCo, .ref qWr, .int (iI to), .int (iI nw), .int (iI bt), .int (iI rf), .ref qLn, .ref qSm, .ref qCd, .ref qSc, .int (iI sy), .int (iI di), .int (iI th)])), (qT, .inl (cT, 20000, .inl fT)), (qPk, .inl (cPk, 64, .inr (.inl (fun k => lI (fPk k))))), (qDa, .inl (cDa, 64, .inl (fun k => iI (fDa k)))), (qSz, .inl (cSz, 64, .inr (.inl fSz))), (qCo, .inl (cCo, 64, .inl (fun k => iI (fCo k)))), (qWr, .inl (cWr, 40000, .inl fWr))] sz) :=
  zMet (Qf := fun A => va_Qv (fun (u9 : Int × Int × Int × (Nat → Int) × (Nat → Int32)) => match u9 with | (b1, to1, r1, fc1, fw1) => (∀ k : Nat, k ≠ nw.toNat → fc1 k = fCo k) ∧ (zRz (zstored fT (fDa nw.toNat + fPk nw.toNat).toNat bu.toNat ra.toNat (fPk nw.toNat).toNat (fSz nw.toNat) (8 * fDa nw.toNat + bt).toNat (zOo to (fCo nw.toNat) cs fWr)) r1 (8 * fDa nw.toNat + b1) to1 (fc1 nw.toNat) cs fw1) ∧ (-2147483648 ≤ r1 ∧ r1 ≤ 2147483647) ∧ to ≤ to1 ∧ to1 ≤ 40000 ∧ fc1 nw.toNat - fCo nw.toNat = to1 - to ∧ bt ≤ b1 ∧ b1 ≤ 8 * fPk nw.toNat ∧ 0 ≤ r1 ∧ r1 ≤ 100) (fun u9 t => zB D ((fun (u9 : Int × Int × Int × (Nat → Int) × (Nat → Int32)) => match u9 with | (b1, to1, r1, fc1, fw1) => [(qm, .inr (8, [.ref qT, .int (iI len), .int (iI op), .int (iI fp), .int (iI bu), .int (iI ra), .int (iI en), .ref qMe, .ref qPk, .ref qSz, .ref qSu, .ref qDa, .ref qLo, .ref qLe, .ref qNa, .ref qNs, .ref qSt, .ref qSa, .ref qCo, .ref qWr, .int (iI to1), .int (iI nw), .int (iI b1), .int (iI r1), .ref qLn, .ref qSm, .ref qCd, .ref qSc, .int (iI sy), .int (iI di), .int (iI th)])), (qT, .inl (cT, 20000, .inl fT)), (qPk, .inl (cPk, 64, .inr (.inl (fun k => lI (fPk k))))), (qDa, .inl (cDa, 64, .inl (fun k => iI (fDa k)))), (qSz, .inl (cSz, 64, .inr (.inl fSz))), (qCo, .inl (cCo, 64, .inl (fun k => iI (fc1 k)))), (qWr, .inl (cWr, 40000, .inl fw1))]) u9) ((fun (u9 : Int × Int × Int × (Nat → Int) × (Nat → Int32)) => match u9 with | (b1, to1, r1, fc1, fw1) => [(cT, .byte), (cPk, .long), (cDa, .int), (cSz, .long), (cCo, .int), (cWr, .byte)]) u9) A t) A) (by decide) (Nat.le_of_ble_eq_true rfl) (fun p e s m below meth c A ls hx hb hr hml hown ht hlk hnm hA hK hP hD hX hl => by
    have hS : va_S A s.heap s.heap [] := va_S.rf
    have hl : lv_has ls 5 [(0, .ref qm)] := hl
    have hz8 : zp 8 = 256 := by decide
    have hz16 : zp 16 = 65536 := by decide
    refine lv_aload_n hx hb d_M_plainBlock_0 rfl (lv_at hl 0 rfl) ?_
    refine lv_aload_n hx hb d_M_plainBlock_1 rfl (lv_at hl 0 rfl) ?_
    refine va_get (ci := 8) (C := "ZipGuardModel") (T := F_M) (N := 31) hx hb ht zi_M hown hK hP 0 rfl rfl 22 (by decide) (ht _ zm_774) (fun _ h9 => h9) rfl d_M_plainBlock_2 ?_
    refine lv_bipush (v := iI 7) hx hb d_M_plainBlock_5 (by decide) ?_
    refine zv_iadd (z := bt + 7) hx hb d_M_plainBlock_7 (by omega) ?_
    refine lv_bipush (v := iI 8) hx hb d_M_plainBlock_8 (by decide) ?_
    refine zv_idiv hx hb d_M_plainBlock_10 (by omega) (by omega) rfl ?_
    refine zv_nm (fun x_1 hz_2 => ?_)
    refine lv_bipush (v := iI 8) hx hb d_M_plainBlock_11 (by decide) ?_
    refine zv_imul (z := 8 * x_1) hx hb d_M_plainBlock_13 (by omega) ?_
    refine va_put (ci := 8) (v := .int (iI (8 * x_1))) (ty := .int) (C := "ZipGuardModel") (T := F_M) (N := 31) hx hb ht zi_M ty_M tk_M nm_M hown hK hP hD hS 0 rfl rfl 22 (by decide) (ht _ zm_774) (fun _ h9 => h9) rfl (by decide +kernel) rfl rfl (Nat.le_of_ble_eq_true rfl) d_M_plainBlock_14 (fun H locs hP hD hS => ?_)
    have hP : va_P D zcl [(qm, .inr (8, [.ref qT, .int (iI len), .int (iI op), .int (iI fp), .int (iI bu), .int (iI ra), .int (iI en), .ref qMe, .ref qPk, .ref qSz, .ref qSu, .ref qDa, .ref qLo, .ref qLe, .ref qNa, .ref qNs, .ref qSt, .ref qSa, .ref qCo, .ref qWr, .int (iI to), .int (iI nw), .int (iI (8 * x_1)), .int (iI rf), .ref qLn, .ref qSm, .ref qCd, .ref qSc, .int (iI sy), .int (iI di), .int (iI th)])), (qT, .inl (cT, 20000, .inl fT)), (qPk, .inl (cPk, 64, .inr (.inl (fun k => lI (fPk k))))), (qDa, .inl (cDa, 64, .inl (fun k => iI (fDa k)))), (qSz, .inl (cSz, 64, .inr (.inl fSz))), (qCo, .inl (cCo, 64, .inl (fun k => iI (fCo k)))), (qWr, .inl (cWr, 40000, .inl fWr))] H := hP
    have hD : va_D A [(qm, .inr (8, [.ref qT, .int (iI len), .int (iI op), .int (iI fp), .int (iI bu), .int (iI ra), .int (iI en), .ref qMe, .ref qPk, .ref qSz, .ref qSu, .ref qDa, .ref qLo, .ref qLe, .ref qNa, .ref qNs, .ref qSt, .ref qSa, .ref qCo, .ref qWr, .int (iI to), .int (iI nw), .int (iI (8 * x_1)), .int (iI rf), .ref qLn, .ref qSm, .ref qCd, .ref qSc, .int (iI sy), .int (iI di), .int (iI th)])), (qT, .inl (cT, 20000, .inl fT)), (qPk, .inl (cPk, 64, .inr (.inl (fun k => lI (fPk k))))), (qDa, .inl (cDa, 64, .inl (fun k => iI (fDa k)))), (qSz, .inl (cSz, 64, .inr (.inl fSz))), (qCo, .inl (cCo, 64, .inl (fun k => iI (fCo k)))), (qWr, .inl (cWr, 40000, .inl fWr))] := hD
    refine lv_aload_n hx hb d_M_plainBlock_17 rfl (lv_at hl 0 rfl) ?_
    refine lv_bipush (v := iI 16) hx hb d_M_plainBlock_18 (by decide) ?_
    refine zji (wr := [(qSz, .inl (cSz, 64, .inr (.inl fSz))), (qCo, .inl (cCo, 64, .inl (fun k => iI (fCo k)))), (qWr, .inl (cWr, 40000, .inl fWr))]) (va_runV (As := [.int (iI 16)]) (rest := []) ⟨hx, hb, hml, hown, ht⟩ (m_bits l D _ qm qT len op fp bu ra en qMe qPk qSz qSu qDa qLo qLe qNa qNs qSt qSa qCo qWr to nw (8 * x_1) rf qLn qSm qCd qSc sy di th cT fT cPk fPk cDa fDa 16 (by omega) (by omega) (by omega) (by omega) (by omega) (by omega)) (cwV 1 ht (zt_goodV zm_962 zm_963 zm_51 zm_79 zm_964) rfl rfl rfl (by decide +kernel) ⟨Nat.le_of_ble_eq_true rfl, Nat.le_of_ble_eq_true rfl⟩) (zpreV zBlind_t hK hP hD [0, 1, 2, 3] [0, 1, 2] rfl (by decide) rfl (fun _ _ _ => trivial) (va_recv (q := ("ZipGuardModel", F_M, 31)) hK hP rfl (q0 := 0) (ci := 8) rfl)) rfl rfl hl.1 rfl (lv_room (Nat.le_of_ble_eq_true rfl)) d_M_plainBlock_20 ⟨Nat.le_of_ble_eq_true rfl, Nat.le_of_ble_eq_true rfl⟩) hK hP hD hS hA [0, 1, 2, 3] [4, 5, 6] rfl rfl (by decide) (by decide) (fun r6 u9 H locs hp7 hP hD hK hS => ?_)
    obtain ⟨b_3, r_4, x_5⟩ := u9
    dsimp only at hp7 hP hD hK
    have hP : va_P D zcl [(qSz, .inl (cSz, 64, .inr (.inl fSz))), (qCo, .inl (cCo, 64, .inl (fun k => iI (fCo k)))), (qWr, .inl (cWr, 40000, .inl fWr)), (qm, .inr (8, [.ref qT, .int (iI len), .int (iI op), .int (iI fp), .int (iI bu), .int (iI ra), .int (iI en), .ref qMe, .ref qPk, .ref qSz, .ref qSu, .ref qDa, .ref qLo, .ref qLe, .ref qNa, .ref qNs, .ref qSt, .ref qSa, .ref qCo, .ref qWr, .int (iI to), .int (iI nw), .int (iI b_3), .int (iI r_4), .ref qLn, .ref qSm, .ref qCd, .ref qSc, .int (iI sy), .int (iI di), .int (iI th)])), (qT, .inl (cT, 20000, .inl fT)), (qPk, .inl (cPk, 64, .inr (.inl (fun k => lI (fPk k))))), (qDa, .inl (cDa, 64, .inl (fun k => iI (fDa k))))] H := hP
    have hD : va_D A [(qSz, .inl (cSz, 64, .inr (.inl fSz))), (qCo, .inl (cCo, 64, .inl (fun k => iI (fCo k)))), (qWr, .inl (cWr, 40000, .inl fWr)), (qm, .inr (8, [.ref qT, .int (iI len), .int (iI op), .int (iI fp), .int (iI bu), .int (iI ra), .int (iI en), .ref qMe, .ref qPk, .ref qSz, .ref qSu, .ref qDa, .ref qLo, .ref qLe, .ref qNa, .ref qNs, .ref qSt, .ref qSa, .ref qCo, .ref qWr, .int (iI to), .int (iI nw), .int (iI b_3), .int (iI r_4), .ref qLn, .ref qSm, .ref qCd, .ref qSc, .int (iI sy), .int (iI di), .int (iI th)])), (qT, .inl (cT, 20000, .inl fT)), (qPk, .inl (cPk, 64, .inr (.inl (fun k => lI (fPk k))))), (qDa, .inl (cDa, 64, .inl (fun k => iI (fDa k))))] := hD
    have hK : va_K D zcl [(cT, .byte), (cPk, .long), (cDa, .int), (cSz, .long), (cCo, .int), (cWr, .byte), (cT, .byte), (cPk, .long), (cDa, .int)] s := hK
    obtain ⟨he_8, hp7⟩ := hp7
    subst he_8
    have hP := hP.sub (ws' := [(qm, .inr (8, [.ref qT, .int (iI len), .int (iI op), .int (iI fp), .int (iI bu), .int (iI ra), .int (iI en), .ref qMe, .ref qPk, .ref qSz, .ref qSu, .ref qDa, .ref qLo, .ref qLe, .ref qNa, .ref qNs, .ref qSt, .ref qSa, .ref qCo, .ref qWr, .int (iI to), .int (iI nw), .int (iI b_3), .int (iI r_4), .ref qLn, .ref qSm, .ref qCd, .ref qSc, .int (iI sy), .int (iI di), .int (iI th)])), (qT, .inl (cT, 20000, .inl fT)), (qPk, .inl (cPk, 64, .inr (.inl (fun k => lI (fPk k))))), (qDa, .inl (cDa, 64, .inl (fun k => iI (fDa k)))), (qSz, .inl (cSz, 64, .inr (.inl fSz))), (qCo, .inl (cCo, 64, .inl (fun k => iI (fCo k)))), (qWr, .inl (cWr, 40000, .inl fWr))]) [3, 4, 5, 6, 0, 1, 2] rfl
    have hD := hD.sub (ws' := [(qm, .inr (8, [.ref qT, .int (iI len), .int (iI op), .int (iI fp), .int (iI bu), .int (iI ra), .int (iI en), .ref qMe, .ref qPk, .ref qSz, .ref qSu, .ref qDa, .ref qLo, .ref qLe, .ref qNa, .ref qNs, .ref qSt, .ref qSa, .ref qCo, .ref qWr, .int (iI to), .int (iI nw), .int (iI b_3), .int (iI r_4), .ref qLn, .ref qSm, .ref qCd, .ref qSc, .int (iI sy), .int (iI di), .int (iI th)])), (qT, .inl (cT, 20000, .inl fT)), (qPk, .inl (cPk, 64, .inr (.inl (fun k => lI (fPk k))))), (qDa, .inl (cDa, 64, .inl (fun k => iI (fDa k)))), (qSz, .inl (cSz, 64, .inr (.inl fSz))), (qCo, .inl (cCo, 64, .inl (fun k => iI (fCo k)))), (qWr, .inl (cWr, 40000, .inl fWr))]) [3, 4, 5, 6, 0, 1, 2] (by decide) rfl
    have hK := hK.sub (tys' := [(cT, .byte), (cPk, .long), (cDa, .int), (cSz, .long), (cCo, .int), (cWr, .byte)]) [0, 1, 2, 3, 4, 5] rfl
    refine lv_istore_n (lv' := [(1, .int (iI x_5)), (0, .ref qm)]) hx hb d_M_plainBlock_23 rfl hl (by decide) rfl (fun ls hl => ?_)
    refine lv_aload_n hx hb d_M_plainBlock_24 rfl (lv_at hl 1 rfl) ?_
    refine lv_bipush (v := iI 16) hx hb d_M_plainBlock_25 (by decide) ?_
    refine zji (wr := [(qSz, .inl (cSz, 64, .inr (.inl fSz))), (qCo, .inl (cCo, 64, .inl (fun k => iI (fCo k)))), (qWr, .inl (cWr, 40000, .inl fWr))]) (va_runV (As := [.int (iI 16)]) (rest := []) ⟨hx, hb, hml, hown, ht⟩ (m_bits l D _ qm qT len op fp bu ra en qMe qPk qSz qSu qDa qLo qLe qNa qNs qSt qSa qCo qWr to nw b_3 r_4 qLn qSm qCd qSc sy di th cT fT cPk fPk cDa fDa 16 (by omega) (by omega) (by omega) (by omega) (by omega) (by omega)) (cwV 1 ht (zt_goodV zm_962 zm_963 zm_51 zm_79 zm_964) rfl rfl rfl (by decide +kernel) ⟨Nat.le_of_ble_eq_true rfl, Nat.le_of_ble_eq_true rfl⟩) (zpreV zBlind_t hK hP hD [0, 1, 2, 3] [0, 1, 2] rfl (by decide) rfl (fun _ _ _ => trivial) (va_recv (q := ("ZipGuardModel", F_M, 31)) hK hP rfl (q0 := 0) (ci := 8) rfl)) rfl rfl hl.1 rfl (lv_room (Nat.le_of_ble_eq_true rfl)) d_M_plainBlock_27 ⟨Nat.le_of_ble_eq_true rfl, Nat.le_of_ble_eq_true rfl⟩) hK hP hD hS hA [0, 1, 2, 3] [4, 5, 6] rfl rfl (by decide) (by decide) (fun r12 u9 H locs hp13 hP hD hK hS => ?_)
    obtain ⟨b_9, r_10, x_11⟩ := u9
    dsimp only at hp13 hP hD hK
    have hP : va_P D zcl [(qSz, .inl (cSz, 64, .inr (.inl fSz))), (qCo, .inl (cCo, 64, .inl (fun k => iI (fCo k)))), (qWr, .inl (cWr, 40000, .inl fWr)), (qm, .inr (8, [.ref qT, .int (iI len), .int (iI op), .int (iI fp), .int (iI bu), .int (iI ra), .int (iI en), .ref qMe, .ref qPk, .ref qSz, .ref qSu, .ref qDa, .ref qLo, .ref qLe, .ref qNa, .ref qNs, .ref qSt, .ref qSa, .ref qCo, .ref qWr, .int (iI to), .int (iI nw), .int (iI b_9), .int (iI r_10), .ref qLn, .ref qSm, .ref qCd, .ref qSc, .int (iI sy), .int (iI di), .int (iI th)])), (qT, .inl (cT, 20000, .inl fT)), (qPk, .inl (cPk, 64, .inr (.inl (fun k => lI (fPk k))))), (qDa, .inl (cDa, 64, .inl (fun k => iI (fDa k))))] H := hP
    have hD : va_D A [(qSz, .inl (cSz, 64, .inr (.inl fSz))), (qCo, .inl (cCo, 64, .inl (fun k => iI (fCo k)))), (qWr, .inl (cWr, 40000, .inl fWr)), (qm, .inr (8, [.ref qT, .int (iI len), .int (iI op), .int (iI fp), .int (iI bu), .int (iI ra), .int (iI en), .ref qMe, .ref qPk, .ref qSz, .ref qSu, .ref qDa, .ref qLo, .ref qLe, .ref qNa, .ref qNs, .ref qSt, .ref qSa, .ref qCo, .ref qWr, .int (iI to), .int (iI nw), .int (iI b_9), .int (iI r_10), .ref qLn, .ref qSm, .ref qCd, .ref qSc, .int (iI sy), .int (iI di), .int (iI th)])), (qT, .inl (cT, 20000, .inl fT)), (qPk, .inl (cPk, 64, .inr (.inl (fun k => lI (fPk k))))), (qDa, .inl (cDa, 64, .inl (fun k => iI (fDa k))))] := hD
    have hK : va_K D zcl [(cT, .byte), (cPk, .long), (cDa, .int), (cSz, .long), (cCo, .int), (cWr, .byte), (cT, .byte), (cPk, .long), (cDa, .int)] s := hK
    obtain ⟨he_14, hp13⟩ := hp13
    subst he_14
    have hP := hP.sub (ws' := [(qm, .inr (8, [.ref qT, .int (iI len), .int (iI op), .int (iI fp), .int (iI bu), .int (iI ra), .int (iI en), .ref qMe, .ref qPk, .ref qSz, .ref qSu, .ref qDa, .ref qLo, .ref qLe, .ref qNa, .ref qNs, .ref qSt, .ref qSa, .ref qCo, .ref qWr, .int (iI to), .int (iI nw), .int (iI b_9), .int (iI r_10), .ref qLn, .ref qSm, .ref qCd, .ref qSc, .int (iI sy), .int (iI di), .int (iI th)])), (qT, .inl (cT, 20000, .inl fT)), (qPk, .inl (cPk, 64, .inr (.inl (fun k => lI (fPk k))))), (qDa, .inl (cDa, 64, .inl (fun k => iI (fDa k)))), (qSz, .inl (cSz, 64, .inr (.inl fSz))), (qCo, .inl (cCo, 64, .inl (fun k => iI (fCo k)))), (qWr, .inl (cWr, 40000, .inl fWr))]) [3, 4, 5, 6, 0, 1, 2] rfl
    have hD := hD.sub (ws' := [(qm, .inr (8, [.ref qT, .int (iI len), .int (iI op), .int (iI fp), .int (iI bu), .int (iI ra), .int (iI en), .ref qMe, .ref qPk, .ref qSz, .ref qSu, .ref qDa, .ref qLo, .ref qLe, .ref qNa, .ref qNs, .ref qSt, .ref qSa, .ref qCo, .ref qWr, .int (iI to), .int (iI nw), .int (iI b_9), .int (iI r_10), .ref qLn, .ref qSm, .ref qCd, .ref qSc, .int (iI sy), .int (iI di), .int (iI th)])), (qT, .inl (cT, 20000, .inl fT)), (qPk, .inl (cPk, 64, .inr (.inl (fun k => lI (fPk k))))), (qDa, .inl (cDa, 64, .inl (fun k => iI (fDa k)))), (qSz, .inl (cSz, 64, .inr (.inl fSz))), (qCo, .inl (cCo, 64, .inl (fun k => iI (fCo k)))), (qWr, .inl (cWr, 40000, .inl fWr))]) [3, 4, 5, 6, 0, 1, 2] (by decide) rfl
    have hK := hK.sub (tys' := [(cT, .byte), (cPk, .long), (cDa, .int), (cSz, .long), (cCo, .int), (cWr, .byte)]) [0, 1, 2, 3, 4, 5] rfl
    have hpb := zBk_mk (p0 := 8 * fDa nw.toNat + 8 * x_1) hr0 hp7.1 hp13.1 (fun h9 => by omega)
    refine lv_istore_n (lv' := [(2, .int (iI x_11)), (1, .int (iI x_5)), (0, .ref qm)]) hx hb d_M_plainBlock_30 rfl hl (by decide) rfl (fun ls hl => ?_)
    have jn_15 : ∀ (r4 : Int) (H : Heap) (locs : List Loc) (ls : Array Slot), (0 ≤ r4 ∧ r4 ≤ 31) → (r4 = 0 → 8 * fDa nw.toNat + b_9 = (8 * fDa nw.toNat + 8 * x_1) + 32) → (zBk fT (8 * fDa nw.toNat + 8 * x_1) (8 * (((fDa nw.toNat + fPk nw.toNat).toNat : Nat) : Int)) x_5 r4) → va_P D zcl [(qm, .inr (8, [.ref qT, .int (iI len), .int (iI op), .int (iI fp), .int (iI bu), .int (iI ra), .int (iI en), .ref qMe, .ref qPk, .ref qSz, .ref qSu, .ref qDa, .ref qLo, .ref qLe, .ref qNa, .ref qNs, .ref qSt, .ref qSa, .ref qCo, .ref qWr, .int (iI to), .int (iI nw), .int (iI b_9), .int (iI r4), .ref qLn, .ref qSm, .ref qCd, .ref qSc, .int (iI sy), .int (iI di), .int (iI th)])), (qT, .inl (cT, 20000, .inl fT)), (qPk, .inl (cPk, 64, .inr (.inl (fun k => lI (fPk k))))), (qDa, .inl (cDa, 64, .inl (fun k => iI (fDa k)))), (qSz, .inl (cSz, 64, .inr (.inl fSz))), (qCo, .inl (cCo, 64, .inl (fun k => iI (fCo k)))), (qWr, .inl (cWr, 40000, .inl fWr))] H → va_D A [(qm, .inr (8, [.ref qT, .int (iI len), .int (iI op), .int (iI fp), .int (iI bu), .int (iI ra), .int (iI en), .ref qMe, .ref qPk, .ref qSz, .ref qSu, .ref qDa, .ref qLo, .ref qLe, .ref qNa, .ref qNs, .ref qSt, .ref qSa, .ref qCo, .ref qWr, .int (iI to), .int (iI nw), .int (iI b_9), .int (iI r4), .ref qLn, .ref qSm, .ref qCd, .ref qSc, .int (iI sy), .int (iI di), .int (iI th)])), (qT, .inl (cT, 20000, .inl fT)), (qPk, .inl (cPk, 64, .inr (.inl (fun k => lI (fPk k))))), (qDa, .inl (cDa, 64, .inl (fun k => iI (fDa k)))), (qSz, .inl (cSz, 64, .inr (.inl fSz))), (qCo, .inl (cCo, 64, .inl (fun k => iI (fCo k)))), (qWr, .inl (cWr, 40000, .inl fWr))] → va_S A s.heap H locs → lv_has ls 5 [(2, .int (iI x_11)), (1, .int (iI x_5)), (0, .ref qm)] → W p l e { frames := 2, cells := 0, slots := 0, locals := 45 } s m [.ref qm].toArray below meth c H locs 0 0 (MQ below ((fun A => va_Qv (fun (u9 : Int × Int × Int × (Nat → Int) × (Nat → Int32)) => match u9 with | (b1, to1, r1, fc1, fw1) => (∀ k : Nat, k ≠ nw.toNat → fc1 k = fCo k) ∧ (zRz (zstored fT (fDa nw.toNat + fPk nw.toNat).toNat bu.toNat ra.toNat (fPk nw.toNat).toNat (fSz nw.toNat) (8 * fDa nw.toNat + bt).toNat (zOo to (fCo nw.toNat) cs fWr)) r1 (8 * fDa nw.toNat + b1) to1 (fc1 nw.toNat) cs fw1) ∧ (-2147483648 ≤ r1 ∧ r1 ≤ 2147483647) ∧ to ≤ to1 ∧ to1 ≤ 40000 ∧ fc1 nw.toNat - fCo nw.toNat = to1 - to ∧ bt ≤ b1 ∧ b1 ≤ 8 * fPk nw.toNat ∧ 0 ≤ r1 ∧ r1 ≤ 100) (fun u9 t => zB D ((fun (u9 : Int × Int × Int × (Nat → Int) × (Nat → Int32)) => match u9 with | (b1, to1, r1, fc1, fw1) => [(qm, .inr (8, [.ref qT, .int (iI len), .int (iI op), .int (iI fp), .int (iI bu), .int (iI ra), .int (iI en), .ref qMe, .ref qPk, .ref qSz, .ref qSu, .ref qDa, .ref qLo, .ref qLe, .ref qNa, .ref qNs, .ref qSt, .ref qSa, .ref qCo, .ref qWr, .int (iI to1), .int (iI nw), .int (iI b1), .int (iI r1), .ref qLn, .ref qSm, .ref qCd, .ref qSc, .int (iI sy), .int (iI di), .int (iI th)])), (qT, .inl (cT, 20000, .inl fT)), (qPk, .inl (cPk, 64, .inr (.inl (fun k => lI (fPk k))))), (qDa, .inl (cDa, 64, .inl (fun k => iI (fDa k)))), (qSz, .inl (cSz, 64, .inr (.inl fSz))), (qCo, .inl (cCo, 64, .inl (fun k => iI (fc1 k)))), (qWr, .inl (cWr, 40000, .inl fw1))]) u9) ((fun (u9 : Int × Int × Int × (Nat → Int) × (Nat → Int32)) => match u9 with | (b1, to1, r1, fc1, fw1) => [(cT, .byte), (cPk, .long), (cDa, .int), (cSz, .long), (cCo, .int), (cWr, .byte)]) u9) A t) A) A) [.ref qm].toArray s 0 0 A) (F0 m 53 ls []) := by
      intro r4 H locs ls hr4 hbz hpz hP hD hS hl
      refine lv_iconst (v := iI 0) hx hb d_M_plainBlock_53 (by decide) ?_
      refine lv_istore_n (lv' := [(3, .int (iI 0)), (2, .int (iI x_11)), (1, .int (iI x_5)), (0, .ref qm)]) hx hb d_M_plainBlock_54 rfl hl (by decide) rfl (fun ls hl => ?_)
      have lp55 : ∀ (j : Nat) (k : Int) (t2 : Int) (b2 : Int) (r2 : Int) (fc2 : Nat → Int) (fw2 : Nat → Int32) (H : Heap) (locs : List Loc) (ls : Array Slot), (0 ≤ k ∧ k ≤ x_5) → (bt ≤ b2 ∧ b2 ≤ 8 * fPk nw.toNat) → (0 ≤ r2 ∧ r2 ≤ 100) → (∀ k : Nat, k ≠ nw.toNat → fc2 k = fCo k) → (-2147483648 ≤ r2 ∧ r2 ≤ 2147483647) → (to ≤ t2 ∧ t2 ≤ 40000 ∧ fc2 nw.toNat - fCo nw.toNat = t2 - to) → (zLq fT (fDa nw.toNat + fPk nw.toNat).toNat bu ra (fPk nw.toNat) (fSz nw.toNat) x_5 k ((8 * fDa nw.toNat + 8 * x_1) + 32) to (fCo nw.toNat) fWr t2 (fc2 nw.toNat) cs r2 r4 fw2) → (r2 = 0 → 8 * fDa nw.toNat + b2 = (8 * fDa nw.toNat + 8 * x_1) + 32 + 8 * k) → (x_5 - k < (j : Int)) → va_P D zcl [(qm, .inr (8, [.ref qT, .int (iI len), .int (iI op), .int (iI fp), .int (iI bu), .int (iI ra), .int (iI en), .ref qMe, .ref qPk, .ref qSz, .ref qSu, .ref qDa, .ref qLo, .ref qLe, .ref qNa, .ref qNs, .ref qSt, .ref qSa, .ref qCo, .ref qWr, .int (iI t2), .int (iI nw), .int (iI b2), .int (iI r2), .ref qLn, .ref qSm, .ref qCd, .ref qSc, .int (iI sy), .int (iI di), .int (iI th)])), (qT, .inl (cT, 20000, .inl fT)), (qPk, .inl (cPk, 64, .inr (.inl (fun k => lI (fPk k))))), (qDa, .inl (cDa, 64, .inl (fun k => iI (fDa k)))), (qSz, .inl (cSz, 64, .inr (.inl fSz))), (qCo, .inl (cCo, 64, .inl (fun k => iI (fc2 k)))), (qWr, .inl (cWr, 40000, .inl fw2))] H → va_D A [(qm, .inr (8, [.ref qT, .int (iI len), .int (iI op), .int (iI fp), .int (iI bu), .int (iI ra), .int (iI en), .ref qMe, .ref qPk, .ref qSz, .ref qSu, .ref qDa, .ref qLo, .ref qLe, .ref qNa, .ref qNs, .ref qSt, .ref qSa, .ref qCo, .ref qWr, .int (iI t2), .int (iI nw), .int (iI b2), .int (iI r2), .ref qLn, .ref qSm, .ref qCd, .ref qSc, .int (iI sy), .int (iI di), .int (iI th)])), (qT, .inl (cT, 20000, .inl fT)), (qPk, .inl (cPk, 64, .inr (.inl (fun k => lI (fPk k))))), (qDa, .inl (cDa, 64, .inl (fun k => iI (fDa k)))), (qSz, .inl (cSz, 64, .inr (.inl fSz))), (qCo, .inl (cCo, 64, .inl (fun k => iI (fc2 k)))), (qWr, .inl (cWr, 40000, .inl fw2))] → va_S A s.heap H locs → lv_has ls 5 [(3, .int (iI k)), (2, .int (iI x_11)), (1, .int (iI x_5)), (0, .ref qm)] → W p l e { frames := 2, cells := 0, slots := 0, locals := 45 } s m [.ref qm].toArray below meth c H locs 0 0 (MQ below ((fun A => va_Qv (fun (u9 : Int × Int × Int × (Nat → Int) × (Nat → Int32)) => match u9 with | (b1, to1, r1, fc1, fw1) => (∀ k : Nat, k ≠ nw.toNat → fc1 k = fCo k) ∧ (zRz (zstored fT (fDa nw.toNat + fPk nw.toNat).toNat bu.toNat ra.toNat (fPk nw.toNat).toNat (fSz nw.toNat) (8 * fDa nw.toNat + bt).toNat (zOo to (fCo nw.toNat) cs fWr)) r1 (8 * fDa nw.toNat + b1) to1 (fc1 nw.toNat) cs fw1) ∧ (-2147483648 ≤ r1 ∧ r1 ≤ 2147483647) ∧ to ≤ to1 ∧ to1 ≤ 40000 ∧ fc1 nw.toNat - fCo nw.toNat = to1 - to ∧ bt ≤ b1 ∧ b1 ≤ 8 * fPk nw.toNat ∧ 0 ≤ r1 ∧ r1 ≤ 100) (fun u9 t => zB D ((fun (u9 : Int × Int × Int × (Nat → Int) × (Nat → Int32)) => match u9 with | (b1, to1, r1, fc1, fw1) => [(qm, .inr (8, [.ref qT, .int (iI len), .int (iI op), .int (iI fp), .int (iI bu), .int (iI ra), .int (iI en), .ref qMe, .ref qPk, .ref qSz, .ref qSu, .ref qDa, .ref qLo, .ref qLe, .ref qNa, .ref qNs, .ref qSt, .ref qSa, .ref qCo, .ref qWr, .int (iI to1), .int (iI nw), .int (iI b1), .int (iI r1), .ref qLn, .ref qSm, .ref qCd, .ref qSc, .int (iI sy), .int (iI di), .int (iI th)])), (qT, .inl (cT, 20000, .inl fT)), (qPk, .inl (cPk, 64, .inr (.inl (fun k => lI (fPk k))))), (qDa, .inl (cDa, 64, .inl (fun k => iI (fDa k)))), (qSz, .inl (cSz, 64, .inr (.inl fSz))), (qCo, .inl (cCo, 64, .inl (fun k => iI (fc1 k)))), (qWr, .inl (cWr, 40000, .inl fw1))]) u9) ((fun (u9 : Int × Int × Int × (Nat → Int) × (Nat → Int32)) => match u9 with | (b1, to1, r1, fc1, fw1) => [(cT, .byte), (cPk, .long), (cDa, .int), (cSz, .long), (cCo, .int), (cWr, .byte)]) u9) A t) A) A) [.ref qm].toArray s 0 0 A) (F0 m 55 ls []) := by
        intro j
        induction j with
        | zero => intro k t2 b2 r2 fc2 fw2 H locs ls hk1 hb2 hr9 hw1 hw2 hw3 hlq hbk hj55 hP hD hS hl; exfalso; omega
        | succ j ih55 =>
          intro k t2 b2 r2 fc2 fw2 H locs ls hk1 hb2 hr9 hw1 hw2 hw3 hlq hbk hj55 hP hD hS hl
          refine lv_iload_n hx hb d_M_plainBlock_55 rfl (lv_at hl 0 rfl) ?_
          refine lv_iload_n hx hb d_M_plainBlock_56 rfl (lv_at hl 2 rfl) ?_
          refine zv_icmp_ge (tgt := 95) hx hb d_M_plainBlock_57 (by decide) (by omega) (by omega) (fun hc_16 => ?_) (fun hc_16 => ?_)
          · skip
            exact zretv hx hb hr hlk hK hP hD hS (b2, t2, r2, fc2, fw2) [0, 1, 2, 3, 4, 5, 6] [0, 1, 2, 3, 4, 5] rfl (by decide) rfl (⟨hw1, zSt_end (by omega) hpz hlq (fun h9 => by omega), by omega⟩) (Nat.le_of_ble_eq_true rfl) (Nat.le_of_ble_eq_true rfl) d_M_plainBlock_95
          · skip
            refine lv_aload_n hx hb d_M_plainBlock_60 rfl (lv_at hl 3 rfl) ?_
            refine va_get (ci := 8) (C := "ZipGuardModel") (T := F_M) (N := 31) hx hb ht zi_M hown hK hP 0 rfl rfl 23 (by decide) (ht _ zm_775) (fun _ h9 => h9) rfl d_M_plainBlock_61 ?_
            refine zv_if_ne (tgt := 95) hx hb d_M_plainBlock_64 (by decide) (by omega) (fun hc_17 => ?_) (fun hc_17 => ?_)
            · skip
              exact zretv hx hb hr hlk hK hP hD hS (b2, t2, r2, fc2, fw2) [0, 1, 2, 3, 4, 5, 6] [0, 1, 2, 3, 4, 5] rfl (by decide) rfl (⟨hw1, zSt_end (by omega) hpz hlq (fun h9 => by omega), by omega⟩) (Nat.le_of_ble_eq_true rfl) (Nat.le_of_ble_eq_true rfl) d_M_plainBlock_95
            · skip
              have hcp9 := zLq_cp hlq (by omega)
              refine lv_aload_n hx hb d_M_plainBlock_67 rfl (lv_at hl 3 rfl) ?_
              refine lv_bipush (v := iI 8) hx hb d_M_plainBlock_68 (by decide) ?_
              refine zji (wr := [(qSz, .inl (cSz, 64, .inr (.inl fSz))), (qCo, .inl (cCo, 64, .inl (fun k => iI (fc2 k)))), (qWr, .inl (cWr, 40000, .inl fw2))]) (va_runV (As := [.int (iI 8)]) (rest := []) ⟨hx, hb, hml, hown, ht⟩ (m_bits l D _ qm qT len op fp bu ra en qMe qPk qSz qSu qDa qLo qLe qNa qNs qSt qSa qCo qWr t2 nw b2 r2 qLn qSm qCd qSc sy di th cT fT cPk fPk cDa fDa 8 (by omega) (by omega) (by omega) (by omega) (by omega) (by omega)) (cwV 1 ht (zt_goodV zm_962 zm_963 zm_51 zm_79 zm_964) rfl rfl rfl (by decide +kernel) ⟨Nat.le_of_ble_eq_true rfl, Nat.le_of_ble_eq_true rfl⟩) (zpreV zBlind_t hK hP hD [0, 1, 2, 3] [0, 1, 2] rfl (by decide) rfl (fun _ _ _ => trivial) (va_recv (q := ("ZipGuardModel", F_M, 31)) hK hP rfl (q0 := 0) (ci := 8) rfl)) rfl rfl hl.1 rfl (lv_room (Nat.le_of_ble_eq_true rfl)) d_M_plainBlock_70 ⟨Nat.le_of_ble_eq_true rfl, Nat.le_of_ble_eq_true rfl⟩) hK hP hD hS hA [0, 1, 2, 3] [4, 5, 6] rfl rfl (by decide) (by decide) (fun r21 u9 H locs hp22 hP hD hK hS => ?_)
              obtain ⟨b_18, r_19, x_20⟩ := u9
              dsimp only at hp22 hP hD hK
              have hP : va_P D zcl [(qSz, .inl (cSz, 64, .inr (.inl fSz))), (qCo, .inl (cCo, 64, .inl (fun k => iI (fc2 k)))), (qWr, .inl (cWr, 40000, .inl fw2)), (qm, .inr (8, [.ref qT, .int (iI len), .int (iI op), .int (iI fp), .int (iI bu), .int (iI ra), .int (iI en), .ref qMe, .ref qPk, .ref qSz, .ref qSu, .ref qDa, .ref qLo, .ref qLe, .ref qNa, .ref qNs, .ref qSt, .ref qSa, .ref qCo, .ref qWr, .int (iI t2), .int (iI nw), .int (iI b_18), .int (iI r_19), .ref qLn, .ref qSm, .ref qCd, .ref qSc, .int (iI sy), .int (iI di), .int (iI th)])), (qT, .inl (cT, 20000, .inl fT)), (qPk, .inl (cPk, 64, .inr (.inl (fun k => lI (fPk k))))), (qDa, .inl (cDa, 64, .inl (fun k => iI (fDa k))))] H := hP
              have hD : va_D A [(qSz, .inl (cSz, 64, .inr (.inl fSz))), (qCo, .inl (cCo, 64, .inl (fun k => iI (fc2 k)))), (qWr, .inl (cWr, 40000, .inl fw2)), (qm, .inr (8, [.ref qT, .int (iI len), .int (iI op), .int (iI fp), .int (iI bu), .int (iI ra), .int (iI en), .ref qMe, .ref qPk, .ref qSz, .ref qSu, .ref qDa, .ref qLo, .ref qLe, .ref qNa, .ref qNs, .ref qSt, .ref qSa, .ref qCo, .ref qWr, .int (iI t2), .int (iI nw), .int (iI b_18), .int (iI r_19), .ref qLn, .ref qSm, .ref qCd, .ref qSc, .int (iI sy), .int (iI di), .int (iI th)])), (qT, .inl (cT, 20000, .inl fT)), (qPk, .inl (cPk, 64, .inr (.inl (fun k => lI (fPk k))))), (qDa, .inl (cDa, 64, .inl (fun k => iI (fDa k))))] := hD
              have hK : va_K D zcl [(cT, .byte), (cPk, .long), (cDa, .int), (cSz, .long), (cCo, .int), (cWr, .byte), (cT, .byte), (cPk, .long), (cDa, .int)] s := hK
              obtain ⟨he_23, hp22⟩ := hp22
              subst he_23
              have hP := hP.sub (ws' := [(qm, .inr (8, [.ref qT, .int (iI len), .int (iI op), .int (iI fp), .int (iI bu), .int (iI ra), .int (iI en), .ref qMe, .ref qPk, .ref qSz, .ref qSu, .ref qDa, .ref qLo, .ref qLe, .ref qNa, .ref qNs, .ref qSt, .ref qSa, .ref qCo, .ref qWr, .int (iI t2), .int (iI nw), .int (iI b_18), .int (iI r_19), .ref qLn, .ref qSm, .ref qCd, .ref qSc, .int (iI sy), .int (iI di), .int (iI th)])), (qT, .inl (cT, 20000, .inl fT)), (qPk, .inl (cPk, 64, .inr (.inl (fun k => lI (fPk k))))), (qDa, .inl (cDa, 64, .inl (fun k => iI (fDa k)))), (qSz, .inl (cSz, 64, .inr (.inl fSz))), (qCo, .inl (cCo, 64, .inl (fun k => iI (fc2 k)))), (qWr, .inl (cWr, 40000, .inl fw2))]) [3, 4, 5, 6, 0, 1, 2] rfl
              have hD := hD.sub (ws' := [(qm, .inr (8, [.ref qT, .int (iI len), .int (iI op), .int (iI fp), .int (iI bu), .int (iI ra), .int (iI en), .ref qMe, .ref qPk, .ref qSz, .ref qSu, .ref qDa, .ref qLo, .ref qLe, .ref qNa, .ref qNs, .ref qSt, .ref qSa, .ref qCo, .ref qWr, .int (iI t2), .int (iI nw), .int (iI b_18), .int (iI r_19), .ref qLn, .ref qSm, .ref qCd, .ref qSc, .int (iI sy), .int (iI di), .int (iI th)])), (qT, .inl (cT, 20000, .inl fT)), (qPk, .inl (cPk, 64, .inr (.inl (fun k => lI (fPk k))))), (qDa, .inl (cDa, 64, .inl (fun k => iI (fDa k)))), (qSz, .inl (cSz, 64, .inr (.inl fSz))), (qCo, .inl (cCo, 64, .inl (fun k => iI (fc2 k)))), (qWr, .inl (cWr, 40000, .inl fw2))]) [3, 4, 5, 6, 0, 1, 2] (by decide) rfl
              have hK := hK.sub (tys' := [(cT, .byte), (cPk, .long), (cDa, .int), (cSz, .long), (cCo, .int), (cWr, .byte)]) [0, 1, 2, 3, 4, 5] rfl
              refine lv_istore (lv' := [(4, .int (iI x_20)), (3, .int (iI k)), (2, .int (iI x_11)), (1, .int (iI x_5)), (0, .ref qm)]) hx hb d_M_plainBlock_73 hl (by decide) rfl (fun ls hl => ?_)
              have jn_24 : ∀ (t5 : Int) (r5 : Int) (fc5 : Nat → Int) (fw5 : Nat → Int32) (H : Heap) (locs : List Loc) (ls : Array Slot), (∀ k : Nat, k ≠ nw.toNat → fc5 k = fCo k) → (-2147483648 ≤ r5 ∧ r5 ≤ 2147483647) → (to ≤ t5 ∧ t5 ≤ 40000 ∧ fc5 nw.toNat - fCo nw.toNat = t5 - to) → (0 ≤ r5 ∧ r5 ≤ 100) → (zCp fT (fDa nw.toNat + fPk nw.toNat).toNat bu ra (fPk nw.toNat) (fSz nw.toNat) x_5 (k + 1) ((8 * fDa nw.toNat + 8 * x_1) + 32) (zOo to (fCo nw.toNat) cs fWr) t5 (fc5 nw.toNat) cs r5 fw5) → (r5 = 0 → 8 * fDa nw.toNat + b_18 = (8 * fDa nw.toNat + 8 * x_1) + 32 + 8 * (k + 1)) → va_P D zcl [(qm, .inr (8, [.ref qT, .int (iI len), .int (iI op), .int (iI fp), .int (iI bu), .int (iI ra), .int (iI en), .ref qMe, .ref qPk, .ref qSz, .ref qSu, .ref qDa, .ref qLo, .ref qLe, .ref qNa, .ref qNs, .ref qSt, .ref qSa, .ref qCo, .ref qWr, .int (iI t5), .int (iI nw), .int (iI b_18), .int (iI r5), .ref qLn, .ref qSm, .ref qCd, .ref qSc, .int (iI sy), .int (iI di), .int (iI th)])), (qT, .inl (cT, 20000, .inl fT)), (qPk, .inl (cPk, 64, .inr (.inl (fun k => lI (fPk k))))), (qDa, .inl (cDa, 64, .inl (fun k => iI (fDa k)))), (qSz, .inl (cSz, 64, .inr (.inl fSz))), (qCo, .inl (cCo, 64, .inl (fun k => iI (fc5 k)))), (qWr, .inl (cWr, 40000, .inl fw5))] H → va_D A [(qm, .inr (8, [.ref qT, .int (iI len), .int (iI op), .int (iI fp), .int (iI bu), .int (iI ra), .int (iI en), .ref qMe, .ref qPk, .ref qSz, .ref qSu, .ref qDa, .ref qLo, .ref qLe, .ref qNa, .ref qNs, .ref qSt, .ref qSa, .ref qCo, .ref qWr, .int (iI t5), .int (iI nw), .int (iI b_18), .int (iI r5), .ref qLn, .ref qSm, .ref qCd, .ref qSc, .int (iI sy), .int (iI di), .int (iI th)])), (qT, .inl (cT, 20000, .inl fT)), (qPk, .inl (cPk, 64, .inr (.inl (fun k => lI (fPk k))))), (qDa, .inl (cDa, 64, .inl (fun k => iI (fDa k)))), (qSz, .inl (cSz, 64, .inr (.inl fSz))), (qCo, .inl (cCo, 64, .inl (fun k => iI (fc5 k)))), (qWr, .inl (cWr, 40000, .inl fw5))] → va_S A s.heap H locs → lv_has ls 5 [(4, .int (iI x_20)), (3, .int (iI k)), (2, .int (iI x_11)), (1, .int (iI x_5)), (0, .ref qm)] → W p l e { frames := 2, cells := 0, slots := 0, locals := 45 } s m [.ref qm].toArray below meth c H locs 0 0 (MQ below ((fun A => va_Qv (fun (u9 : Int × Int × Int × (Nat → Int) × (Nat → Int32)) => match u9 with | (b1, to1, r1, fc1, fw1) => (∀ k : Nat, k ≠ nw.toNat → fc1 k = fCo k) ∧ (zRz (zstored fT (fDa nw.toNat + fPk nw.toNat).toNat bu.toNat ra.toNat (fPk nw.toNat).toNat (fSz nw.toNat) (8 * fDa nw.toNat + bt).toNat (zOo to (fCo nw.toNat) cs fWr)) r1 (8 * fDa nw.toNat + b1) to1 (fc1 nw.toNat) cs fw1) ∧ (-2147483648 ≤ r1 ∧ r1 ≤ 2147483647) ∧ to ≤ to1 ∧ to1 ≤ 40000 ∧ fc1 nw.toNat - fCo nw.toNat = to1 - to ∧ bt ≤ b1 ∧ b1 ≤ 8 * fPk nw.toNat ∧ 0 ≤ r1 ∧ r1 ≤ 100) (fun u9 t => zB D ((fun (u9 : Int × Int × Int × (Nat → Int) × (Nat → Int32)) => match u9 with | (b1, to1, r1, fc1, fw1) => [(qm, .inr (8, [.ref qT, .int (iI len), .int (iI op), .int (iI fp), .int (iI bu), .int (iI ra), .int (iI en), .ref qMe, .ref qPk, .ref qSz, .ref qSu, .ref qDa, .ref qLo, .ref qLe, .ref qNa, .ref qNs, .ref qSt, .ref qSa, .ref qCo, .ref qWr, .int (iI to1), .int (iI nw), .int (iI b1), .int (iI r1), .ref qLn, .ref qSm, .ref qCd, .ref qSc, .int (iI sy), .int (iI di), .int (iI th)])), (qT, .inl (cT, 20000, .inl fT)), (qPk, .inl (cPk, 64, .inr (.inl (fun k => lI (fPk k))))), (qDa, .inl (cDa, 64, .inl (fun k => iI (fDa k)))), (qSz, .inl (cSz, 64, .inr (.inl fSz))), (qCo, .inl (cCo, 64, .inl (fun k => iI (fc1 k)))), (qWr, .inl (cWr, 40000, .inl fw1))]) u9) ((fun (u9 : Int × Int × Int × (Nat → Int) × (Nat → Int32)) => match u9 with | (b1, to1, r1, fc1, fw1) => [(cT, .byte), (cPk, .long), (cDa, .int), (cSz, .long), (cCo, .int), (cWr, .byte)]) u9) A t) A) A) [.ref qm].toArray s 0 0 A) (F0 m 89 ls []) := by
                intro t5 r5 fc5 fw5 H locs ls hw1x hw2x hw3x hr95 hcp5 hbk5 hP hD hS hl
                refine lv_iinc (k := 1) (v := iI (k + 1)) (lv' := [(3, .int (iI (k + 1))), (4, .int (iI x_20)), (2, .int (iI x_11)), (1, .int (iI x_5)), (0, .ref qm)]) hx hb d_M_plainBlock_89 hl rfl (zinc (by omega)) (by decide) rfl (fun ls hl => ?_)
                refine lv_goto (tgt := 55) hx hb d_M_plainBlock_92 (by decide) ?_
                exact ih55 (k + 1) t5 b_18 r5 fc5 fw5 _ _ _ (by omega) (by omega) (by omega) hw1x (by omega) (by omega) (Or.inl ⟨hcp9.1, hcp5⟩) (by omega) (by omega) hP hD hS (lv_sub hl [0, 2, 3, 4] rfl)
              refine lv_aload_n hx hb d_M_plainBlock_75 rfl (lv_at hl 4 rfl) ?_
              refine va_get (ci := 8) (C := "ZipGuardModel") (T := F_M) (N := 31) hx hb ht zi_M hown hK hP 0 rfl rfl 23 (by decide) (ht _ zm_775) (fun _ h9 => h9) rfl d_M_plainBlock_76 ?_
              refine zv_if_ne (tgt := 89) hx hb d_M_plainBlock_79 (by decide) (by omega) (fun hc_25 => ?_) (fun hc_25 => ?_)
              · skip
                exact jn_24 t2 r_19 fc2 fw2 _ _ _ hw1 (by omega) (by omega) (by have h9 := hp22.1; unfold zBr at h9; omega) (zCp_none hcp9.2 (by omega) (by omega) (by have h9 := hp22.1; unfold zBr at h9; omega) (by have h9 := hp22.1; unfold zBr at h9; omega)) (by omega) hP hD hS hl
              · skip
                refine lv_aload_n hx hb d_M_plainBlock_82 rfl (lv_at hl 4 rfl) ?_
                refine lv_iload hx hb d_M_plainBlock_83 (lv_at hl 0 rfl) ?_
                refine zji (wr := [(qT, .inl (cT, 20000, .inl fT)), (qDa, .inl (cDa, 64, .inl (fun k => iI (fDa k))))]) (va_runV (As := [.int (iI x_20)]) (rest := []) ⟨hx, hb, hml, hown, ht⟩ (m_write l D _ qm qT len op fp bu ra en qMe qPk qSz qSu qDa qLo qLe qNa qNs qSt qSa qCo qWr t2 nw b_18 r_19 qLn qSm qCd qSc sy di th cPk fPk cSz fSz cCo fc2 cWr fw2 x_20 (by omega) (by omega) (by omega) (by omega) (by omega)) (cwV 1 ht (zt_goodV zm_972 zm_973 zm_54 zm_79 zm_974) rfl rfl rfl (by decide +kernel) ⟨Nat.le_of_ble_eq_true rfl, Nat.le_of_ble_eq_true rfl⟩) (zpreV zBlind_t hK hP hD [0, 2, 4, 5, 6] [1, 3, 4, 5] rfl (by decide) rfl (fun _ _ _ => trivial) (va_recv (q := ("ZipGuardModel", F_M, 31)) hK hP rfl (q0 := 0) (ci := 8) rfl)) rfl rfl hl.1 rfl (lv_room (Nat.le_of_ble_eq_true rfl)) d_M_plainBlock_85 ⟨Nat.le_of_ble_eq_true rfl, Nat.le_of_ble_eq_true rfl⟩) hK hP hD hS hA [0, 2, 4, 5, 6] [1, 3] rfl rfl (by decide) (by decide) (fun r31 u9 H locs hp32 hP hD hK hS => ?_)
                obtain ⟨t_26, r_27, x_28, f_29, f_30⟩ := u9
                dsimp only at hp32 hP hD hK
                have hP : va_P D zcl [(qT, .inl (cT, 20000, .inl fT)), (qDa, .inl (cDa, 64, .inl (fun k => iI (fDa k)))), (qm, .inr (8, [.ref qT, .int (iI len), .int (iI op), .int (iI fp), .int (iI bu), .int (iI ra), .int (iI en), .ref qMe, .ref qPk, .ref qSz, .ref qSu, .ref qDa, .ref qLo, .ref qLe, .ref qNa, .ref qNs, .ref qSt, .ref qSa, .ref qCo, .ref qWr, .int (iI t_26), .int (iI nw), .int (iI b_18), .int (iI r_27), .ref qLn, .ref qSm, .ref qCd, .ref qSc, .int (iI sy), .int (iI di), .int (iI th)])), (qPk, .inl (cPk, 64, .inr (.inl (fun k => lI (fPk k))))), (qSz, .inl (cSz, 64, .inr (.inl fSz))), (qCo, .inl (cCo, 64, .inl (fun k => iI (f_29 k)))), (qWr, .inl (cWr, 40000, .inl f_30))] H := hP
                have hD : va_D A [(qT, .inl (cT, 20000, .inl fT)), (qDa, .inl (cDa, 64, .inl (fun k => iI (fDa k)))), (qm, .inr (8, [.ref qT, .int (iI len), .int (iI op), .int (iI fp), .int (iI bu), .int (iI ra), .int (iI en), .ref qMe, .ref qPk, .ref qSz, .ref qSu, .ref qDa, .ref qLo, .ref qLe, .ref qNa, .ref qNs, .ref qSt, .ref qSa, .ref qCo, .ref qWr, .int (iI t_26), .int (iI nw), .int (iI b_18), .int (iI r_27), .ref qLn, .ref qSm, .ref qCd, .ref qSc, .int (iI sy), .int (iI di), .int (iI th)])), (qPk, .inl (cPk, 64, .inr (.inl (fun k => lI (fPk k))))), (qSz, .inl (cSz, 64, .inr (.inl fSz))), (qCo, .inl (cCo, 64, .inl (fun k => iI (f_29 k)))), (qWr, .inl (cWr, 40000, .inl f_30))] := hD
                have hK : va_K D zcl [(cT, .byte), (cPk, .long), (cDa, .int), (cSz, .long), (cCo, .int), (cWr, .byte), (cPk, .long), (cSz, .long), (cCo, .int), (cWr, .byte)] s := hK
                obtain ⟨he_33, hp32⟩ := hp32
                subst he_33
                have hP := hP.sub (ws' := [(qm, .inr (8, [.ref qT, .int (iI len), .int (iI op), .int (iI fp), .int (iI bu), .int (iI ra), .int (iI en), .ref qMe, .ref qPk, .ref qSz, .ref qSu, .ref qDa, .ref qLo, .ref qLe, .ref qNa, .ref qNs, .ref qSt, .ref qSa, .ref qCo, .ref qWr, .int (iI t_26), .int (iI nw), .int (iI b_18), .int (iI r_27), .ref qLn, .ref qSm, .ref qCd, .ref qSc, .int (iI sy), .int (iI di), .int (iI th)])), (qT, .inl (cT, 20000, .inl fT)), (qPk, .inl (cPk, 64, .inr (.inl (fun k => lI (fPk k))))), (qDa, .inl (cDa, 64, .inl (fun k => iI (fDa k)))), (qSz, .inl (cSz, 64, .inr (.inl fSz))), (qCo, .inl (cCo, 64, .inl (fun k => iI (f_29 k)))), (qWr, .inl (cWr, 40000, .inl f_30))]) [2, 0, 3, 1, 4, 5, 6] rfl
                have hD := hD.sub (ws' := [(qm, .inr (8, [.ref qT, .int (iI len), .int (iI op), .int (iI fp), .int (iI bu), .int (iI ra), .int (iI en), .ref qMe, .ref qPk, .ref qSz, .ref qSu, .ref qDa, .ref qLo, .ref qLe, .ref qNa, .ref qNs, .ref qSt, .ref qSa, .ref qCo, .ref qWr, .int (iI t_26), .int (iI nw), .int (iI b_18), .int (iI r_27), .ref qLn, .ref qSm, .ref qCd, .ref qSc, .int (iI sy), .int (iI di), .int (iI th)])), (qT, .inl (cT, 20000, .inl fT)), (qPk, .inl (cPk, 64, .inr (.inl (fun k => lI (fPk k))))), (qDa, .inl (cDa, 64, .inl (fun k => iI (fDa k)))), (qSz, .inl (cSz, 64, .inr (.inl fSz))), (qCo, .inl (cCo, 64, .inl (fun k => iI (f_29 k)))), (qWr, .inl (cWr, 40000, .inl f_30))]) [2, 0, 3, 1, 4, 5, 6] (by decide) rfl
                have hK := hK.sub (tys' := [(cT, .byte), (cPk, .long), (cDa, .int), (cSz, .long), (cCo, .int), (cWr, .byte)]) [0, 1, 2, 3, 4, 5] rfl
                have ho_34 := fun k hk => (hp32.1 k hk).trans (hw1 k hk)
                refine lv_pop hx hb d_M_plainBlock_88 rfl ?_
                exact jn_24 t_26 r_27 f_29 f_30 _ _ _ ho_34 (by omega) (by omega) (by have h9 := zWi_r (zWi_q hp32.2.1 (by omega) rfl); omega) (by have h9 := hp22.1; rw [show 8 * fDa nw.toNat + b2 = (8 * fDa nw.toNat + 8 * x_1) + 32 + 8 * k by omega] at h9; exact zCp_s hcp9.2 (by omega) (by omega) (by unfold zBr at h9; omega) (by unfold zBr at h9; omega) (zWi_q hp32.2.1 (by omega) rfl) rfl (by omega) (by omega) (by omega) (by omega) (by omega)) (by omega) hP hD hS hl
      exact lp55 ((x_5 - 0 + 1 : Int)).toNat 0 to b_9 r4 fCo fWr _ _ _ (by omega) (by omega) (by omega) (fun _ _ => rfl) (by omega) (by omega) (by by_cases c9 : r4 = 0; exact Or.inl ⟨c9, zCp_0 c9⟩; exact Or.inr ⟨c9, rfl, rfl, rfl, rfl⟩) (by omega) (by omega) hP hD hS hl
    refine lv_aload_n hx hb d_M_plainBlock_31 rfl (lv_at hl 2 rfl) ?_
    refine va_get (ci := 8) (C := "ZipGuardModel") (T := F_M) (N := 31) hx hb ht zi_M hown hK hP 0 rfl rfl 23 (by decide) (ht _ zm_775) (fun _ h9 => h9) rfl d_M_plainBlock_32 ?_
    refine zv_if_ne (tgt := 53) hx hb d_M_plainBlock_35 (by decide) (by omega) (fun hc_35 => ?_) (fun hc_35 => ?_)
    · skip
      exact jn_15 r_10 _ _ _ (by omega) (by omega) (by rw [show 8 * (((fDa nw.toNat + fPk nw.toNat).toNat : Nat) : Int) = 8 * (fDa nw.toNat + fPk nw.toNat) by omega]; exact zBk_a hpb (Or.inl (by omega))) hP hD hS hl
    · skip
      refine lv_iload_n hx hb d_M_plainBlock_38 rfl (lv_at hl 1 rfl) ?_
      refine lv_iload_n hx hb d_M_plainBlock_39 rfl (lv_at hl 0 rfl) ?_
      refine zv_xorx hx hb d_M_plainBlock_40 (fun x_36 hz_37 ha_38 ha_39 => ?_)
      refine lv_ldc (v := 65535) hx hb hown (ht _ zm_971) d_M_plainBlock_41 ?_
      refine zv_lit 65535 (by decide) ?_
      refine zv_icmp_eq (tgt := 53) hx hb d_M_plainBlock_43 (by decide) (by omega) (by omega) (fun hc_40 => ?_) (fun hc_40 => ?_)
      · skip
        exact jn_15 r_10 _ _ _ (by omega) (by omega) (by rw [show 8 * (((fDa nw.toNat + fPk nw.toNat).toNat : Nat) : Int) = 8 * (fDa nw.toNat + fPk nw.toNat) by omega]; exact zBk_a hpb (Or.inr (Or.inl ⟨by omega, by omega, by omega⟩))) hP hD hS hl
      · skip
        refine lv_aload_n hx hb d_M_plainBlock_46 rfl (lv_at hl 2 rfl) ?_
        refine lv_bipush (v := iI 31) hx hb d_M_plainBlock_47 (by decide) ?_
        refine zji (wr := [(qT, .inl (cT, 20000, .inl fT)), (qPk, .inl (cPk, 64, .inr (.inl (fun k => lI (fPk k))))), (qDa, .inl (cDa, 64, .inl (fun k => iI (fDa k)))), (qSz, .inl (cSz, 64, .inr (.inl fSz))), (qCo, .inl (cCo, 64, .inl (fun k => iI (fCo k)))), (qWr, .inl (cWr, 40000, .inl fWr))]) (va_runV (As := [.int (iI 31)]) (rest := []) ⟨hx, hb, hml, hown, ht⟩ (m_refuse l D _ qm qT len op fp bu ra en qMe qPk qSz qSu qDa qLo qLe qNa qNs qSt qSa qCo qWr to nw b_9 r_10 qLn qSm qCd qSc sy di th 31 (by omega)) (cwV 1 ht (zt_goodV zm_965 zm_966 zm_52 zm_79 zm_967) rfl rfl rfl (by decide +kernel) ⟨Nat.le_of_ble_eq_true rfl, Nat.le_of_ble_eq_true rfl⟩) (zpreV zBlind_t hK hP hD [0] [] rfl (by decide) rfl (fun _ _ _ => trivial) (va_recv (q := ("ZipGuardModel", F_M, 31)) hK hP rfl (q0 := 0) (ci := 8) rfl)) rfl rfl hl.1 rfl (lv_room (Nat.le_of_ble_eq_true rfl)) d_M_plainBlock_49 ⟨Nat.le_of_ble_eq_true rfl, Nat.le_of_ble_eq_true rfl⟩) hK hP hD hS hA [0] [1, 2, 3, 4, 5, 6] rfl rfl (by decide) (by decide) (fun r42 u9 H locs hp43 hP hD hK hS => ?_)
        obtain ⟨r_41, rfl⟩ : ∃ z, z = u9 := ⟨u9, rfl⟩
        dsimp only at hp43 hP hD hK
        have hP : va_P D zcl [(qT, .inl (cT, 20000, .inl fT)), (qPk, .inl (cPk, 64, .inr (.inl (fun k => lI (fPk k))))), (qDa, .inl (cDa, 64, .inl (fun k => iI (fDa k)))), (qSz, .inl (cSz, 64, .inr (.inl fSz))), (qCo, .inl (cCo, 64, .inl (fun k => iI (fCo k)))), (qWr, .inl (cWr, 40000, .inl fWr)), (qm, .inr (8, [.ref qT, .int (iI len), .int (iI op), .int (iI fp), .int (iI bu), .int (iI ra), .int (iI en), .ref qMe, .ref qPk, .ref qSz, .ref qSu, .ref qDa, .ref qLo, .ref qLe, .ref qNa, .ref qNs, .ref qSt, .ref qSa, .ref qCo, .ref qWr, .int (iI to), .int (iI nw), .int (iI b_9), .int (iI r_41), .ref qLn, .ref qSm, .ref qCd, .ref qSc, .int (iI sy), .int (iI di), .int (iI th)]))] H := hP
        have hD : va_D A [(qT, .inl (cT, 20000, .inl fT)), (qPk, .inl (cPk, 64, .inr (.inl (fun k => lI (fPk k))))), (qDa, .inl (cDa, 64, .inl (fun k => iI (fDa k)))), (qSz, .inl (cSz, 64, .inr (.inl fSz))), (qCo, .inl (cCo, 64, .inl (fun k => iI (fCo k)))), (qWr, .inl (cWr, 40000, .inl fWr)), (qm, .inr (8, [.ref qT, .int (iI len), .int (iI op), .int (iI fp), .int (iI bu), .int (iI ra), .int (iI en), .ref qMe, .ref qPk, .ref qSz, .ref qSu, .ref qDa, .ref qLo, .ref qLe, .ref qNa, .ref qNs, .ref qSt, .ref qSa, .ref qCo, .ref qWr, .int (iI to), .int (iI nw), .int (iI b_9), .int (iI r_41), .ref qLn, .ref qSm, .ref qCd, .ref qSc, .int (iI sy), .int (iI di), .int (iI th)]))] := hD
        have hK : va_K D zcl [(cT, .byte), (cPk, .long), (cDa, .int), (cSz, .long), (cCo, .int), (cWr, .byte)] s := hK
        obtain ⟨he_44, hp43⟩ := hp43
        subst he_44
        have hP := hP.sub (ws' := [(qm, .inr (8, [.ref qT, .int (iI len), .int (iI op), .int (iI fp), .int (iI bu), .int (iI ra), .int (iI en), .ref qMe, .ref qPk, .ref qSz, .ref qSu, .ref qDa, .ref qLo, .ref qLe, .ref qNa, .ref qNs, .ref qSt, .ref qSa, .ref qCo, .ref qWr, .int (iI to), .int (iI nw), .int (iI b_9), .int (iI r_41), .ref qLn, .ref qSm, .ref qCd, .ref qSc, .int (iI sy), .int (iI di), .int (iI th)])), (qT, .inl (cT, 20000, .inl fT)), (qPk, .inl (cPk, 64, .inr (.inl (fun k => lI (fPk k))))), (qDa, .inl (cDa, 64, .inl (fun k => iI (fDa k)))), (qSz, .inl (cSz, 64, .inr (.inl fSz))), (qCo, .inl (cCo, 64, .inl (fun k => iI (fCo k)))), (qWr, .inl (cWr, 40000, .inl fWr))]) [6, 0, 1, 2, 3, 4, 5] rfl
        have hD := hD.sub (ws' := [(qm, .inr (8, [.ref qT, .int (iI len), .int (iI op), .int (iI fp), .int (iI bu), .int (iI ra), .int (iI en), .ref qMe, .ref qPk, .ref qSz, .ref qSu, .ref qDa, .ref qLo, .ref qLe, .ref qNa, .ref qNs, .ref qSt, .ref qSa, .ref qCo, .ref qWr, .int (iI to), .int (iI nw), .int (iI b_9), .int (iI r_41), .ref qLn, .ref qSm, .ref qCd, .ref qSc, .int (iI sy), .int (iI di), .int (iI th)])), (qT, .inl (cT, 20000, .inl fT)), (qPk, .inl (cPk, 64, .inr (.inl (fun k => lI (fPk k))))), (qDa, .inl (cDa, 64, .inl (fun k => iI (fDa k)))), (qSz, .inl (cSz, 64, .inr (.inl fSz))), (qCo, .inl (cCo, 64, .inl (fun k => iI (fCo k)))), (qWr, .inl (cWr, 40000, .inl fWr))]) [6, 0, 1, 2, 3, 4, 5] (by decide) rfl
        have hK := hK.sub (tys' := [(cT, .byte), (cPk, .long), (cDa, .int), (cSz, .long), (cCo, .int), (cWr, .byte)]) [0, 1, 2, 3, 4, 5] rfl
        refine lv_pop hx hb d_M_plainBlock_52 rfl ?_
        exact jn_15 r_41 _ _ _ (by omega) (by omega) (by rw [show 8 * (((fDa nw.toNat + fPk nw.toNat).toNat : Nat) : Int) = 8 * (fDa nw.toNat + fPk nw.toNat) by omega]; exact zBk_a hpb (Or.inr (Or.inr ⟨by omega, by omega, by omega⟩))) hP hD hS hl)
set_option maxHeartbeats 4000000 in
set_option maxRecDepth 100000 in
theorem m_block (l : Launch) (D : va_G) (sz : Nat) (qm : Nat) (qT : Nat) (len : Int) (op : Int) (fp : Int) (bu : Int) (ra : Int) (en : Int) (qMe : Nat) (qPk : Nat) (qSz : Nat) (qSu : Nat) (qDa : Nat) (qLo : Nat) (qLe : Nat) (qNa : Nat) (qNs : Nat) (qSt : Nat) (qSa : Nat) (qCo : Nat) (qWr : Nat) (to : Int) (nw : Int) (bt : Int) (rf : Int) (qLn : Nat) (qSm : Nat) (qCd : Nat) (qSc : Nat) (sy : Int) (di : Int) (th : Int) (cT : ClassId) (fT : Nat → Int32) (cPk : ClassId) (fPk : Nat → Int) (cDa : ClassId) (fDa : Nat → Int) (cSz : ClassId) (fSz : Nat → Int64) (cCo : ClassId) (fCo : Nat → Int) (cWr : ClassId) (fWr : Nat → Int32) (cLn : ClassId) (fLn : Nat → Int) (cCd : ClassId) (fCd : Nat → Int32) (cs : Int) (d : Nat → Nat) (dx : Nat → Nat) (hnw : 0 ≤ nw ∧ nw < 64) (hrf : -2147483648 ≤ rf ∧ rf ≤ 2147483647) (hpk : 0 ≤ fPk nw.toNat ∧ fPk nw.toNat ≤ 20000) (hda : 0 ≤ fDa nw.toNat ∧ fDa nw.toNat + fPk nw.toNat ≤ 20000) (hbt : 0 ≤ bt ∧ bt ≤ 8 * fPk nw.toNat) (hlim : 0 ≤ bu ∧ bu ≤ 40000 ∧ 0 ≤ ra ∧ ra ≤ 2000) (hco : 0 ≤ fCo nw.toNat ∧ fCo nw.toNat ≤ to ∧ to ≤ 40000) (hcs : 0 ≤ cs ∧ cs + fCo nw.toNat = to) (hr0 : rf = 0) (hLn : ∀ k : Nat, 0 ≤ fLn k ∧ fLn k ≤ 15) (hsd : 0 ≤ sy ∧ 0 ≤ di ∧ sy + di ≤ 320) (hd1 : ∀ k : Int, 0 ≤ k → k < sy → fLn (0 + k).toNat = (d k.toNat : Int)) (hd2 : ∀ k : Int, 0 ≤ k → k < di → fLn (sy + k).toNat = (dx k.toNat : Int)) (hck1 : zCk d (sy : Int).toNat 0 sy fCd 16 0) (hck2 : zCk dx (di : Int).toNat sy di fCd 16 0) (hG1 : zGd d sy.toNat) (hG2 : zGd dx di.toNat) : Met l y_M_block (Cond.code y_M_block prog_10_method_41_code 6 (Option.none : Option Jvm.ClassFile.FieldType) :: zt) { frames := 3, cells := 0, slots := 0, locals := 74 } (zPc [.ref qm] D [(qm, .inr (8, [.ref qT, .int (iI len), .int (iI op), .int (iI fp), .int (iI bu), .int (iI ra), .int (iI en), .ref qMe, .ref qPk, .ref qSz, .ref qSu, .ref qDa, .ref qLo, .ref qLe, .ref qNa, .ref qNs, .ref qSt, .ref qSa, .ref qCo, .ref qWr, .int (iI to), .int (iI nw), .int (iI bt), .int (iI rf), .ref qLn, .ref qSm, .ref qCd, .ref qSc, .int (iI sy), .int (iI di), .int (iI th)])), (qT, .inl (cT, 20000, .inl fT)), (qPk, .inl (cPk, 64, .inr (.inl (fun k => lI (fPk k))))), (qDa, .inl (cDa, 64, .inl (fun k => iI (fDa k)))), (qSz, .inl (cSz, 64, .inr (.inl fSz))), (qCo, .inl (cCo, 64, .inl (fun k => iI (fCo k)))), (qWr, .inl (cWr, 40000, .inl fWr)), (qLn, .inl (cLn, 320, .inl (fun k => iI (fLn k)))), (qCd, .inl (cCd, 320, .inl fCd))] [(cT, .byte), (cPk, .long), (cDa, .int), (cSz, .long), (cCo, .int), (cWr, .byte), (cLn, .int), (cCd, .int)] sz (fun _ => True)) (va_Qv (fun (u9 : Int × Int × Int × (Nat → Int) × (Nat → Int32)) => match u9 with | (b1, to1, r1, fc1, fw1) => (∀ k : Nat, k ≠ nw.toNat → fc1 k = fCo k) ∧ (zRz (zcoded fT (fDa nw.toNat + fPk nw.toNat).toNat bu.toNat ra.toNat (fPk nw.toNat).toNat (fSz nw.toNat) d sy.toNat (zGs d sy.toNat) dx di.toNat (zGs dx di.toNat) cs.toNat ((fPk nw.toNat).toNat * 8 + 1) (8 * fDa nw.toNat + bt).toNat (zOo to (fCo nw.toNat) cs fWr)) r1 (8 * fDa nw.toNat + b1) to1 (fc1 nw.toNat) cs fw1) ∧ (-2147483648 ≤ r1 ∧ r1 ≤ 2147483647) ∧ to ≤ to1 ∧ to1 ≤ 40000 ∧ fc1 nw.toNat - fCo nw.toNat = to1 - to ∧ bt ≤ b1 ∧ b1 ≤ 8 * fPk nw.toNat ∧ 0 ≤ r1 ∧ r1 ≤ 100) (fun u9 t => zB D ((fun (u9 : Int × Int × Int × (Nat → Int) × (Nat → Int32)) => match u9 with | (b1, to1, r1, fc1, fw1) => [(qm, .inr (8, [.ref qT, .int (iI len), .int (iI op), .int (iI fp), .int (iI bu), .int (iI ra), .int (iI en), .ref qMe, .ref qPk, .ref qSz, .ref qSu, .ref qDa, .ref qLo, .ref qLe, .ref qNa, .ref qNs, .ref qSt, .ref qSa, .ref qCo, .ref qWr, .int (iI to1), .int (iI nw), .int (iI b1), .int (iI r1), .ref qLn, .ref qSm, .ref qCd, .ref qSc, .int (iI sy), .int (iI di), .int (iI th)])), (qT, .inl (cT, 20000, .inl fT)), (qPk, .inl (cPk, 64, .inr (.inl (fun k => lI (fPk k))))), (qDa, .inl (cDa, 64, .inl (fun k => iI (fDa k)))), (qSz, .inl (cSz, 64, .inr (.inl fSz))), (qCo, .inl (cCo, 64, .inl (fun k => iI (fc1 k)))), (qWr, .inl (cWr, 40000, .inl fw1)), (qLn, .inl (cLn, 320, .inl (fun k => iI (fLn k)))), (qCd, .inl (cCd, 320, .inl fCd))]) u9) ((fun (u9 : Int × Int × Int × (Nat → Int) × (Nat → Int32)) => match u9 with | (b1, to1, r1, fc1, fw1) => [(cT, .byte), (cPk, .long), (cDa, .int), (cSz, .long), (cCo, .int), (cWr, .byte), (cLn, .int), (cCd, .int)]) u9) (va_A [(qm, .inr (8, [.ref qT, .int (iI len), .int (iI op), .int (iI fp), .int (iI bu), .int (iI ra), .int (iI en), .ref qMe, .ref qPk, .ref qSz, .ref qSu, .ref qDa, .ref qLo, .ref qLe, .ref qNa, .ref qNs, .ref qSt, .ref qSa, .ref qCo, .ref qWr, .int (iI to), .int (iI nw), .int (iI bt), .int (iI rf), .ref qLn, .ref qSm, .ref qCd, .ref qSc, .int (iI sy), .int (iI di), .int (iI th)])), (qT, .inl (cT, 20000, .inl fT)), (qPk, .inl (cPk, 64, .inr (.inl (fun k => lI (fPk k))))), (qDa, .inl (cDa, 64, .inl (fun k => iI (fDa k)))), (qSz, .inl (cSz, 64, .inr (.inl fSz))), (qCo, .inl (cCo, 64, .inl (fun k => iI (fCo k)))), (qWr, .inl (cWr, 40000, .inl fWr)), (qLn, .inl (cLn, 320, .inl (fun k => iI (fLn k)))), (qCd, .inl (cCd, 320, .inl fCd))] sz) t) (va_A [(qm, .inr (8, [.ref qT, .int (iI len), .int (iI op), .int (iI fp), .int (iI bu), .int (iI ra), .int (iI en), .ref qMe, .ref qPk, .ref qSz, .ref qSu, .ref qDa, .ref qLo, .ref qLe, .ref qNa, .ref qNs, .ref qSt, .ref qSa, .ref qCo, .ref qWr, .int (iI to), .int (iI nw), .int (iI bt), .int (iI rf), .ref qLn, .ref qSm, .ref qCd, .ref qSc, .int (iI sy), .int (iI di), .int (iI th)])), (qT, .inl (cT, 20000, .inl fT)), (qPk, .inl (cPk, 64, .inr (.inl (fun k => lI (fPk k))))), (qDa, .inl (cDa, 64, .inl (fun k => iI (fDa k)))), (qSz, .inl (cSz, 64, .inr (.inl fSz))), (qCo, .inl (cCo, 64, .inl (fun k => iI (fCo k)))), (qWr, .inl (cWr, 40000, .inl fWr)), (qLn, .inl (cLn, 320, .inl (fun k => iI (fLn k)))), (qCd, .inl (cCd, 320, .inl fCd))] sz)) 0 0 (va_A [(qm, .inr (8, [.ref qT, .int (iI len), .int (iI op), .int (iI fp), .int (iI bu), .int (iI ra), .int (iI en), .ref qMe, .ref qPk, .ref qSz, .ref qSu, .ref qDa, .ref qLo, .ref qLe, .ref qNa, .ref qNs, .ref qSt, .ref qSa, .ref qCo, .ref qWr, .int (iI to), .int (iI nw), .int (iI bt), .int (iI rf), .ref qLn, .ref qSm, .ref qCd, .ref qSc, .int (iI sy), .int (iI di), .int (iI th)])), (qT, .inl (cT, 20000, .inl fT)), (qPk, .inl (cPk, 64, .inr (.inl (fun k => lI (fPk k))))), (qDa, .inl (cDa, 64, .inl (fun k => iI (fDa k)))), (qSz, .inl (cSz, 64, .inr (.inl fSz))), (qCo, .inl (cCo, 64, .inl (fun k => iI (fCo k)))), (qWr, .inl (cWr, 40000, .inl fWr)), (qLn, .inl (cLn, 320, .inl (fun k => iI (fLn k)))), (qCd, .inl (cCd, 320, .inl fCd))] sz) :=
  zMet (Qf := fun A => va_Qv (fun (u9 : Int × Int × Int × (Nat → Int) × (Nat → Int32)) => match u9 with | (b1, to1, r1, fc1, fw1) => (∀ k : Nat, k ≠ nw.toNat → fc1 k = fCo k) ∧ (zRz (zcoded fT (fDa nw.toNat + fPk nw.toNat).toNat bu.toNat ra.toNat (fPk nw.toNat).toNat (fSz nw.toNat) d sy.toNat (zGs d sy.toNat) dx di.toNat (zGs dx di.toNat) cs.toNat ((fPk nw.toNat).toNat * 8 + 1) (8 * fDa nw.toNat + bt).toNat (zOo to (fCo nw.toNat) cs fWr)) r1 (8 * fDa nw.toNat + b1) to1 (fc1 nw.toNat) cs fw1) ∧ (-2147483648 ≤ r1 ∧ r1 ≤ 2147483647) ∧ to ≤ to1 ∧ to1 ≤ 40000 ∧ fc1 nw.toNat - fCo nw.toNat = to1 - to ∧ bt ≤ b1 ∧ b1 ≤ 8 * fPk nw.toNat ∧ 0 ≤ r1 ∧ r1 ≤ 100) (fun u9 t => zB D ((fun (u9 : Int × Int × Int × (Nat → Int) × (Nat → Int32)) => match u9 with | (b1, to1, r1, fc1, fw1) => [(qm, .inr (8, [.ref qT, .int (iI len), .int (iI op), .int (iI fp), .int (iI bu), .int (iI ra), .int (iI en), .ref qMe, .ref qPk, .ref qSz, .ref qSu, .ref qDa, .ref qLo, .ref qLe, .ref qNa, .ref qNs, .ref qSt, .ref qSa, .ref qCo, .ref qWr, .int (iI to1), .int (iI nw), .int (iI b1), .int (iI r1), .ref qLn, .ref qSm, .ref qCd, .ref qSc, .int (iI sy), .int (iI di), .int (iI th)])), (qT, .inl (cT, 20000, .inl fT)), (qPk, .inl (cPk, 64, .inr (.inl (fun k => lI (fPk k))))), (qDa, .inl (cDa, 64, .inl (fun k => iI (fDa k)))), (qSz, .inl (cSz, 64, .inr (.inl fSz))), (qCo, .inl (cCo, 64, .inl (fun k => iI (fc1 k)))), (qWr, .inl (cWr, 40000, .inl fw1)), (qLn, .inl (cLn, 320, .inl (fun k => iI (fLn k)))), (qCd, .inl (cCd, 320, .inl fCd))]) u9) ((fun (u9 : Int × Int × Int × (Nat → Int) × (Nat → Int32)) => match u9 with | (b1, to1, r1, fc1, fw1) => [(cT, .byte), (cPk, .long), (cDa, .int), (cSz, .long), (cCo, .int), (cWr, .byte), (cLn, .int), (cCd, .int)]) u9) A t) A) (by decide) (Nat.le_of_ble_eq_true rfl) (fun p e s m below meth c A ls hx hb hr hml hown ht hlk hnm hA hK hP hD hX hl => by
    have hS : va_S A s.heap s.heap [] := va_S.rf
    have hl : lv_has ls 6 [(0, .ref qm)] := hl
    refine lv_iconst (v := iI 1) hx hb d_M_block_0 (by decide) ?_
    refine lv_istore_n (lv' := [(1, .int (iI 1)), (0, .ref qm)]) hx hb d_M_block_1 rfl hl (by decide) rfl (fun ls hl => ?_)
    have lp2 : ∀ (j : Nat) (go : Int) (t2 : Int) (b2 : Int) (r2 : Int) (fc2 : Nat → Int) (fw2 : Nat → Int32) (H : Heap) (locs : List Loc) (ls : Array Slot), (go = 1) → (bt ≤ b2 ∧ b2 ≤ 8 * fPk nw.toNat) → (∀ k : Nat, k ≠ nw.toNat → fc2 k = fCo k) → (-2147483648 ≤ r2 ∧ r2 ≤ 2147483647) → (to ≤ t2 ∧ t2 ≤ 40000 ∧ fc2 nw.toNat - fCo nw.toNat = t2 - to) → (0 ≤ r2 ∧ r2 ≤ 100) → (zBc fT (fDa nw.toNat + fPk nw.toNat).toNat bu.toNat ra.toNat (fPk nw.toNat).toNat (fSz nw.toNat) d sy.toNat dx di.toNat (zcoded fT (fDa nw.toNat + fPk nw.toNat).toNat bu.toNat ra.toNat (fPk nw.toNat).toNat (fSz nw.toNat) d sy.toNat (zGs d sy.toNat) dx di.toNat (zGs dx di.toNat) cs.toNat ((fPk nw.toNat).toNat * 8 + 1) (8 * fDa nw.toNat + bt).toNat (zOo to (fCo nw.toNat) cs fWr)) (8 * fDa nw.toNat + b2) t2 (fc2 nw.toNat) cs r2 fw2) → (8 * fPk nw.toNat - b2 < (j : Int)) → va_P D zcl [(qm, .inr (8, [.ref qT, .int (iI len), .int (iI op), .int (iI fp), .int (iI bu), .int (iI ra), .int (iI en), .ref qMe, .ref qPk, .ref qSz, .ref qSu, .ref qDa, .ref qLo, .ref qLe, .ref qNa, .ref qNs, .ref qSt, .ref qSa, .ref qCo, .ref qWr, .int (iI t2), .int (iI nw), .int (iI b2), .int (iI r2), .ref qLn, .ref qSm, .ref qCd, .ref qSc, .int (iI sy), .int (iI di), .int (iI th)])), (qT, .inl (cT, 20000, .inl fT)), (qPk, .inl (cPk, 64, .inr (.inl (fun k => lI (fPk k))))), (qDa, .inl (cDa, 64, .inl (fun k => iI (fDa k)))), (qSz, .inl (cSz, 64, .inr (.inl fSz))), (qCo, .inl (cCo, 64, .inl (fun k => iI (fc2 k)))), (qWr, .inl (cWr, 40000, .inl fw2)), (qLn, .inl (cLn, 320, .inl (fun k => iI (fLn k)))), (qCd, .inl (cCd, 320, .inl fCd))] H → va_D A [(qm, .inr (8, [.ref qT, .int (iI len), .int (iI op), .int (iI fp), .int (iI bu), .int (iI ra), .int (iI en), .ref qMe, .ref qPk, .ref qSz, .ref qSu, .ref qDa, .ref qLo, .ref qLe, .ref qNa, .ref qNs, .ref qSt, .ref qSa, .ref qCo, .ref qWr, .int (iI t2), .int (iI nw), .int (iI b2), .int (iI r2), .ref qLn, .ref qSm, .ref qCd, .ref qSc, .int (iI sy), .int (iI di), .int (iI th)])), (qT, .inl (cT, 20000, .inl fT)), (qPk, .inl (cPk, 64, .inr (.inl (fun k => lI (fPk k))))), (qDa, .inl (cDa, 64, .inl (fun k => iI (fDa k)))), (qSz, .inl (cSz, 64, .inr (.inl fSz))), (qCo, .inl (cCo, 64, .inl (fun k => iI (fc2 k)))), (qWr, .inl (cWr, 40000, .inl fw2)), (qLn, .inl (cLn, 320, .inl (fun k => iI (fLn k)))), (qCd, .inl (cCd, 320, .inl fCd))] → va_S A s.heap H locs → lv_has ls 6 [(1, .int (iI go)), (0, .ref qm)] → W p l e { frames := 3, cells := 0, slots := 0, locals := 74 } s m [.ref qm].toArray below meth c H locs 0 0 (MQ below ((fun A => va_Qv (fun (u9 : Int × Int × Int × (Nat → Int) × (Nat → Int32)) => match u9 with | (b1, to1, r1, fc1, fw1) => (∀ k : Nat, k ≠ nw.toNat → fc1 k = fCo k) ∧ (zRz (zcoded fT (fDa nw.toNat + fPk nw.toNat).toNat bu.toNat ra.toNat (fPk nw.toNat).toNat (fSz nw.toNat) d sy.toNat (zGs d sy.toNat) dx di.toNat (zGs dx di.toNat) cs.toNat ((fPk nw.toNat).toNat * 8 + 1) (8 * fDa nw.toNat + bt).toNat (zOo to (fCo nw.toNat) cs fWr)) r1 (8 * fDa nw.toNat + b1) to1 (fc1 nw.toNat) cs fw1) ∧ (-2147483648 ≤ r1 ∧ r1 ≤ 2147483647) ∧ to ≤ to1 ∧ to1 ≤ 40000 ∧ fc1 nw.toNat - fCo nw.toNat = to1 - to ∧ bt ≤ b1 ∧ b1 ≤ 8 * fPk nw.toNat ∧ 0 ≤ r1 ∧ r1 ≤ 100) (fun u9 t => zB D ((fun (u9 : Int × Int × Int × (Nat → Int) × (Nat → Int32)) => match u9 with | (b1, to1, r1, fc1, fw1) => [(qm, .inr (8, [.ref qT, .int (iI len), .int (iI op), .int (iI fp), .int (iI bu), .int (iI ra), .int (iI en), .ref qMe, .ref qPk, .ref qSz, .ref qSu, .ref qDa, .ref qLo, .ref qLe, .ref qNa, .ref qNs, .ref qSt, .ref qSa, .ref qCo, .ref qWr, .int (iI to1), .int (iI nw), .int (iI b1), .int (iI r1), .ref qLn, .ref qSm, .ref qCd, .ref qSc, .int (iI sy), .int (iI di), .int (iI th)])), (qT, .inl (cT, 20000, .inl fT)), (qPk, .inl (cPk, 64, .inr (.inl (fun k => lI (fPk k))))), (qDa, .inl (cDa, 64, .inl (fun k => iI (fDa k)))), (qSz, .inl (cSz, 64, .inr (.inl fSz))), (qCo, .inl (cCo, 64, .inl (fun k => iI (fc1 k)))), (qWr, .inl (cWr, 40000, .inl fw1)), (qLn, .inl (cLn, 320, .inl (fun k => iI (fLn k)))), (qCd, .inl (cCd, 320, .inl fCd))]) u9) ((fun (u9 : Int × Int × Int × (Nat → Int) × (Nat → Int32)) => match u9 with | (b1, to1, r1, fc1, fw1) => [(cT, .byte), (cPk, .long), (cDa, .int), (cSz, .long), (cCo, .int), (cWr, .byte), (cLn, .int), (cCd, .int)]) u9) A t) A) A) [.ref qm].toArray s 0 0 A) (F0 m 2 ls []) := by
      intro j
      induction j with
      | zero => intro go t2 b2 r2 fc2 fw2 H locs ls hgo hb2 hw1 hw2 hw3 hr9 hbc hj2 hP hD hS hl; exfalso; omega
      | succ j ih2 =>
        intro go t2 b2 r2 fc2 fw2 H locs ls hgo hb2 hw1 hw2 hw3 hr9 hbc hj2 hP hD hS hl
        refine lv_iload_n hx hb d_M_block_2 rfl (lv_at hl 0 rfl) ?_
        refine zv_if_eq (tgt := 172) hx hb d_M_block_3 (by decide) (by omega) (fun hc_1 => by omega) (fun hc_1 => ?_)
        refine lv_aload_n hx hb d_M_block_6 rfl (lv_at hl 1 rfl) ?_
        refine va_get (ci := 8) (C := "ZipGuardModel") (T := F_M) (N := 31) hx hb ht zi_M hown hK hP 0 rfl rfl 23 (by decide) (ht _ zm_775) (fun _ h9 => h9) rfl d_M_block_7 ?_
        refine zv_if_ne (tgt := 172) hx hb d_M_block_10 (by decide) (by omega) (fun hc_2 => ?_) (fun hc_2 => ?_)
        · skip
          exact zretv hx hb hr hlk hK hP hD hS (b2, t2, r2, fc2, fw2) [0, 1, 2, 3, 4, 5, 6, 7, 8] [0, 1, 2, 3, 4, 5, 6, 7] rfl (by decide) rfl (⟨hw1, zBc_rz hbc (by omega), by omega⟩) (Nat.le_of_ble_eq_true rfl) (Nat.le_of_ble_eq_true rfl) d_M_block_172
        · skip
          refine lv_aload_n hx hb d_M_block_13 rfl (lv_at hl 1 rfl) ?_
          refine lv_aload_n hx hb d_M_block_14 rfl (lv_at hl 1 rfl) ?_
          refine va_get (ci := 8) (C := "ZipGuardModel") (T := F_M) (N := 31) hx hb ht zi_M hown hK hP 0 rfl rfl 24 (by decide) (ht _ zm_776) (fun _ h9 => h9) rfl d_M_block_15 ?_
          refine lv_aload_n hx hb d_M_block_18 rfl (lv_at hl 1 rfl) ?_
          refine va_get (ci := 8) (C := "ZipGuardModel") (T := F_M) (N := 31) hx hb ht zi_M hown hK hP 0 rfl rfl 26 (by decide) (ht _ zm_778) (fun _ h9 => h9) rfl d_M_block_19 ?_
          refine lv_iconst (v := iI 0) hx hb d_M_block_22 (by decide) ?_
          refine lv_aload_n hx hb d_M_block_23 rfl (lv_at hl 1 rfl) ?_
          refine va_get (ci := 8) (C := "ZipGuardModel") (T := F_M) (N := 31) hx hb ht zi_M hown hK hP 0 rfl rfl 28 (by decide) (ht _ zm_780) (fun _ h9 => h9) rfl d_M_block_24 ?_
          refine zji (wr := [(qSz, .inl (cSz, 64, .inr (.inl fSz))), (qCo, .inl (cCo, 64, .inl (fun k => iI (fc2 k)))), (qWr, .inl (cWr, 40000, .inl fw2))]) (va_runV (As := [.ref qLn, .ref qCd, .int (iI 0), .int (iI sy)]) (rest := []) ⟨hx, hb, hml, hown, ht⟩ (m_symbol l D _ qm qT len op fp bu ra en qMe qPk qSz qSu qDa qLo qLe qNa qNs qSt qSa qCo qWr t2 nw b2 r2 qLn qSm qCd qSc sy di th cT fT cPk fPk cDa fDa qLn cLn 320 fLn qCd cCd 320 fCd 0 sy d (by omega) (by omega) (by omega) (by omega) (by omega) (by omega) (by omega) hLn (by omega) (by omega) hd1 hck1 hG1) (cwV 4 ht (zt_goodV zm_994 zm_995 zm_58 zm_79 zm_996) rfl rfl rfl (by decide +kernel) ⟨Nat.le_of_ble_eq_true rfl, Nat.le_of_ble_eq_true rfl⟩) (zpreV zBlind_t hK hP hD [0, 1, 2, 3, 7, 8] [0, 1, 2, 6, 7] rfl (by decide) rfl (fun _ _ _ => trivial) (va_recv (q := ("ZipGuardModel", F_M, 31)) hK hP rfl (q0 := 0) (ci := 8) rfl)) rfl rfl hl.1 rfl (lv_room (Nat.le_of_ble_eq_true rfl)) d_M_block_27 ⟨Nat.le_of_ble_eq_true rfl, Nat.le_of_ble_eq_true rfl⟩) hK hP hD hS hA [0, 1, 2, 3, 7, 8] [4, 5, 6] rfl rfl (by decide) (by decide) (fun r6 u9 H locs hp7 hP hD hK hS => ?_)
          obtain ⟨b_3, r_4, x_5⟩ := u9
          dsimp only at hp7 hP hD hK
          have hP : va_P D zcl [(qSz, .inl (cSz, 64, .inr (.inl fSz))), (qCo, .inl (cCo, 64, .inl (fun k => iI (fc2 k)))), (qWr, .inl (cWr, 40000, .inl fw2)), (qm, .inr (8, [.ref qT, .int (iI len), .int (iI op), .int (iI fp), .int (iI bu), .int (iI ra), .int (iI en), .ref qMe, .ref qPk, .ref qSz, .ref qSu, .ref qDa, .ref qLo, .ref qLe, .ref qNa, .ref qNs, .ref qSt, .ref qSa, .ref qCo, .ref qWr, .int (iI t2), .int (iI nw), .int (iI b_3), .int (iI r_4), .ref qLn, .ref qSm, .ref qCd, .ref qSc, .int (iI sy), .int (iI di), .int (iI th)])), (qT, .inl (cT, 20000, .inl fT)), (qPk, .inl (cPk, 64, .inr (.inl (fun k => lI (fPk k))))), (qDa, .inl (cDa, 64, .inl (fun k => iI (fDa k)))), (qLn, .inl (cLn, 320, .inl (fun k => iI (fLn k)))), (qCd, .inl (cCd, 320, .inl fCd))] H := hP
          have hD : va_D A [(qSz, .inl (cSz, 64, .inr (.inl fSz))), (qCo, .inl (cCo, 64, .inl (fun k => iI (fc2 k)))), (qWr, .inl (cWr, 40000, .inl fw2)), (qm, .inr (8, [.ref qT, .int (iI len), .int (iI op), .int (iI fp), .int (iI bu), .int (iI ra), .int (iI en), .ref qMe, .ref qPk, .ref qSz, .ref qSu, .ref qDa, .ref qLo, .ref qLe, .ref qNa, .ref qNs, .ref qSt, .ref qSa, .ref qCo, .ref qWr, .int (iI t2), .int (iI nw), .int (iI b_3), .int (iI r_4), .ref qLn, .ref qSm, .ref qCd, .ref qSc, .int (iI sy), .int (iI di), .int (iI th)])), (qT, .inl (cT, 20000, .inl fT)), (qPk, .inl (cPk, 64, .inr (.inl (fun k => lI (fPk k))))), (qDa, .inl (cDa, 64, .inl (fun k => iI (fDa k)))), (qLn, .inl (cLn, 320, .inl (fun k => iI (fLn k)))), (qCd, .inl (cCd, 320, .inl fCd))] := hD
          have hK : va_K D zcl [(cT, .byte), (cPk, .long), (cDa, .int), (cSz, .long), (cCo, .int), (cWr, .byte), (cLn, .int), (cCd, .int), (cT, .byte), (cPk, .long), (cDa, .int), (cLn, .int), (cCd, .int)] s := hK
          obtain ⟨he_8, hp7⟩ := hp7
          subst he_8
          have hP := hP.sub (ws' := [(qm, .inr (8, [.ref qT, .int (iI len), .int (iI op), .int (iI fp), .int (iI bu), .int (iI ra), .int (iI en), .ref qMe, .ref qPk, .ref qSz, .ref qSu, .ref qDa, .ref qLo, .ref qLe, .ref qNa, .ref qNs, .ref qSt, .ref qSa, .ref qCo, .ref qWr, .int (iI t2), .int (iI nw), .int (iI b_3), .int (iI r_4), .ref qLn, .ref qSm, .ref qCd, .ref qSc, .int (iI sy), .int (iI di), .int (iI th)])), (qT, .inl (cT, 20000, .inl fT)), (qPk, .inl (cPk, 64, .inr (.inl (fun k => lI (fPk k))))), (qDa, .inl (cDa, 64, .inl (fun k => iI (fDa k)))), (qSz, .inl (cSz, 64, .inr (.inl fSz))), (qCo, .inl (cCo, 64, .inl (fun k => iI (fc2 k)))), (qWr, .inl (cWr, 40000, .inl fw2)), (qLn, .inl (cLn, 320, .inl (fun k => iI (fLn k)))), (qCd, .inl (cCd, 320, .inl fCd))]) [3, 4, 5, 6, 0, 1, 2, 7, 8] rfl
          have hD := hD.sub (ws' := [(qm, .inr (8, [.ref qT, .int (iI len), .int (iI op), .int (iI fp), .int (iI bu), .int (iI ra), .int (iI en), .ref qMe, .ref qPk, .ref qSz, .ref qSu, .ref qDa, .ref qLo, .ref qLe, .ref qNa, .ref qNs, .ref qSt, .ref qSa, .ref qCo, .ref qWr, .int (iI t2), .int (iI nw), .int (iI b_3), .int (iI r_4), .ref qLn, .ref qSm, .ref qCd, .ref qSc, .int (iI sy), .int (iI di), .int (iI th)])), (qT, .inl (cT, 20000, .inl fT)), (qPk, .inl (cPk, 64, .inr (.inl (fun k => lI (fPk k))))), (qDa, .inl (cDa, 64, .inl (fun k => iI (fDa k)))), (qSz, .inl (cSz, 64, .inr (.inl fSz))), (qCo, .inl (cCo, 64, .inl (fun k => iI (fc2 k)))), (qWr, .inl (cWr, 40000, .inl fw2)), (qLn, .inl (cLn, 320, .inl (fun k => iI (fLn k)))), (qCd, .inl (cCd, 320, .inl fCd))]) [3, 4, 5, 6, 0, 1, 2, 7, 8] (by decide) rfl
          have hK := hK.sub (tys' := [(cT, .byte), (cPk, .long), (cDa, .int), (cSz, .long), (cCo, .int), (cWr, .byte), (cLn, .int), (cCd, .int)]) [0, 1, 2, 3, 4, 5, 6, 7] rfl
          refine lv_istore_n (lv' := [(2, .int (iI x_5)), (1, .int (iI go)), (0, .ref qm)]) hx hb d_M_block_30 rfl hl (by decide) rfl (fun ls hl => ?_)
          refine lv_aload_n hx hb d_M_block_31 rfl (lv_at hl 2 rfl) ?_
          refine va_get (ci := 8) (C := "ZipGuardModel") (T := F_M) (N := 31) hx hb ht zi_M hown hK hP 0 rfl rfl 23 (by decide) (ht _ zm_775) (fun _ h9 => h9) rfl d_M_block_32 ?_
          refine zv_if_eq (tgt := 39) hx hb d_M_block_35 (by decide) (by omega) (fun hc_9 => ?_) (fun hc_9 => ?_)
          · skip
            refine lv_iload_n hx hb d_M_block_39 rfl (lv_at hl 0 rfl) ?_
            refine lv_sipush (v := iI 256) hx hb d_M_block_40 (by decide) ?_
            refine zv_icmp_ge (tgt := 55) hx hb d_M_block_43 (by decide) (by omega) (by omega) (fun hc_10 => ?_) (fun hc_10 => ?_)
            · skip
              refine lv_iload_n hx hb d_M_block_55 rfl (lv_at hl 0 rfl) ?_
              refine lv_sipush (v := iI 256) hx hb d_M_block_56 (by decide) ?_
              refine zv_icmp_le (tgt := 66) hx hb d_M_block_59 (by decide) (by omega) (by omega) (fun hc_11 => ?_) (fun hc_11 => ?_)
              · skip
                refine lv_iconst (v := iI 0) hx hb d_M_block_66 (by decide) ?_
                refine lv_istore_n (lv' := [(1, .int (iI 0)), (2, .int (iI x_5)), (0, .ref qm)]) hx hb d_M_block_67 rfl hl (by decide) rfl (fun ls hl => ?_)
                refine lv_iload_n hx hb d_M_block_68 rfl (lv_at hl 0 rfl) ?_
                refine zv_if_ne (tgt := 73) hx hb d_M_block_69 (by decide) (by omega) (fun hc_12 => by omega) (fun hc_12 => ?_)
                exact zretv hx hb hr hlk hK hP hD hS (b_3, t2, r_4, fc2, fw2) [0, 1, 2, 3, 4, 5, 6, 7, 8] [0, 1, 2, 3, 4, 5, 6, 7] rfl (by decide) rfl (⟨hw1, zBc_end hbc (by omega) (by omega) hp7.1 (by omega) (by omega), by omega⟩) (Nat.le_of_ble_eq_true rfl) (Nat.le_of_ble_eq_true rfl) d_M_block_72
              · skip
                refine lv_iconst (v := iI 1) hx hb d_M_block_62 (by decide) ?_
                refine lv_goto (tgt := 67) hx hb d_M_block_63 (by decide) ?_
                refine lv_istore_n (lv' := [(1, .int (iI 1)), (2, .int (iI x_5)), (0, .ref qm)]) hx hb d_M_block_67 rfl hl (by decide) rfl (fun ls hl => ?_)
                refine lv_iload_n hx hb d_M_block_68 rfl (lv_at hl 0 rfl) ?_
                refine zv_if_ne (tgt := 73) hx hb d_M_block_69 (by decide) (by omega) (fun hc_13 => ?_) (fun hc_13 => by omega)
                refine lv_iload_n hx hb d_M_block_73 rfl (lv_at hl 1 rfl) ?_
                refine lv_sipush (v := iI 285) hx hb d_M_block_74 (by decide) ?_
                refine zv_icmp_le (tgt := 88) hx hb d_M_block_77 (by decide) (by omega) (by omega) (fun hc_14 => ?_) (fun hc_14 => ?_)
                · skip
                  refine lv_aload_n hx hb d_M_block_88 rfl (lv_at hl 2 rfl) ?_
                  refine lv_iload_n hx hb d_M_block_89 rfl (lv_at hl 1 rfl) ?_
                  refine zji (wr := [(qSz, .inl (cSz, 64, .inr (.inl fSz))), (qCo, .inl (cCo, 64, .inl (fun k => iI (fc2 k)))), (qWr, .inl (cWr, 40000, .inl fw2)), (qLn, .inl (cLn, 320, .inl (fun k => iI (fLn k)))), (qCd, .inl (cCd, 320, .inl fCd))]) (va_runV (As := [.int (iI x_5)]) (rest := []) ⟨hx, hb, hml, hown, ht⟩ (m_len l D _ qm qT len op fp bu ra en qMe qPk qSz qSu qDa qLo qLe qNa qNs qSt qSa qCo qWr t2 nw b_3 r_4 qLn qSm qCd qSc sy di th cT fT cPk fPk cDa fDa x_5 (by omega) (by omega) (by omega) (by omega) (by omega) (by omega)) (cwV 1 ht (zt_goodV zm_1000 zm_1001 zm_60 zm_79 zm_1002) rfl rfl rfl (by decide +kernel) ⟨Nat.le_of_ble_eq_true rfl, Nat.le_of_ble_eq_true rfl⟩) (zpreV zBlind_t hK hP hD [0, 1, 2, 3] [0, 1, 2] rfl (by decide) rfl (fun _ _ _ => trivial) (va_recv (q := ("ZipGuardModel", F_M, 31)) hK hP rfl (q0 := 0) (ci := 8) rfl)) rfl rfl hl.1 rfl (lv_room (Nat.le_of_ble_eq_true rfl)) d_M_block_90 ⟨Nat.le_of_ble_eq_true rfl, Nat.le_of_ble_eq_true rfl⟩) hK hP hD hS hA [0, 1, 2, 3] [4, 5, 6, 7, 8] rfl rfl (by decide) (by decide) (fun r18 u9 H locs hp19 hP hD hK hS => ?_)
                  obtain ⟨b_15, r_16, x_17⟩ := u9
                  dsimp only at hp19 hP hD hK
                  have hP : va_P D zcl [(qSz, .inl (cSz, 64, .inr (.inl fSz))), (qCo, .inl (cCo, 64, .inl (fun k => iI (fc2 k)))), (qWr, .inl (cWr, 40000, .inl fw2)), (qLn, .inl (cLn, 320, .inl (fun k => iI (fLn k)))), (qCd, .inl (cCd, 320, .inl fCd)), (qm, .inr (8, [.ref qT, .int (iI len), .int (iI op), .int (iI fp), .int (iI bu), .int (iI ra), .int (iI en), .ref qMe, .ref qPk, .ref qSz, .ref qSu, .ref qDa, .ref qLo, .ref qLe, .ref qNa, .ref qNs, .ref qSt, .ref qSa, .ref qCo, .ref qWr, .int (iI t2), .int (iI nw), .int (iI b_15), .int (iI r_16), .ref qLn, .ref qSm, .ref qCd, .ref qSc, .int (iI sy), .int (iI di), .int (iI th)])), (qT, .inl (cT, 20000, .inl fT)), (qPk, .inl (cPk, 64, .inr (.inl (fun k => lI (fPk k))))), (qDa, .inl (cDa, 64, .inl (fun k => iI (fDa k))))] H := hP
                  have hD : va_D A [(qSz, .inl (cSz, 64, .inr (.inl fSz))), (qCo, .inl (cCo, 64, .inl (fun k => iI (fc2 k)))), (qWr, .inl (cWr, 40000, .inl fw2)), (qLn, .inl (cLn, 320, .inl (fun k => iI (fLn k)))), (qCd, .inl (cCd, 320, .inl fCd)), (qm, .inr (8, [.ref qT, .int (iI len), .int (iI op), .int (iI fp), .int (iI bu), .int (iI ra), .int (iI en), .ref qMe, .ref qPk, .ref qSz, .ref qSu, .ref qDa, .ref qLo, .ref qLe, .ref qNa, .ref qNs, .ref qSt, .ref qSa, .ref qCo, .ref qWr, .int (iI t2), .int (iI nw), .int (iI b_15), .int (iI r_16), .ref qLn, .ref qSm, .ref qCd, .ref qSc, .int (iI sy), .int (iI di), .int (iI th)])), (qT, .inl (cT, 20000, .inl fT)), (qPk, .inl (cPk, 64, .inr (.inl (fun k => lI (fPk k))))), (qDa, .inl (cDa, 64, .inl (fun k => iI (fDa k))))] := hD
                  have hK : va_K D zcl [(cT, .byte), (cPk, .long), (cDa, .int), (cSz, .long), (cCo, .int), (cWr, .byte), (cLn, .int), (cCd, .int), (cT, .byte), (cPk, .long), (cDa, .int)] s := hK
                  obtain ⟨he_20, hp19⟩ := hp19
                  subst he_20
                  have hP := hP.sub (ws' := [(qm, .inr (8, [.ref qT, .int (iI len), .int (iI op), .int (iI fp), .int (iI bu), .int (iI ra), .int (iI en), .ref qMe, .ref qPk, .ref qSz, .ref qSu, .ref qDa, .ref qLo, .ref qLe, .ref qNa, .ref qNs, .ref qSt, .ref qSa, .ref qCo, .ref qWr, .int (iI t2), .int (iI nw), .int (iI b_15), .int (iI r_16), .ref qLn, .ref qSm, .ref qCd, .ref qSc, .int (iI sy), .int (iI di), .int (iI th)])), (qT, .inl (cT, 20000, .inl fT)), (qPk, .inl (cPk, 64, .inr (.inl (fun k => lI (fPk k))))), (qDa, .inl (cDa, 64, .inl (fun k => iI (fDa k)))), (qSz, .inl (cSz, 64, .inr (.inl fSz))), (qCo, .inl (cCo, 64, .inl (fun k => iI (fc2 k)))), (qWr, .inl (cWr, 40000, .inl fw2)), (qLn, .inl (cLn, 320, .inl (fun k => iI (fLn k)))), (qCd, .inl (cCd, 320, .inl fCd))]) [5, 6, 7, 8, 0, 1, 2, 3, 4] rfl
                  have hD := hD.sub (ws' := [(qm, .inr (8, [.ref qT, .int (iI len), .int (iI op), .int (iI fp), .int (iI bu), .int (iI ra), .int (iI en), .ref qMe, .ref qPk, .ref qSz, .ref qSu, .ref qDa, .ref qLo, .ref qLe, .ref qNa, .ref qNs, .ref qSt, .ref qSa, .ref qCo, .ref qWr, .int (iI t2), .int (iI nw), .int (iI b_15), .int (iI r_16), .ref qLn, .ref qSm, .ref qCd, .ref qSc, .int (iI sy), .int (iI di), .int (iI th)])), (qT, .inl (cT, 20000, .inl fT)), (qPk, .inl (cPk, 64, .inr (.inl (fun k => lI (fPk k))))), (qDa, .inl (cDa, 64, .inl (fun k => iI (fDa k)))), (qSz, .inl (cSz, 64, .inr (.inl fSz))), (qCo, .inl (cCo, 64, .inl (fun k => iI (fc2 k)))), (qWr, .inl (cWr, 40000, .inl fw2)), (qLn, .inl (cLn, 320, .inl (fun k => iI (fLn k)))), (qCd, .inl (cCd, 320, .inl fCd))]) [5, 6, 7, 8, 0, 1, 2, 3, 4] (by decide) rfl
                  have hK := hK.sub (tys' := [(cT, .byte), (cPk, .long), (cDa, .int), (cSz, .long), (cCo, .int), (cWr, .byte), (cLn, .int), (cCd, .int)]) [0, 1, 2, 3, 4, 5, 6, 7] rfl
                  refine lv_istore_n (lv' := [(3, .int (iI x_17)), (1, .int (iI 1)), (2, .int (iI x_5)), (0, .ref qm)]) hx hb d_M_block_93 rfl hl (by decide) rfl (fun ls hl => ?_)
                  refine lv_aload_n hx hb d_M_block_94 rfl (lv_at hl 3 rfl) ?_
                  refine va_get (ci := 8) (C := "ZipGuardModel") (T := F_M) (N := 31) hx hb ht zi_M hown hK hP 0 rfl rfl 23 (by decide) (ht _ zm_775) (fun _ h9 => h9) rfl d_M_block_95 ?_
                  refine zv_if_eq (tgt := 102) hx hb d_M_block_98 (by decide) (by omega) (fun hc_21 => ?_) (fun hc_21 => ?_)
                  · skip
                    refine lv_aload_n hx hb d_M_block_102 rfl (lv_at hl 3 rfl) ?_
                    refine lv_aload_n hx hb d_M_block_103 rfl (lv_at hl 3 rfl) ?_
                    refine va_get (ci := 8) (C := "ZipGuardModel") (T := F_M) (N := 31) hx hb ht zi_M hown hK hP 0 rfl rfl 24 (by decide) (ht _ zm_776) (fun _ h9 => h9) rfl d_M_block_104 ?_
                    refine lv_aload_n hx hb d_M_block_107 rfl (lv_at hl 3 rfl) ?_
                    refine va_get (ci := 8) (C := "ZipGuardModel") (T := F_M) (N := 31) hx hb ht zi_M hown hK hP 0 rfl rfl 26 (by decide) (ht _ zm_778) (fun _ h9 => h9) rfl d_M_block_108 ?_
                    refine lv_aload_n hx hb d_M_block_111 rfl (lv_at hl 3 rfl) ?_
                    refine va_get (ci := 8) (C := "ZipGuardModel") (T := F_M) (N := 31) hx hb ht zi_M hown hK hP 0 rfl rfl 28 (by decide) (ht _ zm_780) (fun _ h9 => h9) rfl d_M_block_112 ?_
                    refine lv_aload_n hx hb d_M_block_115 rfl (lv_at hl 3 rfl) ?_
                    refine va_get (ci := 8) (C := "ZipGuardModel") (T := F_M) (N := 31) hx hb ht zi_M hown hK hP 0 rfl rfl 29 (by decide) (ht _ zm_781) (fun _ h9 => h9) rfl d_M_block_116 ?_
                    refine zji (wr := [(qSz, .inl (cSz, 64, .inr (.inl fSz))), (qCo, .inl (cCo, 64, .inl (fun k => iI (fc2 k)))), (qWr, .inl (cWr, 40000, .inl fw2))]) (va_runV (As := [.ref qLn, .ref qCd, .int (iI sy), .int (iI di)]) (rest := []) ⟨hx, hb, hml, hown, ht⟩ (m_symbol l D _ qm qT len op fp bu ra en qMe qPk qSz qSu qDa qLo qLe qNa qNs qSt qSa qCo qWr t2 nw b_15 r_16 qLn qSm qCd qSc sy di th cT fT cPk fPk cDa fDa qLn cLn 320 fLn qCd cCd 320 fCd sy di dx (by omega) (by omega) (by omega) (by omega) (by omega) (by omega) (by omega) hLn (by omega) (by omega) hd2 hck2 hG2) (cwV 4 ht (zt_goodV zm_994 zm_995 zm_58 zm_79 zm_996) rfl rfl rfl (by decide +kernel) ⟨Nat.le_of_ble_eq_true rfl, Nat.le_of_ble_eq_true rfl⟩) (zpreV zBlind_t hK hP hD [0, 1, 2, 3, 7, 8] [0, 1, 2, 6, 7] rfl (by decide) rfl (fun _ _ _ => trivial) (va_recv (q := ("ZipGuardModel", F_M, 31)) hK hP rfl (q0 := 0) (ci := 8) rfl)) rfl rfl hl.1 rfl (lv_room (Nat.le_of_ble_eq_true rfl)) d_M_block_119 ⟨Nat.le_of_ble_eq_true rfl, Nat.le_of_ble_eq_true rfl⟩) hK hP hD hS hA [0, 1, 2, 3, 7, 8] [4, 5, 6] rfl rfl (by decide) (by decide) (fun r25 u9 H locs hp26 hP hD hK hS => ?_)
                    obtain ⟨b_22, r_23, x_24⟩ := u9
                    dsimp only at hp26 hP hD hK
                    have hP : va_P D zcl [(qSz, .inl (cSz, 64, .inr (.inl fSz))), (qCo, .inl (cCo, 64, .inl (fun k => iI (fc2 k)))), (qWr, .inl (cWr, 40000, .inl fw2)), (qm, .inr (8, [.ref qT, .int (iI len), .int (iI op), .int (iI fp), .int (iI bu), .int (iI ra), .int (iI en), .ref qMe, .ref qPk, .ref qSz, .ref qSu, .ref qDa, .ref qLo, .ref qLe, .ref qNa, .ref qNs, .ref qSt, .ref qSa, .ref qCo, .ref qWr, .int (iI t2), .int (iI nw), .int (iI b_22), .int (iI r_23), .ref qLn, .ref qSm, .ref qCd, .ref qSc, .int (iI sy), .int (iI di), .int (iI th)])), (qT, .inl (cT, 20000, .inl fT)), (qPk, .inl (cPk, 64, .inr (.inl (fun k => lI (fPk k))))), (qDa, .inl (cDa, 64, .inl (fun k => iI (fDa k)))), (qLn, .inl (cLn, 320, .inl (fun k => iI (fLn k)))), (qCd, .inl (cCd, 320, .inl fCd))] H := hP
                    have hD : va_D A [(qSz, .inl (cSz, 64, .inr (.inl fSz))), (qCo, .inl (cCo, 64, .inl (fun k => iI (fc2 k)))), (qWr, .inl (cWr, 40000, .inl fw2)), (qm, .inr (8, [.ref qT, .int (iI len), .int (iI op), .int (iI fp), .int (iI bu), .int (iI ra), .int (iI en), .ref qMe, .ref qPk, .ref qSz, .ref qSu, .ref qDa, .ref qLo, .ref qLe, .ref qNa, .ref qNs, .ref qSt, .ref qSa, .ref qCo, .ref qWr, .int (iI t2), .int (iI nw), .int (iI b_22), .int (iI r_23), .ref qLn, .ref qSm, .ref qCd, .ref qSc, .int (iI sy), .int (iI di), .int (iI th)])), (qT, .inl (cT, 20000, .inl fT)), (qPk, .inl (cPk, 64, .inr (.inl (fun k => lI (fPk k))))), (qDa, .inl (cDa, 64, .inl (fun k => iI (fDa k)))), (qLn, .inl (cLn, 320, .inl (fun k => iI (fLn k)))), (qCd, .inl (cCd, 320, .inl fCd))] := hD
                    have hK : va_K D zcl [(cT, .byte), (cPk, .long), (cDa, .int), (cSz, .long), (cCo, .int), (cWr, .byte), (cLn, .int), (cCd, .int), (cT, .byte), (cPk, .long), (cDa, .int), (cLn, .int), (cCd, .int)] s := hK
                    obtain ⟨he_27, hp26⟩ := hp26
                    subst he_27
                    have hP := hP.sub (ws' := [(qm, .inr (8, [.ref qT, .int (iI len), .int (iI op), .int (iI fp), .int (iI bu), .int (iI ra), .int (iI en), .ref qMe, .ref qPk, .ref qSz, .ref qSu, .ref qDa, .ref qLo, .ref qLe, .ref qNa, .ref qNs, .ref qSt, .ref qSa, .ref qCo, .ref qWr, .int (iI t2), .int (iI nw), .int (iI b_22), .int (iI r_23), .ref qLn, .ref qSm, .ref qCd, .ref qSc, .int (iI sy), .int (iI di), .int (iI th)])), (qT, .inl (cT, 20000, .inl fT)), (qPk, .inl (cPk, 64, .inr (.inl (fun k => lI (fPk k))))), (qDa, .inl (cDa, 64, .inl (fun k => iI (fDa k)))), (qSz, .inl (cSz, 64, .inr (.inl fSz))), (qCo, .inl (cCo, 64, .inl (fun k => iI (fc2 k)))), (qWr, .inl (cWr, 40000, .inl fw2)), (qLn, .inl (cLn, 320, .inl (fun k => iI (fLn k)))), (qCd, .inl (cCd, 320, .inl fCd))]) [3, 4, 5, 6, 0, 1, 2, 7, 8] rfl
                    have hD := hD.sub (ws' := [(qm, .inr (8, [.ref qT, .int (iI len), .int (iI op), .int (iI fp), .int (iI bu), .int (iI ra), .int (iI en), .ref qMe, .ref qPk, .ref qSz, .ref qSu, .ref qDa, .ref qLo, .ref qLe, .ref qNa, .ref qNs, .ref qSt, .ref qSa, .ref qCo, .ref qWr, .int (iI t2), .int (iI nw), .int (iI b_22), .int (iI r_23), .ref qLn, .ref qSm, .ref qCd, .ref qSc, .int (iI sy), .int (iI di), .int (iI th)])), (qT, .inl (cT, 20000, .inl fT)), (qPk, .inl (cPk, 64, .inr (.inl (fun k => lI (fPk k))))), (qDa, .inl (cDa, 64, .inl (fun k => iI (fDa k)))), (qSz, .inl (cSz, 64, .inr (.inl fSz))), (qCo, .inl (cCo, 64, .inl (fun k => iI (fc2 k)))), (qWr, .inl (cWr, 40000, .inl fw2)), (qLn, .inl (cLn, 320, .inl (fun k => iI (fLn k)))), (qCd, .inl (cCd, 320, .inl fCd))]) [3, 4, 5, 6, 0, 1, 2, 7, 8] (by decide) rfl
                    have hK := hK.sub (tys' := [(cT, .byte), (cPk, .long), (cDa, .int), (cSz, .long), (cCo, .int), (cWr, .byte), (cLn, .int), (cCd, .int)]) [0, 1, 2, 3, 4, 5, 6, 7] rfl
                    refine lv_istore (lv' := [(4, .int (iI x_24)), (3, .int (iI x_17)), (1, .int (iI 1)), (2, .int (iI x_5)), (0, .ref qm)]) hx hb d_M_block_122 hl (by decide) rfl (fun ls hl => ?_)
                    refine lv_aload_n hx hb d_M_block_124 rfl (lv_at hl 4 rfl) ?_
                    refine va_get (ci := 8) (C := "ZipGuardModel") (T := F_M) (N := 31) hx hb ht zi_M hown hK hP 0 rfl rfl 23 (by decide) (ht _ zm_775) (fun _ h9 => h9) rfl d_M_block_125 ?_
                    refine zv_if_eq (tgt := 132) hx hb d_M_block_128 (by decide) (by omega) (fun hc_28 => ?_) (fun hc_28 => ?_)
                    · skip
                      refine lv_iload hx hb d_M_block_132 (lv_at hl 0 rfl) ?_
                      refine lv_bipush (v := iI 29) hx hb d_M_block_134 (by decide) ?_
                      refine zv_icmp_le (tgt := 147) hx hb d_M_block_136 (by decide) (by omega) (by omega) (fun hc_29 => ?_) (fun hc_29 => ?_)
                      · skip
                        refine lv_aload_n hx hb d_M_block_147 rfl (lv_at hl 4 rfl) ?_
                        refine lv_iload hx hb d_M_block_148 (lv_at hl 0 rfl) ?_
                        refine zji (wr := [(qSz, .inl (cSz, 64, .inr (.inl fSz))), (qCo, .inl (cCo, 64, .inl (fun k => iI (fc2 k)))), (qWr, .inl (cWr, 40000, .inl fw2)), (qLn, .inl (cLn, 320, .inl (fun k => iI (fLn k)))), (qCd, .inl (cCd, 320, .inl fCd))]) (va_runV (As := [.int (iI x_24)]) (rest := []) ⟨hx, hb, hml, hown, ht⟩ (m_dis l D _ qm qT len op fp bu ra en qMe qPk qSz qSu qDa qLo qLe qNa qNs qSt qSa qCo qWr t2 nw b_22 r_23 qLn qSm qCd qSc sy di th cT fT cPk fPk cDa fDa x_24 (by omega) (by omega) (by omega) (by omega) (by omega) (by omega)) (cwV 1 ht (zt_goodV zm_1003 zm_1004 zm_61 zm_79 zm_1005) rfl rfl rfl (by decide +kernel) ⟨Nat.le_of_ble_eq_true rfl, Nat.le_of_ble_eq_true rfl⟩) (zpreV zBlind_t hK hP hD [0, 1, 2, 3] [0, 1, 2] rfl (by decide) rfl (fun _ _ _ => trivial) (va_recv (q := ("ZipGuardModel", F_M, 31)) hK hP rfl (q0 := 0) (ci := 8) rfl)) rfl rfl hl.1 rfl (lv_room (Nat.le_of_ble_eq_true rfl)) d_M_block_150 ⟨Nat.le_of_ble_eq_true rfl, Nat.le_of_ble_eq_true rfl⟩) hK hP hD hS hA [0, 1, 2, 3] [4, 5, 6, 7, 8] rfl rfl (by decide) (by decide) (fun r33 u9 H locs hp34 hP hD hK hS => ?_)
                        obtain ⟨b_30, r_31, x_32⟩ := u9
                        dsimp only at hp34 hP hD hK
                        have hP : va_P D zcl [(qSz, .inl (cSz, 64, .inr (.inl fSz))), (qCo, .inl (cCo, 64, .inl (fun k => iI (fc2 k)))), (qWr, .inl (cWr, 40000, .inl fw2)), (qLn, .inl (cLn, 320, .inl (fun k => iI (fLn k)))), (qCd, .inl (cCd, 320, .inl fCd)), (qm, .inr (8, [.ref qT, .int (iI len), .int (iI op), .int (iI fp), .int (iI bu), .int (iI ra), .int (iI en), .ref qMe, .ref qPk, .ref qSz, .ref qSu, .ref qDa, .ref qLo, .ref qLe, .ref qNa, .ref qNs, .ref qSt, .ref qSa, .ref qCo, .ref qWr, .int (iI t2), .int (iI nw), .int (iI b_30), .int (iI r_31), .ref qLn, .ref qSm, .ref qCd, .ref qSc, .int (iI sy), .int (iI di), .int (iI th)])), (qT, .inl (cT, 20000, .inl fT)), (qPk, .inl (cPk, 64, .inr (.inl (fun k => lI (fPk k))))), (qDa, .inl (cDa, 64, .inl (fun k => iI (fDa k))))] H := hP
                        have hD : va_D A [(qSz, .inl (cSz, 64, .inr (.inl fSz))), (qCo, .inl (cCo, 64, .inl (fun k => iI (fc2 k)))), (qWr, .inl (cWr, 40000, .inl fw2)), (qLn, .inl (cLn, 320, .inl (fun k => iI (fLn k)))), (qCd, .inl (cCd, 320, .inl fCd)), (qm, .inr (8, [.ref qT, .int (iI len), .int (iI op), .int (iI fp), .int (iI bu), .int (iI ra), .int (iI en), .ref qMe, .ref qPk, .ref qSz, .ref qSu, .ref qDa, .ref qLo, .ref qLe, .ref qNa, .ref qNs, .ref qSt, .ref qSa, .ref qCo, .ref qWr, .int (iI t2), .int (iI nw), .int (iI b_30), .int (iI r_31), .ref qLn, .ref qSm, .ref qCd, .ref qSc, .int (iI sy), .int (iI di), .int (iI th)])), (qT, .inl (cT, 20000, .inl fT)), (qPk, .inl (cPk, 64, .inr (.inl (fun k => lI (fPk k))))), (qDa, .inl (cDa, 64, .inl (fun k => iI (fDa k))))] := hD
                        have hK : va_K D zcl [(cT, .byte), (cPk, .long), (cDa, .int), (cSz, .long), (cCo, .int), (cWr, .byte), (cLn, .int), (cCd, .int), (cT, .byte), (cPk, .long), (cDa, .int)] s := hK
                        obtain ⟨he_35, hp34⟩ := hp34
                        subst he_35
                        have hP := hP.sub (ws' := [(qm, .inr (8, [.ref qT, .int (iI len), .int (iI op), .int (iI fp), .int (iI bu), .int (iI ra), .int (iI en), .ref qMe, .ref qPk, .ref qSz, .ref qSu, .ref qDa, .ref qLo, .ref qLe, .ref qNa, .ref qNs, .ref qSt, .ref qSa, .ref qCo, .ref qWr, .int (iI t2), .int (iI nw), .int (iI b_30), .int (iI r_31), .ref qLn, .ref qSm, .ref qCd, .ref qSc, .int (iI sy), .int (iI di), .int (iI th)])), (qT, .inl (cT, 20000, .inl fT)), (qPk, .inl (cPk, 64, .inr (.inl (fun k => lI (fPk k))))), (qDa, .inl (cDa, 64, .inl (fun k => iI (fDa k)))), (qSz, .inl (cSz, 64, .inr (.inl fSz))), (qCo, .inl (cCo, 64, .inl (fun k => iI (fc2 k)))), (qWr, .inl (cWr, 40000, .inl fw2)), (qLn, .inl (cLn, 320, .inl (fun k => iI (fLn k)))), (qCd, .inl (cCd, 320, .inl fCd))]) [5, 6, 7, 8, 0, 1, 2, 3, 4] rfl
                        have hD := hD.sub (ws' := [(qm, .inr (8, [.ref qT, .int (iI len), .int (iI op), .int (iI fp), .int (iI bu), .int (iI ra), .int (iI en), .ref qMe, .ref qPk, .ref qSz, .ref qSu, .ref qDa, .ref qLo, .ref qLe, .ref qNa, .ref qNs, .ref qSt, .ref qSa, .ref qCo, .ref qWr, .int (iI t2), .int (iI nw), .int (iI b_30), .int (iI r_31), .ref qLn, .ref qSm, .ref qCd, .ref qSc, .int (iI sy), .int (iI di), .int (iI th)])), (qT, .inl (cT, 20000, .inl fT)), (qPk, .inl (cPk, 64, .inr (.inl (fun k => lI (fPk k))))), (qDa, .inl (cDa, 64, .inl (fun k => iI (fDa k)))), (qSz, .inl (cSz, 64, .inr (.inl fSz))), (qCo, .inl (cCo, 64, .inl (fun k => iI (fc2 k)))), (qWr, .inl (cWr, 40000, .inl fw2)), (qLn, .inl (cLn, 320, .inl (fun k => iI (fLn k)))), (qCd, .inl (cCd, 320, .inl fCd))]) [5, 6, 7, 8, 0, 1, 2, 3, 4] (by decide) rfl
                        have hK := hK.sub (tys' := [(cT, .byte), (cPk, .long), (cDa, .int), (cSz, .long), (cCo, .int), (cWr, .byte), (cLn, .int), (cCd, .int)]) [0, 1, 2, 3, 4, 5, 6, 7] rfl
                        refine lv_istore (lv' := [(5, .int (iI x_32)), (4, .int (iI x_24)), (3, .int (iI x_17)), (1, .int (iI 1)), (2, .int (iI x_5)), (0, .ref qm)]) hx hb d_M_block_153 hl (by decide) rfl (fun ls hl => ?_)
                        refine lv_aload_n hx hb d_M_block_155 rfl (lv_at hl 5 rfl) ?_
                        refine va_get (ci := 8) (C := "ZipGuardModel") (T := F_M) (N := 31) hx hb ht zi_M hown hK hP 0 rfl rfl 23 (by decide) (ht _ zm_775) (fun _ h9 => h9) rfl d_M_block_156 ?_
                        refine zv_if_ne (tgt := 169) hx hb d_M_block_159 (by decide) (by omega) (fun hc_36 => ?_) (fun hc_36 => ?_)
                        · skip
                          refine lv_goto (tgt := 2) hx hb d_M_block_169 (by decide) ?_
                          exact ih2 1 t2 b_30 r_31 fc2 fw2 _ _ _ (by omega) (by omega) hw1 (by omega) (by omega) (by have h9 := zBq_r hp34.1 (by omega); omega) (zBc_one (q2 := 8 * fDa nw.toNat + b_30) hbc (by omega) (by omega) hp7.1 (by omega) (by omega) (by rw [zO_le (p2 := 8 * fDa nw.toNat + b_15) (by omega) (by omega) (by omega) hp19.1 (by omega) (by omega) (by omega)]; exact zO_dm hp26.1 (by omega) (by omega) (by omega) (by omega) hp34.1 (by omega) (by omega)) (by have h9 := zBq_r hp34.1 (by omega); omega) (by omega)) (by omega) hP hD hS (lv_sub hl [3, 5] rfl)
                        · skip
                          refine lv_aload_n hx hb d_M_block_162 rfl (lv_at hl 5 rfl) ?_
                          refine lv_iload_n hx hb d_M_block_163 rfl (lv_at hl 2 rfl) ?_
                          refine lv_iload hx hb d_M_block_164 (lv_at hl 0 rfl) ?_
                          refine zjv (wr := [(qT, .inl (cT, 20000, .inl fT)), (qDa, .inl (cDa, 64, .inl (fun k => iI (fDa k)))), (qLn, .inl (cLn, 320, .inl (fun k => iI (fLn k)))), (qCd, .inl (cCd, 320, .inl fCd))]) (va_runV (As := [.int (iI x_17), .int (iI x_32)]) (rest := []) ⟨hx, hb, hml, hown, ht⟩ (m_copy l D _ qm qT len op fp bu ra en qMe qPk qSz qSu qDa qLo qLe qNa qNs qSt qSa qCo qWr t2 nw b_30 r_31 qLn qSm qCd qSc sy di th cPk fPk cSz fSz cCo fc2 cWr fw2 x_17 x_32 cs (by omega) (by omega) (by omega) (by omega) (by omega) (by omega) (by omega) (by omega)) (cwV 2 ht (zt_goodV zm_1006 zm_1007 zm_62 zm_79 zm_1008) rfl rfl rfl (by decide +kernel) ⟨Nat.le_of_ble_eq_true rfl, Nat.le_of_ble_eq_true rfl⟩) (zpreV zBlind_t hK hP hD [0, 2, 4, 5, 6] [1, 3, 4, 5] rfl (by decide) rfl (fun _ _ _ => trivial) (va_recv (q := ("ZipGuardModel", F_M, 31)) hK hP rfl (q0 := 0) (ci := 8) rfl)) rfl rfl hl.1 rfl (lv_room (Nat.le_of_ble_eq_true rfl)) d_M_block_166 ⟨Nat.le_of_ble_eq_true rfl, Nat.le_of_ble_eq_true rfl⟩) hK hP hD hS hA [0, 2, 4, 5, 6] [1, 3, 7, 8] rfl rfl (by decide) (by decide) (fun u9 H locs hp42 hP hD hK hS => ?_)
                          obtain ⟨t_37, r_38, f_39, f_40⟩ := u9
                          dsimp only at hp42 hP hD hK
                          have hP : va_P D zcl [(qT, .inl (cT, 20000, .inl fT)), (qDa, .inl (cDa, 64, .inl (fun k => iI (fDa k)))), (qLn, .inl (cLn, 320, .inl (fun k => iI (fLn k)))), (qCd, .inl (cCd, 320, .inl fCd)), (qm, .inr (8, [.ref qT, .int (iI len), .int (iI op), .int (iI fp), .int (iI bu), .int (iI ra), .int (iI en), .ref qMe, .ref qPk, .ref qSz, .ref qSu, .ref qDa, .ref qLo, .ref qLe, .ref qNa, .ref qNs, .ref qSt, .ref qSa, .ref qCo, .ref qWr, .int (iI t_37), .int (iI nw), .int (iI b_30), .int (iI r_38), .ref qLn, .ref qSm, .ref qCd, .ref qSc, .int (iI sy), .int (iI di), .int (iI th)])), (qPk, .inl (cPk, 64, .inr (.inl (fun k => lI (fPk k))))), (qSz, .inl (cSz, 64, .inr (.inl fSz))), (qCo, .inl (cCo, 64, .inl (fun k => iI (f_39 k)))), (qWr, .inl (cWr, 40000, .inl f_40))] H := hP
                          have hD : va_D A [(qT, .inl (cT, 20000, .inl fT)), (qDa, .inl (cDa, 64, .inl (fun k => iI (fDa k)))), (qLn, .inl (cLn, 320, .inl (fun k => iI (fLn k)))), (qCd, .inl (cCd, 320, .inl fCd)), (qm, .inr (8, [.ref qT, .int (iI len), .int (iI op), .int (iI fp), .int (iI bu), .int (iI ra), .int (iI en), .ref qMe, .ref qPk, .ref qSz, .ref qSu, .ref qDa, .ref qLo, .ref qLe, .ref qNa, .ref qNs, .ref qSt, .ref qSa, .ref qCo, .ref qWr, .int (iI t_37), .int (iI nw), .int (iI b_30), .int (iI r_38), .ref qLn, .ref qSm, .ref qCd, .ref qSc, .int (iI sy), .int (iI di), .int (iI th)])), (qPk, .inl (cPk, 64, .inr (.inl (fun k => lI (fPk k))))), (qSz, .inl (cSz, 64, .inr (.inl fSz))), (qCo, .inl (cCo, 64, .inl (fun k => iI (f_39 k)))), (qWr, .inl (cWr, 40000, .inl f_40))] := hD
                          have hK : va_K D zcl [(cT, .byte), (cPk, .long), (cDa, .int), (cSz, .long), (cCo, .int), (cWr, .byte), (cLn, .int), (cCd, .int), (cPk, .long), (cSz, .long), (cCo, .int), (cWr, .byte)] s := hK
                          have hP := hP.sub (ws' := [(qm, .inr (8, [.ref qT, .int (iI len), .int (iI op), .int (iI fp), .int (iI bu), .int (iI ra), .int (iI en), .ref qMe, .ref qPk, .ref qSz, .ref qSu, .ref qDa, .ref qLo, .ref qLe, .ref qNa, .ref qNs, .ref qSt, .ref qSa, .ref qCo, .ref qWr, .int (iI t_37), .int (iI nw), .int (iI b_30), .int (iI r_38), .ref qLn, .ref qSm, .ref qCd, .ref qSc, .int (iI sy), .int (iI di), .int (iI th)])), (qT, .inl (cT, 20000, .inl fT)), (qPk, .inl (cPk, 64, .inr (.inl (fun k => lI (fPk k))))), (qDa, .inl (cDa, 64, .inl (fun k => iI (fDa k)))), (qSz, .inl (cSz, 64, .inr (.inl fSz))), (qCo, .inl (cCo, 64, .inl (fun k => iI (f_39 k)))), (qWr, .inl (cWr, 40000, .inl f_40)), (qLn, .inl (cLn, 320, .inl (fun k => iI (fLn k)))), (qCd, .inl (cCd, 320, .inl fCd))]) [4, 0, 5, 1, 6, 7, 8, 2, 3] rfl
                          have hD := hD.sub (ws' := [(qm, .inr (8, [.ref qT, .int (iI len), .int (iI op), .int (iI fp), .int (iI bu), .int (iI ra), .int (iI en), .ref qMe, .ref qPk, .ref qSz, .ref qSu, .ref qDa, .ref qLo, .ref qLe, .ref qNa, .ref qNs, .ref qSt, .ref qSa, .ref qCo, .ref qWr, .int (iI t_37), .int (iI nw), .int (iI b_30), .int (iI r_38), .ref qLn, .ref qSm, .ref qCd, .ref qSc, .int (iI sy), .int (iI di), .int (iI th)])), (qT, .inl (cT, 20000, .inl fT)), (qPk, .inl (cPk, 64, .inr (.inl (fun k => lI (fPk k))))), (qDa, .inl (cDa, 64, .inl (fun k => iI (fDa k)))), (qSz, .inl (cSz, 64, .inr (.inl fSz))), (qCo, .inl (cCo, 64, .inl (fun k => iI (f_39 k)))), (qWr, .inl (cWr, 40000, .inl f_40)), (qLn, .inl (cLn, 320, .inl (fun k => iI (fLn k)))), (qCd, .inl (cCd, 320, .inl fCd))]) [4, 0, 5, 1, 6, 7, 8, 2, 3] (by decide) rfl
                          have hK := hK.sub (tys' := [(cT, .byte), (cPk, .long), (cDa, .int), (cSz, .long), (cCo, .int), (cWr, .byte), (cLn, .int), (cCd, .int)]) [0, 1, 2, 3, 4, 5, 6, 7] rfl
                          have ho_43 := fun k hk => (hp42.1 k hk).trans (hw1 k hk)
                          refine lv_goto (tgt := 2) hx hb d_M_block_169 (by decide) ?_
                          exact ih2 1 t_37 b_30 r_38 f_39 f_40 _ _ _ (by omega) (by omega) ho_43 (by omega) (by omega) (by omega) (zBc_one (q2 := 8 * fDa nw.toNat + b_30) hbc (by omega) (by omega) hp7.1 (by omega) (by omega) (by rw [zO_le (p2 := 8 * fDa nw.toNat + b_15) (by omega) (by omega) (by omega) hp19.1 (by omega) (by omega) (by omega)]; exact zO_cy hp26.1 (by omega) (by omega) (by omega) (by omega) hp34.1 (by omega) (by omega) (by omega) hp42.2.1) (by omega) (by omega)) (by omega) hP hD hS (lv_sub hl [3, 5] rfl)
                      · skip
                        refine lv_aload_n hx hb d_M_block_139 rfl (lv_at hl 4 rfl) ?_
                        refine lv_bipush (v := iI 35) hx hb d_M_block_140 (by decide) ?_
                        refine zji (wr := [(qT, .inl (cT, 20000, .inl fT)), (qPk, .inl (cPk, 64, .inr (.inl (fun k => lI (fPk k))))), (qDa, .inl (cDa, 64, .inl (fun k => iI (fDa k)))), (qSz, .inl (cSz, 64, .inr (.inl fSz))), (qCo, .inl (cCo, 64, .inl (fun k => iI (fc2 k)))), (qWr, .inl (cWr, 40000, .inl fw2)), (qLn, .inl (cLn, 320, .inl (fun k => iI (fLn k)))), (qCd, .inl (cCd, 320, .inl fCd))]) (va_runV (As := [.int (iI 35)]) (rest := []) ⟨hx, hb, hml, hown, ht⟩ (m_refuse l D _ qm qT len op fp bu ra en qMe qPk qSz qSu qDa qLo qLe qNa qNs qSt qSa qCo qWr t2 nw b_22 r_23 qLn qSm qCd qSc sy di th 35 (by omega)) (cwV 1 ht (zt_goodV zm_965 zm_966 zm_52 zm_79 zm_967) rfl rfl rfl (by decide +kernel) ⟨Nat.le_of_ble_eq_true rfl, Nat.le_of_ble_eq_true rfl⟩) (zpreV zBlind_t hK hP hD [0] [] rfl (by decide) rfl (fun _ _ _ => trivial) (va_recv (q := ("ZipGuardModel", F_M, 31)) hK hP rfl (q0 := 0) (ci := 8) rfl)) rfl rfl hl.1 rfl (lv_room (Nat.le_of_ble_eq_true rfl)) d_M_block_142 ⟨Nat.le_of_ble_eq_true rfl, Nat.le_of_ble_eq_true rfl⟩) hK hP hD hS hA [0] [1, 2, 3, 4, 5, 6, 7, 8] rfl rfl (by decide) (by decide) (fun r45 u9 H locs hp46 hP hD hK hS => ?_)
                        obtain ⟨r_44, rfl⟩ : ∃ z, z = u9 := ⟨u9, rfl⟩
                        dsimp only at hp46 hP hD hK
                        have hP : va_P D zcl [(qT, .inl (cT, 20000, .inl fT)), (qPk, .inl (cPk, 64, .inr (.inl (fun k => lI (fPk k))))), (qDa, .inl (cDa, 64, .inl (fun k => iI (fDa k)))), (qSz, .inl (cSz, 64, .inr (.inl fSz))), (qCo, .inl (cCo, 64, .inl (fun k => iI (fc2 k)))), (qWr, .inl (cWr, 40000, .inl fw2)), (qLn, .inl (cLn, 320, .inl (fun k => iI (fLn k)))), (qCd, .inl (cCd, 320, .inl fCd)), (qm, .inr (8, [.ref qT, .int (iI len), .int (iI op), .int (iI fp), .int (iI bu), .int (iI ra), .int (iI en), .ref qMe, .ref qPk, .ref qSz, .ref qSu, .ref qDa, .ref qLo, .ref qLe, .ref qNa, .ref qNs, .ref qSt, .ref qSa, .ref qCo, .ref qWr, .int (iI t2), .int (iI nw), .int (iI b_22), .int (iI r_44), .ref qLn, .ref qSm, .ref qCd, .ref qSc, .int (iI sy), .int (iI di), .int (iI th)]))] H := hP
                        have hD : va_D A [(qT, .inl (cT, 20000, .inl fT)), (qPk, .inl (cPk, 64, .inr (.inl (fun k => lI (fPk k))))), (qDa, .inl (cDa, 64, .inl (fun k => iI (fDa k)))), (qSz, .inl (cSz, 64, .inr (.inl fSz))), (qCo, .inl (cCo, 64, .inl (fun k => iI (fc2 k)))), (qWr, .inl (cWr, 40000, .inl fw2)), (qLn, .inl (cLn, 320, .inl (fun k => iI (fLn k)))), (qCd, .inl (cCd, 320, .inl fCd)), (qm, .inr (8, [.ref qT, .int (iI len), .int (iI op), .int (iI fp), .int (iI bu), .int (iI ra), .int (iI en), .ref qMe, .ref qPk, .ref qSz, .ref qSu, .ref qDa, .ref qLo, .ref qLe, .ref qNa, .ref qNs, .ref qSt, .ref qSa, .ref qCo, .ref qWr, .int (iI t2), .int (iI nw), .int (iI b_22), .int (iI r_44), .ref qLn, .ref qSm, .ref qCd, .ref qSc, .int (iI sy), .int (iI di), .int (iI th)]))] := hD
                        have hK : va_K D zcl [(cT, .byte), (cPk, .long), (cDa, .int), (cSz, .long), (cCo, .int), (cWr, .byte), (cLn, .int), (cCd, .int)] s := hK
                        obtain ⟨he_47, hp46⟩ := hp46
                        subst he_47
                        have hP := hP.sub (ws' := [(qm, .inr (8, [.ref qT, .int (iI len), .int (iI op), .int (iI fp), .int (iI bu), .int (iI ra), .int (iI en), .ref qMe, .ref qPk, .ref qSz, .ref qSu, .ref qDa, .ref qLo, .ref qLe, .ref qNa, .ref qNs, .ref qSt, .ref qSa, .ref qCo, .ref qWr, .int (iI t2), .int (iI nw), .int (iI b_22), .int (iI r_44), .ref qLn, .ref qSm, .ref qCd, .ref qSc, .int (iI sy), .int (iI di), .int (iI th)])), (qT, .inl (cT, 20000, .inl fT)), (qPk, .inl (cPk, 64, .inr (.inl (fun k => lI (fPk k))))), (qDa, .inl (cDa, 64, .inl (fun k => iI (fDa k)))), (qSz, .inl (cSz, 64, .inr (.inl fSz))), (qCo, .inl (cCo, 64, .inl (fun k => iI (fc2 k)))), (qWr, .inl (cWr, 40000, .inl fw2)), (qLn, .inl (cLn, 320, .inl (fun k => iI (fLn k)))), (qCd, .inl (cCd, 320, .inl fCd))]) [8, 0, 1, 2, 3, 4, 5, 6, 7] rfl
                        have hD := hD.sub (ws' := [(qm, .inr (8, [.ref qT, .int (iI len), .int (iI op), .int (iI fp), .int (iI bu), .int (iI ra), .int (iI en), .ref qMe, .ref qPk, .ref qSz, .ref qSu, .ref qDa, .ref qLo, .ref qLe, .ref qNa, .ref qNs, .ref qSt, .ref qSa, .ref qCo, .ref qWr, .int (iI t2), .int (iI nw), .int (iI b_22), .int (iI r_44), .ref qLn, .ref qSm, .ref qCd, .ref qSc, .int (iI sy), .int (iI di), .int (iI th)])), (qT, .inl (cT, 20000, .inl fT)), (qPk, .inl (cPk, 64, .inr (.inl (fun k => lI (fPk k))))), (qDa, .inl (cDa, 64, .inl (fun k => iI (fDa k)))), (qSz, .inl (cSz, 64, .inr (.inl fSz))), (qCo, .inl (cCo, 64, .inl (fun k => iI (fc2 k)))), (qWr, .inl (cWr, 40000, .inl fw2)), (qLn, .inl (cLn, 320, .inl (fun k => iI (fLn k)))), (qCd, .inl (cCd, 320, .inl fCd))]) [8, 0, 1, 2, 3, 4, 5, 6, 7] (by decide) rfl
                        have hK := hK.sub (tys' := [(cT, .byte), (cPk, .long), (cDa, .int), (cSz, .long), (cCo, .int), (cWr, .byte), (cLn, .int), (cCd, .int)]) [0, 1, 2, 3, 4, 5, 6, 7] rfl
                        refine lv_pop hx hb d_M_block_145 rfl ?_
                        exact zretv hx hb hr hlk hK hP hD hS (b_22, t2, r_44, fc2, fw2) [0, 1, 2, 3, 4, 5, 6, 7, 8] [0, 1, 2, 3, 4, 5, 6, 7] rfl (by decide) rfl (⟨hw1, zBc_rz (zBc_one (q2 := 8 * fDa nw.toNat + b2 + 1) hbc (by omega) (by omega) hp7.1 (by omega) (by omega) (by rw [zO_le (p2 := 8 * fDa nw.toNat + b_15) (by omega) (by omega) (by omega) hp19.1 (by omega) (by omega) (by omega)]; exact zO_db hp26.1 (by omega) (by omega) (by omega)) (by omega) (by omega)) (by omega), by omega⟩) (Nat.le_of_ble_eq_true rfl) (Nat.le_of_ble_eq_true rfl) d_M_block_146
                    · skip
                      exact zretv hx hb hr hlk hK hP hD hS (b_22, t2, r_23, fc2, fw2) [0, 1, 2, 3, 4, 5, 6, 7, 8] [0, 1, 2, 3, 4, 5, 6, 7] rfl (by decide) rfl (⟨hw1, zBc_rz (zBc_one (q2 := 8 * fDa nw.toNat + b2 + 1) hbc (by omega) (by omega) hp7.1 (by omega) (by omega) (by rw [zO_le (p2 := 8 * fDa nw.toNat + b_15) (by omega) (by omega) (by omega) hp19.1 (by omega) (by omega) (by omega)]; exact zO_dn hp26.1 (by omega)) (by have h9 := zSr_r hp26.1; omega) (by omega)) (by omega), by have h9 := zSr_r hp26.1; omega⟩) (Nat.le_of_ble_eq_true rfl) (Nat.le_of_ble_eq_true rfl) d_M_block_131
                  · skip
                    exact zretv hx hb hr hlk hK hP hD hS (b_15, t2, r_16, fc2, fw2) [0, 1, 2, 3, 4, 5, 6, 7, 8] [0, 1, 2, 3, 4, 5, 6, 7] rfl (by decide) rfl (⟨hw1, zBc_rz (zBc_one (q2 := 8 * fDa nw.toNat + b2 + 1) hbc (by omega) (by omega) hp7.1 (by omega) (by omega) (zO_ln (by omega) (by omega) (by omega) hp19.1 (by omega) (by omega)) (by have h9 := zBq_r hp19.1 (by omega); omega) (by omega)) (by omega), by have h9 := zBq_r hp19.1 (by omega); omega⟩) (Nat.le_of_ble_eq_true rfl) (Nat.le_of_ble_eq_true rfl) d_M_block_101
                · skip
                  refine lv_aload_n hx hb d_M_block_80 rfl (lv_at hl 2 rfl) ?_
                  refine lv_bipush (v := iI 35) hx hb d_M_block_81 (by decide) ?_
                  refine zji (wr := [(qT, .inl (cT, 20000, .inl fT)), (qPk, .inl (cPk, 64, .inr (.inl (fun k => lI (fPk k))))), (qDa, .inl (cDa, 64, .inl (fun k => iI (fDa k)))), (qSz, .inl (cSz, 64, .inr (.inl fSz))), (qCo, .inl (cCo, 64, .inl (fun k => iI (fc2 k)))), (qWr, .inl (cWr, 40000, .inl fw2)), (qLn, .inl (cLn, 320, .inl (fun k => iI (fLn k)))), (qCd, .inl (cCd, 320, .inl fCd))]) (va_runV (As := [.int (iI 35)]) (rest := []) ⟨hx, hb, hml, hown, ht⟩ (m_refuse l D _ qm qT len op fp bu ra en qMe qPk qSz qSu qDa qLo qLe qNa qNs qSt qSa qCo qWr t2 nw b_3 r_4 qLn qSm qCd qSc sy di th 35 (by omega)) (cwV 1 ht (zt_goodV zm_965 zm_966 zm_52 zm_79 zm_967) rfl rfl rfl (by decide +kernel) ⟨Nat.le_of_ble_eq_true rfl, Nat.le_of_ble_eq_true rfl⟩) (zpreV zBlind_t hK hP hD [0] [] rfl (by decide) rfl (fun _ _ _ => trivial) (va_recv (q := ("ZipGuardModel", F_M, 31)) hK hP rfl (q0 := 0) (ci := 8) rfl)) rfl rfl hl.1 rfl (lv_room (Nat.le_of_ble_eq_true rfl)) d_M_block_83 ⟨Nat.le_of_ble_eq_true rfl, Nat.le_of_ble_eq_true rfl⟩) hK hP hD hS hA [0] [1, 2, 3, 4, 5, 6, 7, 8] rfl rfl (by decide) (by decide) (fun r49 u9 H locs hp50 hP hD hK hS => ?_)
                  obtain ⟨r_48, rfl⟩ : ∃ z, z = u9 := ⟨u9, rfl⟩
                  dsimp only at hp50 hP hD hK
                  have hP : va_P D zcl [(qT, .inl (cT, 20000, .inl fT)), (qPk, .inl (cPk, 64, .inr (.inl (fun k => lI (fPk k))))), (qDa, .inl (cDa, 64, .inl (fun k => iI (fDa k)))), (qSz, .inl (cSz, 64, .inr (.inl fSz))), (qCo, .inl (cCo, 64, .inl (fun k => iI (fc2 k)))), (qWr, .inl (cWr, 40000, .inl fw2)), (qLn, .inl (cLn, 320, .inl (fun k => iI (fLn k)))), (qCd, .inl (cCd, 320, .inl fCd)), (qm, .inr (8, [.ref qT, .int (iI len), .int (iI op), .int (iI fp), .int (iI bu), .int (iI ra), .int (iI en), .ref qMe, .ref qPk, .ref qSz, .ref qSu, .ref qDa, .ref qLo, .ref qLe, .ref qNa, .ref qNs, .ref qSt, .ref qSa, .ref qCo, .ref qWr, .int (iI t2), .int (iI nw), .int (iI b_3), .int (iI r_48), .ref qLn, .ref qSm, .ref qCd, .ref qSc, .int (iI sy), .int (iI di), .int (iI th)]))] H := hP
                  have hD : va_D A [(qT, .inl (cT, 20000, .inl fT)), (qPk, .inl (cPk, 64, .inr (.inl (fun k => lI (fPk k))))), (qDa, .inl (cDa, 64, .inl (fun k => iI (fDa k)))), (qSz, .inl (cSz, 64, .inr (.inl fSz))), (qCo, .inl (cCo, 64, .inl (fun k => iI (fc2 k)))), (qWr, .inl (cWr, 40000, .inl fw2)), (qLn, .inl (cLn, 320, .inl (fun k => iI (fLn k)))), (qCd, .inl (cCd, 320, .inl fCd)), (qm, .inr (8, [.ref qT, .int (iI len), .int (iI op), .int (iI fp), .int (iI bu), .int (iI ra), .int (iI en), .ref qMe, .ref qPk, .ref qSz, .ref qSu, .ref qDa, .ref qLo, .ref qLe, .ref qNa, .ref qNs, .ref qSt, .ref qSa, .ref qCo, .ref qWr, .int (iI t2), .int (iI nw), .int (iI b_3), .int (iI r_48), .ref qLn, .ref qSm, .ref qCd, .ref qSc, .int (iI sy), .int (iI di), .int (iI th)]))] := hD
                  have hK : va_K D zcl [(cT, .byte), (cPk, .long), (cDa, .int), (cSz, .long), (cCo, .int), (cWr, .byte), (cLn, .int), (cCd, .int)] s := hK
                  obtain ⟨he_51, hp50⟩ := hp50
                  subst he_51
                  have hP := hP.sub (ws' := [(qm, .inr (8, [.ref qT, .int (iI len), .int (iI op), .int (iI fp), .int (iI bu), .int (iI ra), .int (iI en), .ref qMe, .ref qPk, .ref qSz, .ref qSu, .ref qDa, .ref qLo, .ref qLe, .ref qNa, .ref qNs, .ref qSt, .ref qSa, .ref qCo, .ref qWr, .int (iI t2), .int (iI nw), .int (iI b_3), .int (iI r_48), .ref qLn, .ref qSm, .ref qCd, .ref qSc, .int (iI sy), .int (iI di), .int (iI th)])), (qT, .inl (cT, 20000, .inl fT)), (qPk, .inl (cPk, 64, .inr (.inl (fun k => lI (fPk k))))), (qDa, .inl (cDa, 64, .inl (fun k => iI (fDa k)))), (qSz, .inl (cSz, 64, .inr (.inl fSz))), (qCo, .inl (cCo, 64, .inl (fun k => iI (fc2 k)))), (qWr, .inl (cWr, 40000, .inl fw2)), (qLn, .inl (cLn, 320, .inl (fun k => iI (fLn k)))), (qCd, .inl (cCd, 320, .inl fCd))]) [8, 0, 1, 2, 3, 4, 5, 6, 7] rfl
                  have hD := hD.sub (ws' := [(qm, .inr (8, [.ref qT, .int (iI len), .int (iI op), .int (iI fp), .int (iI bu), .int (iI ra), .int (iI en), .ref qMe, .ref qPk, .ref qSz, .ref qSu, .ref qDa, .ref qLo, .ref qLe, .ref qNa, .ref qNs, .ref qSt, .ref qSa, .ref qCo, .ref qWr, .int (iI t2), .int (iI nw), .int (iI b_3), .int (iI r_48), .ref qLn, .ref qSm, .ref qCd, .ref qSc, .int (iI sy), .int (iI di), .int (iI th)])), (qT, .inl (cT, 20000, .inl fT)), (qPk, .inl (cPk, 64, .inr (.inl (fun k => lI (fPk k))))), (qDa, .inl (cDa, 64, .inl (fun k => iI (fDa k)))), (qSz, .inl (cSz, 64, .inr (.inl fSz))), (qCo, .inl (cCo, 64, .inl (fun k => iI (fc2 k)))), (qWr, .inl (cWr, 40000, .inl fw2)), (qLn, .inl (cLn, 320, .inl (fun k => iI (fLn k)))), (qCd, .inl (cCd, 320, .inl fCd))]) [8, 0, 1, 2, 3, 4, 5, 6, 7] (by decide) rfl
                  have hK := hK.sub (tys' := [(cT, .byte), (cPk, .long), (cDa, .int), (cSz, .long), (cCo, .int), (cWr, .byte), (cLn, .int), (cCd, .int)]) [0, 1, 2, 3, 4, 5, 6, 7] rfl
                  refine lv_pop hx hb d_M_block_86 rfl ?_
                  exact zretv hx hb hr hlk hK hP hD hS (b_3, t2, r_48, fc2, fw2) [0, 1, 2, 3, 4, 5, 6, 7, 8] [0, 1, 2, 3, 4, 5, 6, 7] rfl (by decide) rfl (⟨hw1, zBc_rz (zBc_one (q2 := 8 * fDa nw.toNat + b2 + 1) hbc (by omega) (by omega) hp7.1 (by omega) (by omega) (zO_big (by omega) (by omega)) (by omega) (by omega)) (by omega), by omega⟩) (Nat.le_of_ble_eq_true rfl) (Nat.le_of_ble_eq_true rfl) d_M_block_87
            · skip
              refine lv_aload_n hx hb d_M_block_46 rfl (lv_at hl 2 rfl) ?_
              refine lv_iload_n hx hb d_M_block_47 rfl (lv_at hl 0 rfl) ?_
              refine zji (wr := [(qT, .inl (cT, 20000, .inl fT)), (qDa, .inl (cDa, 64, .inl (fun k => iI (fDa k)))), (qLn, .inl (cLn, 320, .inl (fun k => iI (fLn k)))), (qCd, .inl (cCd, 320, .inl fCd))]) (va_runV (As := [.int (iI x_5)]) (rest := []) ⟨hx, hb, hml, hown, ht⟩ (m_write l D _ qm qT len op fp bu ra en qMe qPk qSz qSu qDa qLo qLe qNa qNs qSt qSa qCo qWr t2 nw b_3 r_4 qLn qSm qCd qSc sy di th cPk fPk cSz fSz cCo fc2 cWr fw2 x_5 (by omega) (by omega) (by omega) (by omega) (by omega)) (cwV 1 ht (zt_goodV zm_972 zm_973 zm_54 zm_79 zm_974) rfl rfl rfl (by decide +kernel) ⟨Nat.le_of_ble_eq_true rfl, Nat.le_of_ble_eq_true rfl⟩) (zpreV zBlind_t hK hP hD [0, 2, 4, 5, 6] [1, 3, 4, 5] rfl (by decide) rfl (fun _ _ _ => trivial) (va_recv (q := ("ZipGuardModel", F_M, 31)) hK hP rfl (q0 := 0) (ci := 8) rfl)) rfl rfl hl.1 rfl (lv_room (Nat.le_of_ble_eq_true rfl)) d_M_block_48 ⟨Nat.le_of_ble_eq_true rfl, Nat.le_of_ble_eq_true rfl⟩) hK hP hD hS hA [0, 2, 4, 5, 6] [1, 3, 7, 8] rfl rfl (by decide) (by decide) (fun r57 u9 H locs hp58 hP hD hK hS => ?_)
              obtain ⟨t_52, r_53, x_54, f_55, f_56⟩ := u9
              dsimp only at hp58 hP hD hK
              have hP : va_P D zcl [(qT, .inl (cT, 20000, .inl fT)), (qDa, .inl (cDa, 64, .inl (fun k => iI (fDa k)))), (qLn, .inl (cLn, 320, .inl (fun k => iI (fLn k)))), (qCd, .inl (cCd, 320, .inl fCd)), (qm, .inr (8, [.ref qT, .int (iI len), .int (iI op), .int (iI fp), .int (iI bu), .int (iI ra), .int (iI en), .ref qMe, .ref qPk, .ref qSz, .ref qSu, .ref qDa, .ref qLo, .ref qLe, .ref qNa, .ref qNs, .ref qSt, .ref qSa, .ref qCo, .ref qWr, .int (iI t_52), .int (iI nw), .int (iI b_3), .int (iI r_53), .ref qLn, .ref qSm, .ref qCd, .ref qSc, .int (iI sy), .int (iI di), .int (iI th)])), (qPk, .inl (cPk, 64, .inr (.inl (fun k => lI (fPk k))))), (qSz, .inl (cSz, 64, .inr (.inl fSz))), (qCo, .inl (cCo, 64, .inl (fun k => iI (f_55 k)))), (qWr, .inl (cWr, 40000, .inl f_56))] H := hP
              have hD : va_D A [(qT, .inl (cT, 20000, .inl fT)), (qDa, .inl (cDa, 64, .inl (fun k => iI (fDa k)))), (qLn, .inl (cLn, 320, .inl (fun k => iI (fLn k)))), (qCd, .inl (cCd, 320, .inl fCd)), (qm, .inr (8, [.ref qT, .int (iI len), .int (iI op), .int (iI fp), .int (iI bu), .int (iI ra), .int (iI en), .ref qMe, .ref qPk, .ref qSz, .ref qSu, .ref qDa, .ref qLo, .ref qLe, .ref qNa, .ref qNs, .ref qSt, .ref qSa, .ref qCo, .ref qWr, .int (iI t_52), .int (iI nw), .int (iI b_3), .int (iI r_53), .ref qLn, .ref qSm, .ref qCd, .ref qSc, .int (iI sy), .int (iI di), .int (iI th)])), (qPk, .inl (cPk, 64, .inr (.inl (fun k => lI (fPk k))))), (qSz, .inl (cSz, 64, .inr (.inl fSz))), (qCo, .inl (cCo, 64, .inl (fun k => iI (f_55 k)))), (qWr, .inl (cWr, 40000, .inl f_56))] := hD
              have hK : va_K D zcl [(cT, .byte), (cPk, .long), (cDa, .int), (cSz, .long), (cCo, .int), (cWr, .byte), (cLn, .int), (cCd, .int), (cPk, .long), (cSz, .long), (cCo, .int), (cWr, .byte)] s := hK
              obtain ⟨he_59, hp58⟩ := hp58
              subst he_59
              have hP := hP.sub (ws' := [(qm, .inr (8, [.ref qT, .int (iI len), .int (iI op), .int (iI fp), .int (iI bu), .int (iI ra), .int (iI en), .ref qMe, .ref qPk, .ref qSz, .ref qSu, .ref qDa, .ref qLo, .ref qLe, .ref qNa, .ref qNs, .ref qSt, .ref qSa, .ref qCo, .ref qWr, .int (iI t_52), .int (iI nw), .int (iI b_3), .int (iI r_53), .ref qLn, .ref qSm, .ref qCd, .ref qSc, .int (iI sy), .int (iI di), .int (iI th)])), (qT, .inl (cT, 20000, .inl fT)), (qPk, .inl (cPk, 64, .inr (.inl (fun k => lI (fPk k))))), (qDa, .inl (cDa, 64, .inl (fun k => iI (fDa k)))), (qSz, .inl (cSz, 64, .inr (.inl fSz))), (qCo, .inl (cCo, 64, .inl (fun k => iI (f_55 k)))), (qWr, .inl (cWr, 40000, .inl f_56)), (qLn, .inl (cLn, 320, .inl (fun k => iI (fLn k)))), (qCd, .inl (cCd, 320, .inl fCd))]) [4, 0, 5, 1, 6, 7, 8, 2, 3] rfl
              have hD := hD.sub (ws' := [(qm, .inr (8, [.ref qT, .int (iI len), .int (iI op), .int (iI fp), .int (iI bu), .int (iI ra), .int (iI en), .ref qMe, .ref qPk, .ref qSz, .ref qSu, .ref qDa, .ref qLo, .ref qLe, .ref qNa, .ref qNs, .ref qSt, .ref qSa, .ref qCo, .ref qWr, .int (iI t_52), .int (iI nw), .int (iI b_3), .int (iI r_53), .ref qLn, .ref qSm, .ref qCd, .ref qSc, .int (iI sy), .int (iI di), .int (iI th)])), (qT, .inl (cT, 20000, .inl fT)), (qPk, .inl (cPk, 64, .inr (.inl (fun k => lI (fPk k))))), (qDa, .inl (cDa, 64, .inl (fun k => iI (fDa k)))), (qSz, .inl (cSz, 64, .inr (.inl fSz))), (qCo, .inl (cCo, 64, .inl (fun k => iI (f_55 k)))), (qWr, .inl (cWr, 40000, .inl f_56)), (qLn, .inl (cLn, 320, .inl (fun k => iI (fLn k)))), (qCd, .inl (cCd, 320, .inl fCd))]) [4, 0, 5, 1, 6, 7, 8, 2, 3] (by decide) rfl
              have hK := hK.sub (tys' := [(cT, .byte), (cPk, .long), (cDa, .int), (cSz, .long), (cCo, .int), (cWr, .byte), (cLn, .int), (cCd, .int)]) [0, 1, 2, 3, 4, 5, 6, 7] rfl
              have ho_60 := fun k hk => (hp58.1 k hk).trans (hw1 k hk)
              refine lv_pop hx hb d_M_block_51 rfl ?_
              refine lv_goto (tgt := 2) hx hb d_M_block_52 (by decide) ?_
              exact ih2 go t_52 b_3 r_53 f_55 f_56 _ _ _ (by omega) (by omega) ho_60 (by omega) (by omega) (by have h9 := zWi_r (zWi_q hp58.2.1 (by omega) rfl); omega) (zBc_one (q2 := 8 * fDa nw.toNat + b_3) hbc (by omega) (by omega) hp7.1 (by omega) (by omega) (zO_lit (by omega) (zWi_q hp58.2.1 (by omega) rfl) rfl (by omega) (by omega) (by omega) (by omega) (by omega)) (by have h9 := zWi_r (zWi_q hp58.2.1 (by omega) rfl); omega) (by omega)) (by omega) hP hD hS (lv_sub hl [1, 2] rfl)
          · skip
            exact zretv hx hb hr hlk hK hP hD hS (b_3, t2, r_4, fc2, fw2) [0, 1, 2, 3, 4, 5, 6, 7, 8] [0, 1, 2, 3, 4, 5, 6, 7] rfl (by decide) rfl (⟨hw1, zBc_no hbc (by omega) (by omega) hp7.1 (by omega), by have h9 := zSr_r hp7.1; omega⟩) (Nat.le_of_ble_eq_true rfl) (Nat.le_of_ble_eq_true rfl) d_M_block_38
    exact lp2 ((8 * fPk nw.toNat - bt + 1 : Int)).toNat 1 to bt rf fCo fWr _ _ _ (by omega) (by omega) (fun _ _ => rfl) (by omega) (by omega) (by omega) (zBc_0 (by omega) (by omega)) (by omega) hP hD hS hl)
set_option maxHeartbeats 4000000 in
set_option maxRecDepth 100000 in
theorem m_read (l : Launch) (D : va_G) (sz : Nat) (qm : Nat) (qT : Nat) (len : Int) (op : Int) (fp : Int) (bu : Int) (ra : Int) (en : Int) (qMe : Nat) (qPk : Nat) (qSz : Nat) (qSu : Nat) (qDa : Nat) (qLo : Nat) (qLe : Nat) (qNa : Nat) (qNs : Nat) (qSt : Nat) (qSa : Nat) (qCo : Nat) (qWr : Nat) (to : Int) (nw : Int) (bt : Int) (rf : Int) (qLn : Nat) (qSm : Nat) (qCd : Nat) (qSc : Nat) (sy : Int) (di : Int) (th : Int) (cT : ClassId) (fT : Nat → Int32) (cPk : ClassId) (fPk : Nat → Int) (cDa : ClassId) (fDa : Nat → Int) (cLn : ClassId) (fLn : Nat → Int) (cSm : ClassId) (fSm : Nat → Int) (cCd : ClassId) (fCd : Nat → Int32) (cSc : ClassId) (fSc : Nat → Int32) (hnw : 0 ≤ nw ∧ nw < 64) (hrf : -2147483648 ≤ rf ∧ rf ≤ 2147483647) (hpk : 0 ≤ fPk nw.toNat ∧ fPk nw.toNat ≤ 20000) (hda : 0 ≤ fDa nw.toNat ∧ fDa nw.toNat + fPk nw.toNat ≤ 20000) (hbt : 0 ≤ bt ∧ bt ≤ 8 * fPk nw.toNat) (hLn : ∀ k : Nat, 0 ≤ fLn k ∧ fLn k ≤ 15) (hSm : ∀ k : Nat, 0 ≤ fSm k ∧ fSm k ≤ 15) (hr0 : rf = 0) : Met l y_M_readCodes (Cond.code y_M_readCodes prog_10_method_37_code 8 (Option.none : Option Jvm.ClassFile.FieldType) :: zt) { frames := 3, cells := 0, slots := 0, locals := 74 } (zPc [.ref qm] D [(qm, .inr (8, [.ref qT, .int (iI len), .int (iI op), .int (iI fp), .int (iI bu), .int (iI ra), .int (iI en), .ref qMe, .ref qPk, .ref qSz, .ref qSu, .ref qDa, .ref qLo, .ref qLe, .ref qNa, .ref qNs, .ref qSt, .ref qSa, .ref qCo, .ref qWr, .int (iI to), .int (iI nw), .int (iI bt), .int (iI rf), .ref qLn, .ref qSm, .ref qCd, .ref qSc, .int (iI sy), .int (iI di), .int (iI th)])), (qT, .inl (cT, 20000, .inl fT)), (qPk, .inl (cPk, 64, .inr (.inl (fun k => lI (fPk k))))), (qDa, .inl (cDa, 64, .inl (fun k => iI (fDa k)))), (qLn, .inl (cLn, 320, .inl (fun k => iI (fLn k)))), (qSm, .inl (cSm, 19, .inl (fun k => iI (fSm k)))), (qCd, .inl (cCd, 320, .inl fCd)), (qSc, .inl (cSc, 19, .inl fSc))] [(cT, .byte), (cPk, .long), (cDa, .int), (cLn, .int), (cSm, .int), (cCd, .int), (cSc, .int)] sz (fun _ => True)) (va_Qv (fun (u9 : Int × Int × Int × Int × (Nat → Int) × (Nat → Int) × (Nat → Int32) × (Nat → Int32)) => match u9 with | (b1, r1, sy1, di1, fl1, fs1, fk1, fq1) => (∀ k : Nat, 0 ≤ fl1 k ∧ fl1 k ≤ 15) ∧ (∀ k : Nat, 0 ≤ fs1 k ∧ fs1 k ≤ 15) ∧ (zOr fT (fDa nw.toNat + fPk nw.toNat).toNat (8 * fDa nw.toNat + bt) (8 * fDa nw.toNat + b1) r1 sy1 di1 fl1 fk1) ∧ 0 ≤ sy1 ∧ 0 ≤ di1 ∧ sy1 + di1 ≤ 320 ∧ bt ≤ b1 ∧ b1 ≤ 8 * fPk nw.toNat ∧ (-2147483648 ≤ r1 ∧ r1 ≤ 2147483647) ∧ 0 ≤ r1 ∧ r1 ≤ 100) (fun u9 t => zB D ((fun (u9 : Int × Int × Int × Int × (Nat → Int) × (Nat → Int) × (Nat → Int32) × (Nat → Int32)) => match u9 with | (b1, r1, sy1, di1, fl1, fs1, fk1, fq1) => [(qm, .inr (8, [.ref qT, .int (iI len), .int (iI op), .int (iI fp), .int (iI bu), .int (iI ra), .int (iI en), .ref qMe, .ref qPk, .ref qSz, .ref qSu, .ref qDa, .ref qLo, .ref qLe, .ref qNa, .ref qNs, .ref qSt, .ref qSa, .ref qCo, .ref qWr, .int (iI to), .int (iI nw), .int (iI b1), .int (iI r1), .ref qLn, .ref qSm, .ref qCd, .ref qSc, .int (iI sy1), .int (iI di1), .int (iI th)])), (qT, .inl (cT, 20000, .inl fT)), (qPk, .inl (cPk, 64, .inr (.inl (fun k => lI (fPk k))))), (qDa, .inl (cDa, 64, .inl (fun k => iI (fDa k)))), (qLn, .inl (cLn, 320, .inl (fun k => iI (fl1 k)))), (qSm, .inl (cSm, 19, .inl (fun k => iI (fs1 k)))), (qCd, .inl (cCd, 320, .inl fk1)), (qSc, .inl (cSc, 19, .inl fq1))]) u9) ((fun (u9 : Int × Int × Int × Int × (Nat → Int) × (Nat → Int) × (Nat → Int32) × (Nat → Int32)) => match u9 with | (b1, r1, sy1, di1, fl1, fs1, fk1, fq1) => [(cT, .byte), (cPk, .long), (cDa, .int), (cLn, .int), (cSm, .int), (cCd, .int), (cSc, .int)]) u9) (va_A [(qm, .inr (8, [.ref qT, .int (iI len), .int (iI op), .int (iI fp), .int (iI bu), .int (iI ra), .int (iI en), .ref qMe, .ref qPk, .ref qSz, .ref qSu, .ref qDa, .ref qLo, .ref qLe, .ref qNa, .ref qNs, .ref qSt, .ref qSa, .ref qCo, .ref qWr, .int (iI to), .int (iI nw), .int (iI bt), .int (iI rf), .ref qLn, .ref qSm, .ref qCd, .ref qSc, .int (iI sy), .int (iI di), .int (iI th)])), (qT, .inl (cT, 20000, .inl fT)), (qPk, .inl (cPk, 64, .inr (.inl (fun k => lI (fPk k))))), (qDa, .inl (cDa, 64, .inl (fun k => iI (fDa k)))), (qLn, .inl (cLn, 320, .inl (fun k => iI (fLn k)))), (qSm, .inl (cSm, 19, .inl (fun k => iI (fSm k)))), (qCd, .inl (cCd, 320, .inl fCd)), (qSc, .inl (cSc, 19, .inl fSc))] sz) t) (va_A [(qm, .inr (8, [.ref qT, .int (iI len), .int (iI op), .int (iI fp), .int (iI bu), .int (iI ra), .int (iI en), .ref qMe, .ref qPk, .ref qSz, .ref qSu, .ref qDa, .ref qLo, .ref qLe, .ref qNa, .ref qNs, .ref qSt, .ref qSa, .ref qCo, .ref qWr, .int (iI to), .int (iI nw), .int (iI bt), .int (iI rf), .ref qLn, .ref qSm, .ref qCd, .ref qSc, .int (iI sy), .int (iI di), .int (iI th)])), (qT, .inl (cT, 20000, .inl fT)), (qPk, .inl (cPk, 64, .inr (.inl (fun k => lI (fPk k))))), (qDa, .inl (cDa, 64, .inl (fun k => iI (fDa k)))), (qLn, .inl (cLn, 320, .inl (fun k => iI (fLn k)))), (qSm, .inl (cSm, 19, .inl (fun k => iI (fSm k)))), (qCd, .inl (cCd, 320, .inl fCd)), (qSc, .inl (cSc, 19, .inl fSc))] sz)) 0 0 (va_A [(qm, .inr (8, [.ref qT, .int (iI len), .int (iI op), .int (iI fp), .int (iI bu), .int (iI ra), .int (iI en), .ref qMe, .ref qPk, .ref qSz, .ref qSu, .ref qDa, .ref qLo, .ref qLe, .ref qNa, .ref qNs, .ref qSt, .ref qSa, .ref qCo, .ref qWr, .int (iI to), .int (iI nw), .int (iI bt), .int (iI rf), .ref qLn, .ref qSm, .ref qCd, .ref qSc, .int (iI sy), .int (iI di), .int (iI th)])), (qT, .inl (cT, 20000, .inl fT)), (qPk, .inl (cPk, 64, .inr (.inl (fun k => lI (fPk k))))), (qDa, .inl (cDa, 64, .inl (fun k => iI (fDa k)))), (qLn, .inl (cLn, 320, .inl (fun k => iI (fLn k)))), (qSm, .inl (cSm, 19, .inl (fun k => iI (fSm k)))), (qCd, .inl (cCd, 320, .inl fCd)), (qSc, .inl (cSc, 19, .inl fSc))] sz) :=
  zMet (Qf := fun A => va_Qv (fun (u9 : Int × Int × Int × Int × (Nat → Int) × (Nat → Int) × (Nat → Int32) × (Nat → Int32)) => match u9 with | (b1, r1, sy1, di1, fl1, fs1, fk1, fq1) => (∀ k : Nat, 0 ≤ fl1 k ∧ fl1 k ≤ 15) ∧ (∀ k : Nat, 0 ≤ fs1 k ∧ fs1 k ≤ 15) ∧ (zOr fT (fDa nw.toNat + fPk nw.toNat).toNat (8 * fDa nw.toNat + bt) (8 * fDa nw.toNat + b1) r1 sy1 di1 fl1 fk1) ∧ 0 ≤ sy1 ∧ 0 ≤ di1 ∧ sy1 + di1 ≤ 320 ∧ bt ≤ b1 ∧ b1 ≤ 8 * fPk nw.toNat ∧ (-2147483648 ≤ r1 ∧ r1 ≤ 2147483647) ∧ 0 ≤ r1 ∧ r1 ≤ 100) (fun u9 t => zB D ((fun (u9 : Int × Int × Int × Int × (Nat → Int) × (Nat → Int) × (Nat → Int32) × (Nat → Int32)) => match u9 with | (b1, r1, sy1, di1, fl1, fs1, fk1, fq1) => [(qm, .inr (8, [.ref qT, .int (iI len), .int (iI op), .int (iI fp), .int (iI bu), .int (iI ra), .int (iI en), .ref qMe, .ref qPk, .ref qSz, .ref qSu, .ref qDa, .ref qLo, .ref qLe, .ref qNa, .ref qNs, .ref qSt, .ref qSa, .ref qCo, .ref qWr, .int (iI to), .int (iI nw), .int (iI b1), .int (iI r1), .ref qLn, .ref qSm, .ref qCd, .ref qSc, .int (iI sy1), .int (iI di1), .int (iI th)])), (qT, .inl (cT, 20000, .inl fT)), (qPk, .inl (cPk, 64, .inr (.inl (fun k => lI (fPk k))))), (qDa, .inl (cDa, 64, .inl (fun k => iI (fDa k)))), (qLn, .inl (cLn, 320, .inl (fun k => iI (fl1 k)))), (qSm, .inl (cSm, 19, .inl (fun k => iI (fs1 k)))), (qCd, .inl (cCd, 320, .inl fk1)), (qSc, .inl (cSc, 19, .inl fq1))]) u9) ((fun (u9 : Int × Int × Int × Int × (Nat → Int) × (Nat → Int) × (Nat → Int32) × (Nat → Int32)) => match u9 with | (b1, r1, sy1, di1, fl1, fs1, fk1, fq1) => [(cT, .byte), (cPk, .long), (cDa, .int), (cLn, .int), (cSm, .int), (cCd, .int), (cSc, .int)]) u9) A t) A) (by decide) (Nat.le_of_ble_eq_true rfl) (fun p e s m below meth c A ls hx hb hr hml hown ht hlk hnm hA hK hP hD hX hl => by
    have hS : va_S A s.heap s.heap [] := va_S.rf
    have hl : lv_has ls 8 [(0, .ref qm)] := hl
    have hz2 : zp 2 = 4 := by decide
    have hz3 : zp 3 = 8 := by decide
    have hz4 : zp 4 = 16 := by decide
    have hz5 : zp 5 = 32 := by decide
    have hz7 : zp 7 = 128 := by decide
    refine lv_aload_n hx hb d_M_readCodes_0 rfl (lv_at hl 0 rfl) ?_
    refine lv_aload_n hx hb d_M_readCodes_1 rfl (lv_at hl 0 rfl) ?_
    refine lv_iconst (v := iI 5) hx hb d_M_readCodes_2 (by decide) ?_
    refine zji (wr := [(qLn, .inl (cLn, 320, .inl (fun k => iI (fLn k)))), (qSm, .inl (cSm, 19, .inl (fun k => iI (fSm k)))), (qCd, .inl (cCd, 320, .inl fCd)), (qSc, .inl (cSc, 19, .inl fSc))]) (va_runV (As := [.int (iI 5)]) (rest := [.ref qm]) ⟨hx, hb, hml, hown, ht⟩ (m_bits l D _ qm qT len op fp bu ra en qMe qPk qSz qSu qDa qLo qLe qNa qNs qSt qSa qCo qWr to nw bt rf qLn qSm qCd qSc sy di th cT fT cPk fPk cDa fDa 5 (by omega) (by omega) (by omega) (by omega) (by omega) (by omega)) (cwV 1 ht (zt_goodV zm_962 zm_963 zm_51 zm_79 zm_964) rfl rfl rfl (by decide +kernel) ⟨Nat.le_of_ble_eq_true rfl, Nat.le_of_ble_eq_true rfl⟩) (zpreV zBlind_t hK hP hD [0, 1, 2, 3] [0, 1, 2] rfl (by decide) rfl (fun _ _ _ => trivial) (va_recv (q := ("ZipGuardModel", F_M, 31)) hK hP rfl (q0 := 0) (ci := 8) rfl)) rfl rfl hl.1 rfl (lv_room (Nat.le_of_ble_eq_true rfl)) d_M_readCodes_3 ⟨Nat.le_of_ble_eq_true rfl, Nat.le_of_ble_eq_true rfl⟩) hK hP hD hS hA [0, 1, 2, 3] [4, 5, 6, 7] rfl rfl (by decide) (by decide) (fun r4 u9 H locs hp5 hP hD hK hS => ?_)
    obtain ⟨b_1, r_2, x_3⟩ := u9
    dsimp only at hp5 hP hD hK
    have hP : va_P D zcl [(qLn, .inl (cLn, 320, .inl (fun k => iI (fLn k)))), (qSm, .inl (cSm, 19, .inl (fun k => iI (fSm k)))), (qCd, .inl (cCd, 320, .inl fCd)), (qSc, .inl (cSc, 19, .inl fSc)), (qm, .inr (8, [.ref qT, .int (iI len), .int (iI op), .int (iI fp), .int (iI bu), .int (iI ra), .int (iI en), .ref qMe, .ref qPk, .ref qSz, .ref qSu, .ref qDa, .ref qLo, .ref qLe, .ref qNa, .ref qNs, .ref qSt, .ref qSa, .ref qCo, .ref qWr, .int (iI to), .int (iI nw), .int (iI b_1), .int (iI r_2), .ref qLn, .ref qSm, .ref qCd, .ref qSc, .int (iI sy), .int (iI di), .int (iI th)])), (qT, .inl (cT, 20000, .inl fT)), (qPk, .inl (cPk, 64, .inr (.inl (fun k => lI (fPk k))))), (qDa, .inl (cDa, 64, .inl (fun k => iI (fDa k))))] H := hP
    have hD : va_D A [(qLn, .inl (cLn, 320, .inl (fun k => iI (fLn k)))), (qSm, .inl (cSm, 19, .inl (fun k => iI (fSm k)))), (qCd, .inl (cCd, 320, .inl fCd)), (qSc, .inl (cSc, 19, .inl fSc)), (qm, .inr (8, [.ref qT, .int (iI len), .int (iI op), .int (iI fp), .int (iI bu), .int (iI ra), .int (iI en), .ref qMe, .ref qPk, .ref qSz, .ref qSu, .ref qDa, .ref qLo, .ref qLe, .ref qNa, .ref qNs, .ref qSt, .ref qSa, .ref qCo, .ref qWr, .int (iI to), .int (iI nw), .int (iI b_1), .int (iI r_2), .ref qLn, .ref qSm, .ref qCd, .ref qSc, .int (iI sy), .int (iI di), .int (iI th)])), (qT, .inl (cT, 20000, .inl fT)), (qPk, .inl (cPk, 64, .inr (.inl (fun k => lI (fPk k))))), (qDa, .inl (cDa, 64, .inl (fun k => iI (fDa k))))] := hD
    have hK : va_K D zcl [(cT, .byte), (cPk, .long), (cDa, .int), (cLn, .int), (cSm, .int), (cCd, .int), (cSc, .int), (cT, .byte), (cPk, .long), (cDa, .int)] s := hK
    obtain ⟨he_6, hp5⟩ := hp5
    subst he_6
    have hP := hP.sub (ws' := [(qm, .inr (8, [.ref qT, .int (iI len), .int (iI op), .int (iI fp), .int (iI bu), .int (iI ra), .int (iI en), .ref qMe, .ref qPk, .ref qSz, .ref qSu, .ref qDa, .ref qLo, .ref qLe, .ref qNa, .ref qNs, .ref qSt, .ref qSa, .ref qCo, .ref qWr, .int (iI to), .int (iI nw), .int (iI b_1), .int (iI r_2), .ref qLn, .ref qSm, .ref qCd, .ref qSc, .int (iI sy), .int (iI di), .int (iI th)])), (qT, .inl (cT, 20000, .inl fT)), (qPk, .inl (cPk, 64, .inr (.inl (fun k => lI (fPk k))))), (qDa, .inl (cDa, 64, .inl (fun k => iI (fDa k)))), (qLn, .inl (cLn, 320, .inl (fun k => iI (fLn k)))), (qSm, .inl (cSm, 19, .inl (fun k => iI (fSm k)))), (qCd, .inl (cCd, 320, .inl fCd)), (qSc, .inl (cSc, 19, .inl fSc))]) [4, 5, 6, 7, 0, 1, 2, 3] rfl
    have hD := hD.sub (ws' := [(qm, .inr (8, [.ref qT, .int (iI len), .int (iI op), .int (iI fp), .int (iI bu), .int (iI ra), .int (iI en), .ref qMe, .ref qPk, .ref qSz, .ref qSu, .ref qDa, .ref qLo, .ref qLe, .ref qNa, .ref qNs, .ref qSt, .ref qSa, .ref qCo, .ref qWr, .int (iI to), .int (iI nw), .int (iI b_1), .int (iI r_2), .ref qLn, .ref qSm, .ref qCd, .ref qSc, .int (iI sy), .int (iI di), .int (iI th)])), (qT, .inl (cT, 20000, .inl fT)), (qPk, .inl (cPk, 64, .inr (.inl (fun k => lI (fPk k))))), (qDa, .inl (cDa, 64, .inl (fun k => iI (fDa k)))), (qLn, .inl (cLn, 320, .inl (fun k => iI (fLn k)))), (qSm, .inl (cSm, 19, .inl (fun k => iI (fSm k)))), (qCd, .inl (cCd, 320, .inl fCd)), (qSc, .inl (cSc, 19, .inl fSc))]) [4, 5, 6, 7, 0, 1, 2, 3] (by decide) rfl
    have hK := hK.sub (tys' := [(cT, .byte), (cPk, .long), (cDa, .int), (cLn, .int), (cSm, .int), (cCd, .int), (cSc, .int)]) [0, 1, 2, 3, 4, 5, 6] rfl
    refine lv_sipush (v := iI 257) hx hb d_M_readCodes_6 (by decide) ?_
    refine zv_iadd (z := x_3 + 257) hx hb d_M_readCodes_9 (by omega) ?_
    refine va_put (ci := 8) (v := .int (iI (x_3 + 257))) (ty := .int) (C := "ZipGuardModel") (T := F_M) (N := 31) hx hb ht zi_M ty_M tk_M nm_M hown hK hP hD hS 0 rfl rfl 28 (by decide) (ht _ zm_780) (fun _ h9 => h9) rfl (by decide +kernel) rfl rfl (Nat.le_of_ble_eq_true rfl) d_M_readCodes_10 (fun H locs hP hD hS => ?_)
    have hP : va_P D zcl [(qm, .inr (8, [.ref qT, .int (iI len), .int (iI op), .int (iI fp), .int (iI bu), .int (iI ra), .int (iI en), .ref qMe, .ref qPk, .ref qSz, .ref qSu, .ref qDa, .ref qLo, .ref qLe, .ref qNa, .ref qNs, .ref qSt, .ref qSa, .ref qCo, .ref qWr, .int (iI to), .int (iI nw), .int (iI b_1), .int (iI r_2), .ref qLn, .ref qSm, .ref qCd, .ref qSc, .int (iI (x_3 + 257)), .int (iI di), .int (iI th)])), (qT, .inl (cT, 20000, .inl fT)), (qPk, .inl (cPk, 64, .inr (.inl (fun k => lI (fPk k))))), (qDa, .inl (cDa, 64, .inl (fun k => iI (fDa k)))), (qLn, .inl (cLn, 320, .inl (fun k => iI (fLn k)))), (qSm, .inl (cSm, 19, .inl (fun k => iI (fSm k)))), (qCd, .inl (cCd, 320, .inl fCd)), (qSc, .inl (cSc, 19, .inl fSc))] H := hP
    have hD : va_D A [(qm, .inr (8, [.ref qT, .int (iI len), .int (iI op), .int (iI fp), .int (iI bu), .int (iI ra), .int (iI en), .ref qMe, .ref qPk, .ref qSz, .ref qSu, .ref qDa, .ref qLo, .ref qLe, .ref qNa, .ref qNs, .ref qSt, .ref qSa, .ref qCo, .ref qWr, .int (iI to), .int (iI nw), .int (iI b_1), .int (iI r_2), .ref qLn, .ref qSm, .ref qCd, .ref qSc, .int (iI (x_3 + 257)), .int (iI di), .int (iI th)])), (qT, .inl (cT, 20000, .inl fT)), (qPk, .inl (cPk, 64, .inr (.inl (fun k => lI (fPk k))))), (qDa, .inl (cDa, 64, .inl (fun k => iI (fDa k)))), (qLn, .inl (cLn, 320, .inl (fun k => iI (fLn k)))), (qSm, .inl (cSm, 19, .inl (fun k => iI (fSm k)))), (qCd, .inl (cCd, 320, .inl fCd)), (qSc, .inl (cSc, 19, .inl fSc))] := hD
    refine lv_aload_n hx hb d_M_readCodes_13 rfl (lv_at hl 0 rfl) ?_
    refine lv_aload_n hx hb d_M_readCodes_14 rfl (lv_at hl 0 rfl) ?_
    refine lv_iconst (v := iI 5) hx hb d_M_readCodes_15 (by decide) ?_
    refine zji (wr := [(qLn, .inl (cLn, 320, .inl (fun k => iI (fLn k)))), (qSm, .inl (cSm, 19, .inl (fun k => iI (fSm k)))), (qCd, .inl (cCd, 320, .inl fCd)), (qSc, .inl (cSc, 19, .inl fSc))]) (va_runV (As := [.int (iI 5)]) (rest := [.ref qm]) ⟨hx, hb, hml, hown, ht⟩ (m_bits l D _ qm qT len op fp bu ra en qMe qPk qSz qSu qDa qLo qLe qNa qNs qSt qSa qCo qWr to nw b_1 r_2 qLn qSm qCd qSc (x_3 + 257) di th cT fT cPk fPk cDa fDa 5 (by omega) (by omega) (by omega) (by omega) (by omega) (by omega)) (cwV 1 ht (zt_goodV zm_962 zm_963 zm_51 zm_79 zm_964) rfl rfl rfl (by decide +kernel) ⟨Nat.le_of_ble_eq_true rfl, Nat.le_of_ble_eq_true rfl⟩) (zpreV zBlind_t hK hP hD [0, 1, 2, 3] [0, 1, 2] rfl (by decide) rfl (fun _ _ _ => trivial) (va_recv (q := ("ZipGuardModel", F_M, 31)) hK hP rfl (q0 := 0) (ci := 8) rfl)) rfl rfl hl.1 rfl (lv_room (Nat.le_of_ble_eq_true rfl)) d_M_readCodes_16 ⟨Nat.le_of_ble_eq_true rfl, Nat.le_of_ble_eq_true rfl⟩) hK hP hD hS hA [0, 1, 2, 3] [4, 5, 6, 7] rfl rfl (by decide) (by decide) (fun r10 u9 H locs hp11 hP hD hK hS => ?_)
    obtain ⟨b_7, r_8, x_9⟩ := u9
    dsimp only at hp11 hP hD hK
    have hP : va_P D zcl [(qLn, .inl (cLn, 320, .inl (fun k => iI (fLn k)))), (qSm, .inl (cSm, 19, .inl (fun k => iI (fSm k)))), (qCd, .inl (cCd, 320, .inl fCd)), (qSc, .inl (cSc, 19, .inl fSc)), (qm, .inr (8, [.ref qT, .int (iI len), .int (iI op), .int (iI fp), .int (iI bu), .int (iI ra), .int (iI en), .ref qMe, .ref qPk, .ref qSz, .ref qSu, .ref qDa, .ref qLo, .ref qLe, .ref qNa, .ref qNs, .ref qSt, .ref qSa, .ref qCo, .ref qWr, .int (iI to), .int (iI nw), .int (iI b_7), .int (iI r_8), .ref qLn, .ref qSm, .ref qCd, .ref qSc, .int (iI (x_3 + 257)), .int (iI di), .int (iI th)])), (qT, .inl (cT, 20000, .inl fT)), (qPk, .inl (cPk, 64, .inr (.inl (fun k => lI (fPk k))))), (qDa, .inl (cDa, 64, .inl (fun k => iI (fDa k))))] H := hP
    have hD : va_D A [(qLn, .inl (cLn, 320, .inl (fun k => iI (fLn k)))), (qSm, .inl (cSm, 19, .inl (fun k => iI (fSm k)))), (qCd, .inl (cCd, 320, .inl fCd)), (qSc, .inl (cSc, 19, .inl fSc)), (qm, .inr (8, [.ref qT, .int (iI len), .int (iI op), .int (iI fp), .int (iI bu), .int (iI ra), .int (iI en), .ref qMe, .ref qPk, .ref qSz, .ref qSu, .ref qDa, .ref qLo, .ref qLe, .ref qNa, .ref qNs, .ref qSt, .ref qSa, .ref qCo, .ref qWr, .int (iI to), .int (iI nw), .int (iI b_7), .int (iI r_8), .ref qLn, .ref qSm, .ref qCd, .ref qSc, .int (iI (x_3 + 257)), .int (iI di), .int (iI th)])), (qT, .inl (cT, 20000, .inl fT)), (qPk, .inl (cPk, 64, .inr (.inl (fun k => lI (fPk k))))), (qDa, .inl (cDa, 64, .inl (fun k => iI (fDa k))))] := hD
    have hK : va_K D zcl [(cT, .byte), (cPk, .long), (cDa, .int), (cLn, .int), (cSm, .int), (cCd, .int), (cSc, .int), (cT, .byte), (cPk, .long), (cDa, .int)] s := hK
    obtain ⟨he_12, hp11⟩ := hp11
    subst he_12
    have hP := hP.sub (ws' := [(qm, .inr (8, [.ref qT, .int (iI len), .int (iI op), .int (iI fp), .int (iI bu), .int (iI ra), .int (iI en), .ref qMe, .ref qPk, .ref qSz, .ref qSu, .ref qDa, .ref qLo, .ref qLe, .ref qNa, .ref qNs, .ref qSt, .ref qSa, .ref qCo, .ref qWr, .int (iI to), .int (iI nw), .int (iI b_7), .int (iI r_8), .ref qLn, .ref qSm, .ref qCd, .ref qSc, .int (iI (x_3 + 257)), .int (iI di), .int (iI th)])), (qT, .inl (cT, 20000, .inl fT)), (qPk, .inl (cPk, 64, .inr (.inl (fun k => lI (fPk k))))), (qDa, .inl (cDa, 64, .inl (fun k => iI (fDa k)))), (qLn, .inl (cLn, 320, .inl (fun k => iI (fLn k)))), (qSm, .inl (cSm, 19, .inl (fun k => iI (fSm k)))), (qCd, .inl (cCd, 320, .inl fCd)), (qSc, .inl (cSc, 19, .inl fSc))]) [4, 5, 6, 7, 0, 1, 2, 3] rfl
    have hD := hD.sub (ws' := [(qm, .inr (8, [.ref qT, .int (iI len), .int (iI op), .int (iI fp), .int (iI bu), .int (iI ra), .int (iI en), .ref qMe, .ref qPk, .ref qSz, .ref qSu, .ref qDa, .ref qLo, .ref qLe, .ref qNa, .ref qNs, .ref qSt, .ref qSa, .ref qCo, .ref qWr, .int (iI to), .int (iI nw), .int (iI b_7), .int (iI r_8), .ref qLn, .ref qSm, .ref qCd, .ref qSc, .int (iI (x_3 + 257)), .int (iI di), .int (iI th)])), (qT, .inl (cT, 20000, .inl fT)), (qPk, .inl (cPk, 64, .inr (.inl (fun k => lI (fPk k))))), (qDa, .inl (cDa, 64, .inl (fun k => iI (fDa k)))), (qLn, .inl (cLn, 320, .inl (fun k => iI (fLn k)))), (qSm, .inl (cSm, 19, .inl (fun k => iI (fSm k)))), (qCd, .inl (cCd, 320, .inl fCd)), (qSc, .inl (cSc, 19, .inl fSc))]) [4, 5, 6, 7, 0, 1, 2, 3] (by decide) rfl
    have hK := hK.sub (tys' := [(cT, .byte), (cPk, .long), (cDa, .int), (cLn, .int), (cSm, .int), (cCd, .int), (cSc, .int)]) [0, 1, 2, 3, 4, 5, 6] rfl
    refine lv_iconst (v := iI 1) hx hb d_M_readCodes_19 (by decide) ?_
    refine zv_iadd (z := x_9 + 1) hx hb d_M_readCodes_20 (by omega) ?_
    refine va_put (ci := 8) (v := .int (iI (x_9 + 1))) (ty := .int) (C := "ZipGuardModel") (T := F_M) (N := 31) hx hb ht zi_M ty_M tk_M nm_M hown hK hP hD hS 0 rfl rfl 29 (by decide) (ht _ zm_781) (fun _ h9 => h9) rfl (by decide +kernel) rfl rfl (Nat.le_of_ble_eq_true rfl) d_M_readCodes_21 (fun H locs hP hD hS => ?_)
    have hP : va_P D zcl [(qm, .inr (8, [.ref qT, .int (iI len), .int (iI op), .int (iI fp), .int (iI bu), .int (iI ra), .int (iI en), .ref qMe, .ref qPk, .ref qSz, .ref qSu, .ref qDa, .ref qLo, .ref qLe, .ref qNa, .ref qNs, .ref qSt, .ref qSa, .ref qCo, .ref qWr, .int (iI to), .int (iI nw), .int (iI b_7), .int (iI r_8), .ref qLn, .ref qSm, .ref qCd, .ref qSc, .int (iI (x_3 + 257)), .int (iI (x_9 + 1)), .int (iI th)])), (qT, .inl (cT, 20000, .inl fT)), (qPk, .inl (cPk, 64, .inr (.inl (fun k => lI (fPk k))))), (qDa, .inl (cDa, 64, .inl (fun k => iI (fDa k)))), (qLn, .inl (cLn, 320, .inl (fun k => iI (fLn k)))), (qSm, .inl (cSm, 19, .inl (fun k => iI (fSm k)))), (qCd, .inl (cCd, 320, .inl fCd)), (qSc, .inl (cSc, 19, .inl fSc))] H := hP
    have hD : va_D A [(qm, .inr (8, [.ref qT, .int (iI len), .int (iI op), .int (iI fp), .int (iI bu), .int (iI ra), .int (iI en), .ref qMe, .ref qPk, .ref qSz, .ref qSu, .ref qDa, .ref qLo, .ref qLe, .ref qNa, .ref qNs, .ref qSt, .ref qSa, .ref qCo, .ref qWr, .int (iI to), .int (iI nw), .int (iI b_7), .int (iI r_8), .ref qLn, .ref qSm, .ref qCd, .ref qSc, .int (iI (x_3 + 257)), .int (iI (x_9 + 1)), .int (iI th)])), (qT, .inl (cT, 20000, .inl fT)), (qPk, .inl (cPk, 64, .inr (.inl (fun k => lI (fPk k))))), (qDa, .inl (cDa, 64, .inl (fun k => iI (fDa k)))), (qLn, .inl (cLn, 320, .inl (fun k => iI (fLn k)))), (qSm, .inl (cSm, 19, .inl (fun k => iI (fSm k)))), (qCd, .inl (cCd, 320, .inl fCd)), (qSc, .inl (cSc, 19, .inl fSc))] := hD
    refine lv_aload_n hx hb d_M_readCodes_24 rfl (lv_at hl 0 rfl) ?_
    refine lv_iconst (v := iI 4) hx hb d_M_readCodes_25 (by decide) ?_
    refine zji (wr := [(qLn, .inl (cLn, 320, .inl (fun k => iI (fLn k)))), (qSm, .inl (cSm, 19, .inl (fun k => iI (fSm k)))), (qCd, .inl (cCd, 320, .inl fCd)), (qSc, .inl (cSc, 19, .inl fSc))]) (va_runV (As := [.int (iI 4)]) (rest := []) ⟨hx, hb, hml, hown, ht⟩ (m_bits l D _ qm qT len op fp bu ra en qMe qPk qSz qSu qDa qLo qLe qNa qNs qSt qSa qCo qWr to nw b_7 r_8 qLn qSm qCd qSc (x_3 + 257) (x_9 + 1) th cT fT cPk fPk cDa fDa 4 (by omega) (by omega) (by omega) (by omega) (by omega) (by omega)) (cwV 1 ht (zt_goodV zm_962 zm_963 zm_51 zm_79 zm_964) rfl rfl rfl (by decide +kernel) ⟨Nat.le_of_ble_eq_true rfl, Nat.le_of_ble_eq_true rfl⟩) (zpreV zBlind_t hK hP hD [0, 1, 2, 3] [0, 1, 2] rfl (by decide) rfl (fun _ _ _ => trivial) (va_recv (q := ("ZipGuardModel", F_M, 31)) hK hP rfl (q0 := 0) (ci := 8) rfl)) rfl rfl hl.1 rfl (lv_room (Nat.le_of_ble_eq_true rfl)) d_M_readCodes_26 ⟨Nat.le_of_ble_eq_true rfl, Nat.le_of_ble_eq_true rfl⟩) hK hP hD hS hA [0, 1, 2, 3] [4, 5, 6, 7] rfl rfl (by decide) (by decide) (fun r16 u9 H locs hp17 hP hD hK hS => ?_)
    obtain ⟨b_13, r_14, x_15⟩ := u9
    dsimp only at hp17 hP hD hK
    have hP : va_P D zcl [(qLn, .inl (cLn, 320, .inl (fun k => iI (fLn k)))), (qSm, .inl (cSm, 19, .inl (fun k => iI (fSm k)))), (qCd, .inl (cCd, 320, .inl fCd)), (qSc, .inl (cSc, 19, .inl fSc)), (qm, .inr (8, [.ref qT, .int (iI len), .int (iI op), .int (iI fp), .int (iI bu), .int (iI ra), .int (iI en), .ref qMe, .ref qPk, .ref qSz, .ref qSu, .ref qDa, .ref qLo, .ref qLe, .ref qNa, .ref qNs, .ref qSt, .ref qSa, .ref qCo, .ref qWr, .int (iI to), .int (iI nw), .int (iI b_13), .int (iI r_14), .ref qLn, .ref qSm, .ref qCd, .ref qSc, .int (iI (x_3 + 257)), .int (iI (x_9 + 1)), .int (iI th)])), (qT, .inl (cT, 20000, .inl fT)), (qPk, .inl (cPk, 64, .inr (.inl (fun k => lI (fPk k))))), (qDa, .inl (cDa, 64, .inl (fun k => iI (fDa k))))] H := hP
    have hD : va_D A [(qLn, .inl (cLn, 320, .inl (fun k => iI (fLn k)))), (qSm, .inl (cSm, 19, .inl (fun k => iI (fSm k)))), (qCd, .inl (cCd, 320, .inl fCd)), (qSc, .inl (cSc, 19, .inl fSc)), (qm, .inr (8, [.ref qT, .int (iI len), .int (iI op), .int (iI fp), .int (iI bu), .int (iI ra), .int (iI en), .ref qMe, .ref qPk, .ref qSz, .ref qSu, .ref qDa, .ref qLo, .ref qLe, .ref qNa, .ref qNs, .ref qSt, .ref qSa, .ref qCo, .ref qWr, .int (iI to), .int (iI nw), .int (iI b_13), .int (iI r_14), .ref qLn, .ref qSm, .ref qCd, .ref qSc, .int (iI (x_3 + 257)), .int (iI (x_9 + 1)), .int (iI th)])), (qT, .inl (cT, 20000, .inl fT)), (qPk, .inl (cPk, 64, .inr (.inl (fun k => lI (fPk k))))), (qDa, .inl (cDa, 64, .inl (fun k => iI (fDa k))))] := hD
    have hK : va_K D zcl [(cT, .byte), (cPk, .long), (cDa, .int), (cLn, .int), (cSm, .int), (cCd, .int), (cSc, .int), (cT, .byte), (cPk, .long), (cDa, .int)] s := hK
    obtain ⟨he_18, hp17⟩ := hp17
    subst he_18
    have hP := hP.sub (ws' := [(qm, .inr (8, [.ref qT, .int (iI len), .int (iI op), .int (iI fp), .int (iI bu), .int (iI ra), .int (iI en), .ref qMe, .ref qPk, .ref qSz, .ref qSu, .ref qDa, .ref qLo, .ref qLe, .ref qNa, .ref qNs, .ref qSt, .ref qSa, .ref qCo, .ref qWr, .int (iI to), .int (iI nw), .int (iI b_13), .int (iI r_14), .ref qLn, .ref qSm, .ref qCd, .ref qSc, .int (iI (x_3 + 257)), .int (iI (x_9 + 1)), .int (iI th)])), (qT, .inl (cT, 20000, .inl fT)), (qPk, .inl (cPk, 64, .inr (.inl (fun k => lI (fPk k))))), (qDa, .inl (cDa, 64, .inl (fun k => iI (fDa k)))), (qLn, .inl (cLn, 320, .inl (fun k => iI (fLn k)))), (qSm, .inl (cSm, 19, .inl (fun k => iI (fSm k)))), (qCd, .inl (cCd, 320, .inl fCd)), (qSc, .inl (cSc, 19, .inl fSc))]) [4, 5, 6, 7, 0, 1, 2, 3] rfl
    have hD := hD.sub (ws' := [(qm, .inr (8, [.ref qT, .int (iI len), .int (iI op), .int (iI fp), .int (iI bu), .int (iI ra), .int (iI en), .ref qMe, .ref qPk, .ref qSz, .ref qSu, .ref qDa, .ref qLo, .ref qLe, .ref qNa, .ref qNs, .ref qSt, .ref qSa, .ref qCo, .ref qWr, .int (iI to), .int (iI nw), .int (iI b_13), .int (iI r_14), .ref qLn, .ref qSm, .ref qCd, .ref qSc, .int (iI (x_3 + 257)), .int (iI (x_9 + 1)), .int (iI th)])), (qT, .inl (cT, 20000, .inl fT)), (qPk, .inl (cPk, 64, .inr (.inl (fun k => lI (fPk k))))), (qDa, .inl (cDa, 64, .inl (fun k => iI (fDa k)))), (qLn, .inl (cLn, 320, .inl (fun k => iI (fLn k)))), (qSm, .inl (cSm, 19, .inl (fun k => iI (fSm k)))), (qCd, .inl (cCd, 320, .inl fCd)), (qSc, .inl (cSc, 19, .inl fSc))]) [4, 5, 6, 7, 0, 1, 2, 3] (by decide) rfl
    have hK := hK.sub (tys' := [(cT, .byte), (cPk, .long), (cDa, .int), (cLn, .int), (cSm, .int), (cCd, .int), (cSc, .int)]) [0, 1, 2, 3, 4, 5, 6] rfl
    have hhd := zHd_mk (q3 := 8 * fDa nw.toNat + b_13) (by omega) hr0 hp5.1 hp11.1 hp17.1 (fun h9 => by omega) (fun h9 => by omega) (fun h9 => by omega)
    refine lv_iconst (v := iI 4) hx hb d_M_readCodes_29 (by decide) ?_
    refine zv_iadd (z := x_15 + 4) hx hb d_M_readCodes_30 (by omega) ?_
    refine lv_istore_n (lv' := [(1, .int (iI (x_15 + 4))), (0, .ref qm)]) hx hb d_M_readCodes_31 rfl hl (by decide) rfl (fun ls hl => ?_)
    refine lv_aload_n hx hb d_M_readCodes_32 rfl (lv_at hl 1 rfl) ?_
    refine va_get (ci := 8) (C := "ZipGuardModel") (T := F_M) (N := 31) hx hb ht zi_M hown hK hP 0 rfl rfl 23 (by decide) (ht _ zm_775) (fun _ h9 => h9) rfl d_M_readCodes_33 ?_
    refine zv_if_eq (tgt := 40) hx hb d_M_readCodes_36 (by decide) (by omega) (fun hc_19 => ?_) (fun hc_19 => ?_)
    · skip
      refine lv_aload_n hx hb d_M_readCodes_40 rfl (lv_at hl 1 rfl) ?_
      refine va_get (ci := 8) (C := "ZipGuardModel") (T := F_M) (N := 31) hx hb ht zi_M hown hK hP 0 rfl rfl 28 (by decide) (ht _ zm_780) (fun _ h9 => h9) rfl d_M_readCodes_41 ?_
      refine lv_sipush (v := iI 286) hx hb d_M_readCodes_44 (by decide) ?_
      refine zv_icmp_gt (tgt := 59) hx hb d_M_readCodes_47 (by decide) (by omega) (by omega) (fun hc_20 => ?_) (fun hc_20 => ?_)
      · skip
        refine lv_aload_n hx hb d_M_readCodes_59 rfl (lv_at hl 1 rfl) ?_
        refine lv_bipush (v := iI 32) hx hb d_M_readCodes_60 (by decide) ?_
        refine zji (wr := [(qT, .inl (cT, 20000, .inl fT)), (qPk, .inl (cPk, 64, .inr (.inl (fun k => lI (fPk k))))), (qDa, .inl (cDa, 64, .inl (fun k => iI (fDa k)))), (qLn, .inl (cLn, 320, .inl (fun k => iI (fLn k)))), (qSm, .inl (cSm, 19, .inl (fun k => iI (fSm k)))), (qCd, .inl (cCd, 320, .inl fCd)), (qSc, .inl (cSc, 19, .inl fSc))]) (va_runV (As := [.int (iI 32)]) (rest := []) ⟨hx, hb, hml, hown, ht⟩ (m_refuse l D _ qm qT len op fp bu ra en qMe qPk qSz qSu qDa qLo qLe qNa qNs qSt qSa qCo qWr to nw b_13 r_14 qLn qSm qCd qSc (x_3 + 257) (x_9 + 1) th 32 (by omega)) (cwV 1 ht (zt_goodV zm_965 zm_966 zm_52 zm_79 zm_967) rfl rfl rfl (by decide +kernel) ⟨Nat.le_of_ble_eq_true rfl, Nat.le_of_ble_eq_true rfl⟩) (zpreV zBlind_t hK hP hD [0] [] rfl (by decide) rfl (fun _ _ _ => trivial) (va_recv (q := ("ZipGuardModel", F_M, 31)) hK hP rfl (q0 := 0) (ci := 8) rfl)) rfl rfl hl.1 rfl (lv_room (Nat.le_of_ble_eq_true rfl)) d_M_readCodes_62 ⟨Nat.le_of_ble_eq_true rfl, Nat.le_of_ble_eq_true rfl⟩) hK hP hD hS hA [0] [1, 2, 3, 4, 5, 6, 7] rfl rfl (by decide) (by decide) (fun r22 u9 H locs hp23 hP hD hK hS => ?_)
        obtain ⟨r_21, rfl⟩ : ∃ z, z = u9 := ⟨u9, rfl⟩
        dsimp only at hp23 hP hD hK
        have hP : va_P D zcl [(qT, .inl (cT, 20000, .inl fT)), (qPk, .inl (cPk, 64, .inr (.inl (fun k => lI (fPk k))))), (qDa, .inl (cDa, 64, .inl (fun k => iI (fDa k)))), (qLn, .inl (cLn, 320, .inl (fun k => iI (fLn k)))), (qSm, .inl (cSm, 19, .inl (fun k => iI (fSm k)))), (qCd, .inl (cCd, 320, .inl fCd)), (qSc, .inl (cSc, 19, .inl fSc)), (qm, .inr (8, [.ref qT, .int (iI len), .int (iI op), .int (iI fp), .int (iI bu), .int (iI ra), .int (iI en), .ref qMe, .ref qPk, .ref qSz, .ref qSu, .ref qDa, .ref qLo, .ref qLe, .ref qNa, .ref qNs, .ref qSt, .ref qSa, .ref qCo, .ref qWr, .int (iI to), .int (iI nw), .int (iI b_13), .int (iI r_21), .ref qLn, .ref qSm, .ref qCd, .ref qSc, .int (iI (x_3 + 257)), .int (iI (x_9 + 1)), .int (iI th)]))] H := hP
        have hD : va_D A [(qT, .inl (cT, 20000, .inl fT)), (qPk, .inl (cPk, 64, .inr (.inl (fun k => lI (fPk k))))), (qDa, .inl (cDa, 64, .inl (fun k => iI (fDa k)))), (qLn, .inl (cLn, 320, .inl (fun k => iI (fLn k)))), (qSm, .inl (cSm, 19, .inl (fun k => iI (fSm k)))), (qCd, .inl (cCd, 320, .inl fCd)), (qSc, .inl (cSc, 19, .inl fSc)), (qm, .inr (8, [.ref qT, .int (iI len), .int (iI op), .int (iI fp), .int (iI bu), .int (iI ra), .int (iI en), .ref qMe, .ref qPk, .ref qSz, .ref qSu, .ref qDa, .ref qLo, .ref qLe, .ref qNa, .ref qNs, .ref qSt, .ref qSa, .ref qCo, .ref qWr, .int (iI to), .int (iI nw), .int (iI b_13), .int (iI r_21), .ref qLn, .ref qSm, .ref qCd, .ref qSc, .int (iI (x_3 + 257)), .int (iI (x_9 + 1)), .int (iI th)]))] := hD
        have hK : va_K D zcl [(cT, .byte), (cPk, .long), (cDa, .int), (cLn, .int), (cSm, .int), (cCd, .int), (cSc, .int)] s := hK
        obtain ⟨he_24, hp23⟩ := hp23
        subst he_24
        have hP := hP.sub (ws' := [(qm, .inr (8, [.ref qT, .int (iI len), .int (iI op), .int (iI fp), .int (iI bu), .int (iI ra), .int (iI en), .ref qMe, .ref qPk, .ref qSz, .ref qSu, .ref qDa, .ref qLo, .ref qLe, .ref qNa, .ref qNs, .ref qSt, .ref qSa, .ref qCo, .ref qWr, .int (iI to), .int (iI nw), .int (iI b_13), .int (iI r_21), .ref qLn, .ref qSm, .ref qCd, .ref qSc, .int (iI (x_3 + 257)), .int (iI (x_9 + 1)), .int (iI th)])), (qT, .inl (cT, 20000, .inl fT)), (qPk, .inl (cPk, 64, .inr (.inl (fun k => lI (fPk k))))), (qDa, .inl (cDa, 64, .inl (fun k => iI (fDa k)))), (qLn, .inl (cLn, 320, .inl (fun k => iI (fLn k)))), (qSm, .inl (cSm, 19, .inl (fun k => iI (fSm k)))), (qCd, .inl (cCd, 320, .inl fCd)), (qSc, .inl (cSc, 19, .inl fSc))]) [7, 0, 1, 2, 3, 4, 5, 6] rfl
        have hD := hD.sub (ws' := [(qm, .inr (8, [.ref qT, .int (iI len), .int (iI op), .int (iI fp), .int (iI bu), .int (iI ra), .int (iI en), .ref qMe, .ref qPk, .ref qSz, .ref qSu, .ref qDa, .ref qLo, .ref qLe, .ref qNa, .ref qNs, .ref qSt, .ref qSa, .ref qCo, .ref qWr, .int (iI to), .int (iI nw), .int (iI b_13), .int (iI r_21), .ref qLn, .ref qSm, .ref qCd, .ref qSc, .int (iI (x_3 + 257)), .int (iI (x_9 + 1)), .int (iI th)])), (qT, .inl (cT, 20000, .inl fT)), (qPk, .inl (cPk, 64, .inr (.inl (fun k => lI (fPk k))))), (qDa, .inl (cDa, 64, .inl (fun k => iI (fDa k)))), (qLn, .inl (cLn, 320, .inl (fun k => iI (fLn k)))), (qSm, .inl (cSm, 19, .inl (fun k => iI (fSm k)))), (qCd, .inl (cCd, 320, .inl fCd)), (qSc, .inl (cSc, 19, .inl fSc))]) [7, 0, 1, 2, 3, 4, 5, 6] (by decide) rfl
        have hK := hK.sub (tys' := [(cT, .byte), (cPk, .long), (cDa, .int), (cLn, .int), (cSm, .int), (cCd, .int), (cSc, .int)]) [0, 1, 2, 3, 4, 5, 6] rfl
        refine lv_pop hx hb d_M_readCodes_65 rfl ?_
        exact zretv hx hb hr hlk hK hP hD hS (b_13, r_21, (x_3 + 257), (x_9 + 1), fLn, fSm, fCd, fSc) [0, 1, 2, 3, 4, 5, 6, 7] [0, 1, 2, 3, 4, 5, 6] rfl (by decide) rfl (⟨hLn, hSm, zOr_32 (E := 8 * (fDa nw.toNat + fPk nw.toNat)) (by omega) (by omega) (by omega) (by omega) (by omega), by omega⟩) (Nat.le_of_ble_eq_true rfl) (Nat.le_of_ble_eq_true rfl) d_M_readCodes_66
      · skip
        refine lv_aload_n hx hb d_M_readCodes_50 rfl (lv_at hl 1 rfl) ?_
        refine va_get (ci := 8) (C := "ZipGuardModel") (T := F_M) (N := 31) hx hb ht zi_M hown hK hP 0 rfl rfl 29 (by decide) (ht _ zm_781) (fun _ h9 => h9) rfl d_M_readCodes_51 ?_
        refine lv_bipush (v := iI 30) hx hb d_M_readCodes_54 (by decide) ?_
        refine zv_icmp_le (tgt := 67) hx hb d_M_readCodes_56 (by decide) (by omega) (by omega) (fun hc_25 => ?_) (fun hc_25 => ?_)
        · skip
          refine lv_iconst (v := iI 0) hx hb d_M_readCodes_67 (by decide) ?_
          refine lv_istore_n (lv' := [(2, .int (iI 0)), (1, .int (iI (x_15 + 4))), (0, .ref qm)]) hx hb d_M_readCodes_68 rfl hl (by decide) rfl (fun ls hl => ?_)
          have lp69 : ∀ (j : Nat) (k : Int) (s2 : Nat → Int) (H : Heap) (locs : List Loc) (ls : Array Slot), (0 ≤ k ∧ k ≤ 19) → (∀ k : Nat, 0 ≤ s2 k ∧ s2 k ≤ 15) → (∀ j : Int, 0 ≤ j → j < k → s2 j.toNat = 0) → (19 - k < (j : Int)) → va_P D zcl [(qm, .inr (8, [.ref qT, .int (iI len), .int (iI op), .int (iI fp), .int (iI bu), .int (iI ra), .int (iI en), .ref qMe, .ref qPk, .ref qSz, .ref qSu, .ref qDa, .ref qLo, .ref qLe, .ref qNa, .ref qNs, .ref qSt, .ref qSa, .ref qCo, .ref qWr, .int (iI to), .int (iI nw), .int (iI b_13), .int (iI r_14), .ref qLn, .ref qSm, .ref qCd, .ref qSc, .int (iI (x_3 + 257)), .int (iI (x_9 + 1)), .int (iI th)])), (qT, .inl (cT, 20000, .inl fT)), (qPk, .inl (cPk, 64, .inr (.inl (fun k => lI (fPk k))))), (qDa, .inl (cDa, 64, .inl (fun k => iI (fDa k)))), (qLn, .inl (cLn, 320, .inl (fun k => iI (fLn k)))), (qSm, .inl (cSm, 19, .inl (fun k => iI (s2 k)))), (qCd, .inl (cCd, 320, .inl fCd)), (qSc, .inl (cSc, 19, .inl fSc))] H → va_D A [(qm, .inr (8, [.ref qT, .int (iI len), .int (iI op), .int (iI fp), .int (iI bu), .int (iI ra), .int (iI en), .ref qMe, .ref qPk, .ref qSz, .ref qSu, .ref qDa, .ref qLo, .ref qLe, .ref qNa, .ref qNs, .ref qSt, .ref qSa, .ref qCo, .ref qWr, .int (iI to), .int (iI nw), .int (iI b_13), .int (iI r_14), .ref qLn, .ref qSm, .ref qCd, .ref qSc, .int (iI (x_3 + 257)), .int (iI (x_9 + 1)), .int (iI th)])), (qT, .inl (cT, 20000, .inl fT)), (qPk, .inl (cPk, 64, .inr (.inl (fun k => lI (fPk k))))), (qDa, .inl (cDa, 64, .inl (fun k => iI (fDa k)))), (qLn, .inl (cLn, 320, .inl (fun k => iI (fLn k)))), (qSm, .inl (cSm, 19, .inl (fun k => iI (s2 k)))), (qCd, .inl (cCd, 320, .inl fCd)), (qSc, .inl (cSc, 19, .inl fSc))] → va_S A s.heap H locs → lv_has ls 8 [(2, .int (iI k)), (1, .int (iI (x_15 + 4))), (0, .ref qm)] → W p l e { frames := 3, cells := 0, slots := 0, locals := 74 } s m [.ref qm].toArray below meth c H locs 0 0 (MQ below ((fun A => va_Qv (fun (u9 : Int × Int × Int × Int × (Nat → Int) × (Nat → Int) × (Nat → Int32) × (Nat → Int32)) => match u9 with | (b1, r1, sy1, di1, fl1, fs1, fk1, fq1) => (∀ k : Nat, 0 ≤ fl1 k ∧ fl1 k ≤ 15) ∧ (∀ k : Nat, 0 ≤ fs1 k ∧ fs1 k ≤ 15) ∧ (zOr fT (fDa nw.toNat + fPk nw.toNat).toNat (8 * fDa nw.toNat + bt) (8 * fDa nw.toNat + b1) r1 sy1 di1 fl1 fk1) ∧ 0 ≤ sy1 ∧ 0 ≤ di1 ∧ sy1 + di1 ≤ 320 ∧ bt ≤ b1 ∧ b1 ≤ 8 * fPk nw.toNat ∧ (-2147483648 ≤ r1 ∧ r1 ≤ 2147483647) ∧ 0 ≤ r1 ∧ r1 ≤ 100) (fun u9 t => zB D ((fun (u9 : Int × Int × Int × Int × (Nat → Int) × (Nat → Int) × (Nat → Int32) × (Nat → Int32)) => match u9 with | (b1, r1, sy1, di1, fl1, fs1, fk1, fq1) => [(qm, .inr (8, [.ref qT, .int (iI len), .int (iI op), .int (iI fp), .int (iI bu), .int (iI ra), .int (iI en), .ref qMe, .ref qPk, .ref qSz, .ref qSu, .ref qDa, .ref qLo, .ref qLe, .ref qNa, .ref qNs, .ref qSt, .ref qSa, .ref qCo, .ref qWr, .int (iI to), .int (iI nw), .int (iI b1), .int (iI r1), .ref qLn, .ref qSm, .ref qCd, .ref qSc, .int (iI sy1), .int (iI di1), .int (iI th)])), (qT, .inl (cT, 20000, .inl fT)), (qPk, .inl (cPk, 64, .inr (.inl (fun k => lI (fPk k))))), (qDa, .inl (cDa, 64, .inl (fun k => iI (fDa k)))), (qLn, .inl (cLn, 320, .inl (fun k => iI (fl1 k)))), (qSm, .inl (cSm, 19, .inl (fun k => iI (fs1 k)))), (qCd, .inl (cCd, 320, .inl fk1)), (qSc, .inl (cSc, 19, .inl fq1))]) u9) ((fun (u9 : Int × Int × Int × Int × (Nat → Int) × (Nat → Int) × (Nat → Int32) × (Nat → Int32)) => match u9 with | (b1, r1, sy1, di1, fl1, fs1, fk1, fq1) => [(cT, .byte), (cPk, .long), (cDa, .int), (cLn, .int), (cSm, .int), (cCd, .int), (cSc, .int)]) u9) A t) A) A) [.ref qm].toArray s 0 0 A) (F0 m 69 ls []) := by
            intro j
            induction j with
            | zero => intro k s2 H locs ls hk1 hs2 hz2 hj69 hP hD hS hl; exfalso; omega
            | succ j ih69 =>
              intro k s2 H locs ls hk1 hs2 hz2 hj69 hP hD hS hl
              refine lv_iload_n hx hb d_M_readCodes_69 rfl (lv_at hl 0 rfl) ?_
              refine lv_bipush (v := iI 19) hx hb d_M_readCodes_70 (by decide) ?_
              refine zv_icmp_ge (tgt := 88) hx hb d_M_readCodes_72 (by decide) (by omega) (by omega) (fun hc_26 => ?_) (fun hc_26 => ?_)
              · skip
                have jn_27 : ∀ (b9 : Int) (r9 : Int) (s9 : Nat → Int) (H : Heap) (locs : List Loc) (ls : Array Slot), (∀ k : Nat, 0 ≤ s9 k ∧ s9 k ≤ 15) → (bt ≤ b9 ∧ b9 ≤ 8 * fPk nw.toNat) → (-2147483648 ≤ r9 ∧ r9 ≤ 2147483647) → (0 ≤ r9 ∧ r9 ≤ 30) → (zSl fT (8 * fDa nw.toNat + b_13) (8 * (fDa nw.toNat + fPk nw.toNat)) (x_15 + 4) (x_15 + 4) (8 * fDa nw.toNat + b9) r9 s9) → va_P D zcl [(qm, .inr (8, [.ref qT, .int (iI len), .int (iI op), .int (iI fp), .int (iI bu), .int (iI ra), .int (iI en), .ref qMe, .ref qPk, .ref qSz, .ref qSu, .ref qDa, .ref qLo, .ref qLe, .ref qNa, .ref qNs, .ref qSt, .ref qSa, .ref qCo, .ref qWr, .int (iI to), .int (iI nw), .int (iI b9), .int (iI r9), .ref qLn, .ref qSm, .ref qCd, .ref qSc, .int (iI (x_3 + 257)), .int (iI (x_9 + 1)), .int (iI th)])), (qT, .inl (cT, 20000, .inl fT)), (qPk, .inl (cPk, 64, .inr (.inl (fun k => lI (fPk k))))), (qDa, .inl (cDa, 64, .inl (fun k => iI (fDa k)))), (qLn, .inl (cLn, 320, .inl (fun k => iI (fLn k)))), (qSm, .inl (cSm, 19, .inl (fun k => iI (s9 k)))), (qCd, .inl (cCd, 320, .inl fCd)), (qSc, .inl (cSc, 19, .inl fSc))] H → va_D A [(qm, .inr (8, [.ref qT, .int (iI len), .int (iI op), .int (iI fp), .int (iI bu), .int (iI ra), .int (iI en), .ref qMe, .ref qPk, .ref qSz, .ref qSu, .ref qDa, .ref qLo, .ref qLe, .ref qNa, .ref qNs, .ref qSt, .ref qSa, .ref qCo, .ref qWr, .int (iI to), .int (iI nw), .int (iI b9), .int (iI r9), .ref qLn, .ref qSm, .ref qCd, .ref qSc, .int (iI (x_3 + 257)), .int (iI (x_9 + 1)), .int (iI th)])), (qT, .inl (cT, 20000, .inl fT)), (qPk, .inl (cPk, 64, .inr (.inl (fun k => lI (fPk k))))), (qDa, .inl (cDa, 64, .inl (fun k => iI (fDa k)))), (qLn, .inl (cLn, 320, .inl (fun k => iI (fLn k)))), (qSm, .inl (cSm, 19, .inl (fun k => iI (s9 k)))), (qCd, .inl (cCd, 320, .inl fCd)), (qSc, .inl (cSc, 19, .inl fSc))] → va_S A s.heap H locs → lv_has ls 8 [(1, .int (iI (x_15 + 4))), (0, .ref qm)] → W p l e { frames := 3, cells := 0, slots := 0, locals := 74 } s m [.ref qm].toArray below meth c H locs 0 0 (MQ below ((fun A => va_Qv (fun (u9 : Int × Int × Int × Int × (Nat → Int) × (Nat → Int) × (Nat → Int32) × (Nat → Int32)) => match u9 with | (b1, r1, sy1, di1, fl1, fs1, fk1, fq1) => (∀ k : Nat, 0 ≤ fl1 k ∧ fl1 k ≤ 15) ∧ (∀ k : Nat, 0 ≤ fs1 k ∧ fs1 k ≤ 15) ∧ (zOr fT (fDa nw.toNat + fPk nw.toNat).toNat (8 * fDa nw.toNat + bt) (8 * fDa nw.toNat + b1) r1 sy1 di1 fl1 fk1) ∧ 0 ≤ sy1 ∧ 0 ≤ di1 ∧ sy1 + di1 ≤ 320 ∧ bt ≤ b1 ∧ b1 ≤ 8 * fPk nw.toNat ∧ (-2147483648 ≤ r1 ∧ r1 ≤ 2147483647) ∧ 0 ≤ r1 ∧ r1 ≤ 100) (fun u9 t => zB D ((fun (u9 : Int × Int × Int × Int × (Nat → Int) × (Nat → Int) × (Nat → Int32) × (Nat → Int32)) => match u9 with | (b1, r1, sy1, di1, fl1, fs1, fk1, fq1) => [(qm, .inr (8, [.ref qT, .int (iI len), .int (iI op), .int (iI fp), .int (iI bu), .int (iI ra), .int (iI en), .ref qMe, .ref qPk, .ref qSz, .ref qSu, .ref qDa, .ref qLo, .ref qLe, .ref qNa, .ref qNs, .ref qSt, .ref qSa, .ref qCo, .ref qWr, .int (iI to), .int (iI nw), .int (iI b1), .int (iI r1), .ref qLn, .ref qSm, .ref qCd, .ref qSc, .int (iI sy1), .int (iI di1), .int (iI th)])), (qT, .inl (cT, 20000, .inl fT)), (qPk, .inl (cPk, 64, .inr (.inl (fun k => lI (fPk k))))), (qDa, .inl (cDa, 64, .inl (fun k => iI (fDa k)))), (qLn, .inl (cLn, 320, .inl (fun k => iI (fl1 k)))), (qSm, .inl (cSm, 19, .inl (fun k => iI (fs1 k)))), (qCd, .inl (cCd, 320, .inl fk1)), (qSc, .inl (cSc, 19, .inl fq1))]) u9) ((fun (u9 : Int × Int × Int × Int × (Nat → Int) × (Nat → Int) × (Nat → Int32) × (Nat → Int32)) => match u9 with | (b1, r1, sy1, di1, fl1, fs1, fk1, fq1) => [(cT, .byte), (cPk, .long), (cDa, .int), (cLn, .int), (cSm, .int), (cCd, .int), (cSc, .int)]) u9) A t) A) A) [.ref qm].toArray s 0 0 A) (F0 m 122 ls []) := by
                  intro b9 r9 s9 H locs ls hs9 hb19 hr19 hr99 hsl9 hP hD hS hl
                  have jn_28 : ∀ (r4 : Int) (H : Heap) (locs : List Loc) (ls : Array Slot), (0 ≤ r4 ∧ r4 ≤ 33) → (r4 = 0 → r9 = 0) → (zLz fT (fDa nw.toNat + fPk nw.toNat).toNat (x_15 + 4) (8 * fDa nw.toNat + b_13) (8 * fDa nw.toNat + b9) r4) → va_P D zcl [(qm, .inr (8, [.ref qT, .int (iI len), .int (iI op), .int (iI fp), .int (iI bu), .int (iI ra), .int (iI en), .ref qMe, .ref qPk, .ref qSz, .ref qSu, .ref qDa, .ref qLo, .ref qLe, .ref qNa, .ref qNs, .ref qSt, .ref qSa, .ref qCo, .ref qWr, .int (iI to), .int (iI nw), .int (iI b9), .int (iI r4), .ref qLn, .ref qSm, .ref qCd, .ref qSc, .int (iI (x_3 + 257)), .int (iI (x_9 + 1)), .int (iI th)])), (qT, .inl (cT, 20000, .inl fT)), (qPk, .inl (cPk, 64, .inr (.inl (fun k => lI (fPk k))))), (qDa, .inl (cDa, 64, .inl (fun k => iI (fDa k)))), (qLn, .inl (cLn, 320, .inl (fun k => iI (fLn k)))), (qSm, .inl (cSm, 19, .inl (fun k => iI (s9 k)))), (qCd, .inl (cCd, 320, .inl fCd)), (qSc, .inl (cSc, 19, .inl fSc))] H → va_D A [(qm, .inr (8, [.ref qT, .int (iI len), .int (iI op), .int (iI fp), .int (iI bu), .int (iI ra), .int (iI en), .ref qMe, .ref qPk, .ref qSz, .ref qSu, .ref qDa, .ref qLo, .ref qLe, .ref qNa, .ref qNs, .ref qSt, .ref qSa, .ref qCo, .ref qWr, .int (iI to), .int (iI nw), .int (iI b9), .int (iI r4), .ref qLn, .ref qSm, .ref qCd, .ref qSc, .int (iI (x_3 + 257)), .int (iI (x_9 + 1)), .int (iI th)])), (qT, .inl (cT, 20000, .inl fT)), (qPk, .inl (cPk, 64, .inr (.inl (fun k => lI (fPk k))))), (qDa, .inl (cDa, 64, .inl (fun k => iI (fDa k)))), (qLn, .inl (cLn, 320, .inl (fun k => iI (fLn k)))), (qSm, .inl (cSm, 19, .inl (fun k => iI (s9 k)))), (qCd, .inl (cCd, 320, .inl fCd)), (qSc, .inl (cSc, 19, .inl fSc))] → va_S A s.heap H locs → lv_has ls 8 [(1, .int (iI (x_15 + 4))), (0, .ref qm)] → W p l e { frames := 3, cells := 0, slots := 0, locals := 74 } s m [.ref qm].toArray below meth c H locs 0 0 (MQ below ((fun A => va_Qv (fun (u9 : Int × Int × Int × Int × (Nat → Int) × (Nat → Int) × (Nat → Int32) × (Nat → Int32)) => match u9 with | (b1, r1, sy1, di1, fl1, fs1, fk1, fq1) => (∀ k : Nat, 0 ≤ fl1 k ∧ fl1 k ≤ 15) ∧ (∀ k : Nat, 0 ≤ fs1 k ∧ fs1 k ≤ 15) ∧ (zOr fT (fDa nw.toNat + fPk nw.toNat).toNat (8 * fDa nw.toNat + bt) (8 * fDa nw.toNat + b1) r1 sy1 di1 fl1 fk1) ∧ 0 ≤ sy1 ∧ 0 ≤ di1 ∧ sy1 + di1 ≤ 320 ∧ bt ≤ b1 ∧ b1 ≤ 8 * fPk nw.toNat ∧ (-2147483648 ≤ r1 ∧ r1 ≤ 2147483647) ∧ 0 ≤ r1 ∧ r1 ≤ 100) (fun u9 t => zB D ((fun (u9 : Int × Int × Int × Int × (Nat → Int) × (Nat → Int) × (Nat → Int32) × (Nat → Int32)) => match u9 with | (b1, r1, sy1, di1, fl1, fs1, fk1, fq1) => [(qm, .inr (8, [.ref qT, .int (iI len), .int (iI op), .int (iI fp), .int (iI bu), .int (iI ra), .int (iI en), .ref qMe, .ref qPk, .ref qSz, .ref qSu, .ref qDa, .ref qLo, .ref qLe, .ref qNa, .ref qNs, .ref qSt, .ref qSa, .ref qCo, .ref qWr, .int (iI to), .int (iI nw), .int (iI b1), .int (iI r1), .ref qLn, .ref qSm, .ref qCd, .ref qSc, .int (iI sy1), .int (iI di1), .int (iI th)])), (qT, .inl (cT, 20000, .inl fT)), (qPk, .inl (cPk, 64, .inr (.inl (fun k => lI (fPk k))))), (qDa, .inl (cDa, 64, .inl (fun k => iI (fDa k)))), (qLn, .inl (cLn, 320, .inl (fun k => iI (fl1 k)))), (qSm, .inl (cSm, 19, .inl (fun k => iI (fs1 k)))), (qCd, .inl (cCd, 320, .inl fk1)), (qSc, .inl (cSc, 19, .inl fq1))]) u9) ((fun (u9 : Int × Int × Int × Int × (Nat → Int) × (Nat → Int) × (Nat → Int32) × (Nat → Int32)) => match u9 with | (b1, r1, sy1, di1, fl1, fs1, fk1, fq1) => [(cT, .byte), (cPk, .long), (cDa, .int), (cLn, .int), (cSm, .int), (cCd, .int), (cSc, .int)]) u9) A t) A) A) [.ref qm].toArray s 0 0 A) (F0 m 150 ls []) := by
                    intro r4 H locs ls hr4 hr94 hlz hP hD hS hl
                    refine lv_aload_n hx hb d_M_readCodes_150 rfl (lv_at hl 1 rfl) ?_
                    refine va_get (ci := 8) (C := "ZipGuardModel") (T := F_M) (N := 31) hx hb ht zi_M hown hK hP 0 rfl rfl 25 (by decide) (ht _ zm_777) (fun _ h9 => h9) rfl d_M_readCodes_151 ?_
                    refine lv_aload_n hx hb d_M_readCodes_154 rfl (lv_at hl 1 rfl) ?_
                    refine va_get (ci := 8) (C := "ZipGuardModel") (T := F_M) (N := 31) hx hb ht zi_M hown hK hP 0 rfl rfl 27 (by decide) (ht _ zm_779) (fun _ h9 => h9) rfl d_M_readCodes_155 ?_
                    refine lv_iconst (v := iI 0) hx hb d_M_readCodes_158 (by decide) ?_
                    refine lv_bipush (v := iI 19) hx hb d_M_readCodes_159 (by decide) ?_
                    refine zjv (wr := [(qm, .inr (8, [.ref qT, .int (iI len), .int (iI op), .int (iI fp), .int (iI bu), .int (iI ra), .int (iI en), .ref qMe, .ref qPk, .ref qSz, .ref qSu, .ref qDa, .ref qLo, .ref qLe, .ref qNa, .ref qNs, .ref qSt, .ref qSa, .ref qCo, .ref qWr, .int (iI to), .int (iI nw), .int (iI b9), .int (iI r4), .ref qLn, .ref qSm, .ref qCd, .ref qSc, .int (iI (x_3 + 257)), .int (iI (x_9 + 1)), .int (iI th)])), (qT, .inl (cT, 20000, .inl fT)), (qPk, .inl (cPk, 64, .inr (.inl (fun k => lI (fPk k))))), (qDa, .inl (cDa, 64, .inl (fun k => iI (fDa k)))), (qLn, .inl (cLn, 320, .inl (fun k => iI (fLn k)))), (qCd, .inl (cCd, 320, .inl fCd))]) (va_runS (As := [.ref qSm, .ref qSc, .int (iI 0), .int (iI 19)]) (rest := []) ⟨hx, hb, hml, hown, ht⟩ (m_number l D _ qSm cSm 19 s9 qSc cSc 19 fSc 0 19 (zmd s9 (zlr fT (8 * fDa nw.toNat + b_13).toNat (x_15 + 4).toNat) 19) (by omega) (by omega) hs9 (by omega) (fun k h1 h2 => zmd_in (N := 19) hs9 k h1 h2)) (cwS 4 ht (zt_goodS zm_981 zm_982 zm_79 zm_983) rfl rfl rfl (by decide +kernel) ⟨Nat.le_of_ble_eq_true rfl, Nat.le_of_ble_eq_true rfl⟩) (zpre zBlind_t hK hP hD [5, 7] [4, 6] rfl (by decide) rfl (fun _ _ _ => trivial)) rfl rfl hl.1 rfl (lv_room (Nat.le_of_ble_eq_true rfl)) d_M_readCodes_161 ⟨Nat.le_of_ble_eq_true rfl, Nat.le_of_ble_eq_true rfl⟩) hK hP hD hS hA [5, 7] [0, 1, 2, 3, 4, 6] rfl rfl (by decide) (by decide) (fun u9 H locs hp31 hP hD hK hS => ?_)
                    obtain ⟨f_29, rfl⟩ : ∃ z, z = u9 := ⟨u9, rfl⟩
                    dsimp only at hp31 hP hD hK
                    have hP : va_P D zcl [(qm, .inr (8, [.ref qT, .int (iI len), .int (iI op), .int (iI fp), .int (iI bu), .int (iI ra), .int (iI en), .ref qMe, .ref qPk, .ref qSz, .ref qSu, .ref qDa, .ref qLo, .ref qLe, .ref qNa, .ref qNs, .ref qSt, .ref qSa, .ref qCo, .ref qWr, .int (iI to), .int (iI nw), .int (iI b9), .int (iI r4), .ref qLn, .ref qSm, .ref qCd, .ref qSc, .int (iI (x_3 + 257)), .int (iI (x_9 + 1)), .int (iI th)])), (qT, .inl (cT, 20000, .inl fT)), (qPk, .inl (cPk, 64, .inr (.inl (fun k => lI (fPk k))))), (qDa, .inl (cDa, 64, .inl (fun k => iI (fDa k)))), (qLn, .inl (cLn, 320, .inl (fun k => iI (fLn k)))), (qCd, .inl (cCd, 320, .inl fCd)), (qSm, .inl (cSm, 19, .inl (fun k => iI (s9 k)))), (qSc, .inl (cSc, 19, .inl f_29))] H := hP
                    have hD : va_D A [(qm, .inr (8, [.ref qT, .int (iI len), .int (iI op), .int (iI fp), .int (iI bu), .int (iI ra), .int (iI en), .ref qMe, .ref qPk, .ref qSz, .ref qSu, .ref qDa, .ref qLo, .ref qLe, .ref qNa, .ref qNs, .ref qSt, .ref qSa, .ref qCo, .ref qWr, .int (iI to), .int (iI nw), .int (iI b9), .int (iI r4), .ref qLn, .ref qSm, .ref qCd, .ref qSc, .int (iI (x_3 + 257)), .int (iI (x_9 + 1)), .int (iI th)])), (qT, .inl (cT, 20000, .inl fT)), (qPk, .inl (cPk, 64, .inr (.inl (fun k => lI (fPk k))))), (qDa, .inl (cDa, 64, .inl (fun k => iI (fDa k)))), (qLn, .inl (cLn, 320, .inl (fun k => iI (fLn k)))), (qCd, .inl (cCd, 320, .inl fCd)), (qSm, .inl (cSm, 19, .inl (fun k => iI (s9 k)))), (qSc, .inl (cSc, 19, .inl f_29))] := hD
                    have hK : va_K D zcl [(cT, .byte), (cPk, .long), (cDa, .int), (cLn, .int), (cSm, .int), (cCd, .int), (cSc, .int), (cSm, .int), (cSc, .int)] s := hK
                    have hP := hP.sub (ws' := [(qm, .inr (8, [.ref qT, .int (iI len), .int (iI op), .int (iI fp), .int (iI bu), .int (iI ra), .int (iI en), .ref qMe, .ref qPk, .ref qSz, .ref qSu, .ref qDa, .ref qLo, .ref qLe, .ref qNa, .ref qNs, .ref qSt, .ref qSa, .ref qCo, .ref qWr, .int (iI to), .int (iI nw), .int (iI b9), .int (iI r4), .ref qLn, .ref qSm, .ref qCd, .ref qSc, .int (iI (x_3 + 257)), .int (iI (x_9 + 1)), .int (iI th)])), (qT, .inl (cT, 20000, .inl fT)), (qPk, .inl (cPk, 64, .inr (.inl (fun k => lI (fPk k))))), (qDa, .inl (cDa, 64, .inl (fun k => iI (fDa k)))), (qLn, .inl (cLn, 320, .inl (fun k => iI (fLn k)))), (qSm, .inl (cSm, 19, .inl (fun k => iI (s9 k)))), (qCd, .inl (cCd, 320, .inl fCd)), (qSc, .inl (cSc, 19, .inl f_29))]) [0, 1, 2, 3, 4, 6, 5, 7] rfl
                    have hD := hD.sub (ws' := [(qm, .inr (8, [.ref qT, .int (iI len), .int (iI op), .int (iI fp), .int (iI bu), .int (iI ra), .int (iI en), .ref qMe, .ref qPk, .ref qSz, .ref qSu, .ref qDa, .ref qLo, .ref qLe, .ref qNa, .ref qNs, .ref qSt, .ref qSa, .ref qCo, .ref qWr, .int (iI to), .int (iI nw), .int (iI b9), .int (iI r4), .ref qLn, .ref qSm, .ref qCd, .ref qSc, .int (iI (x_3 + 257)), .int (iI (x_9 + 1)), .int (iI th)])), (qT, .inl (cT, 20000, .inl fT)), (qPk, .inl (cPk, 64, .inr (.inl (fun k => lI (fPk k))))), (qDa, .inl (cDa, 64, .inl (fun k => iI (fDa k)))), (qLn, .inl (cLn, 320, .inl (fun k => iI (fLn k)))), (qSm, .inl (cSm, 19, .inl (fun k => iI (s9 k)))), (qCd, .inl (cCd, 320, .inl fCd)), (qSc, .inl (cSc, 19, .inl f_29))]) [0, 1, 2, 3, 4, 6, 5, 7] (by decide) rfl
                    have hK := hK.sub (tys' := [(cT, .byte), (cPk, .long), (cDa, .int), (cLn, .int), (cSm, .int), (cCd, .int), (cSc, .int)]) [0, 1, 2, 3, 4, 5, 6] rfl
                    have jn_32 : ∀ (b10 : Int) (r10 : Int) (l9 : Nat → Int) (H : Heap) (locs : List Loc) (ls : Array Slot), (∀ k : Nat, 0 ≤ l9 k ∧ l9 k ≤ 15) → (bt ≤ b10 ∧ b10 ≤ 8 * fPk nw.toNat) → (-2147483648 ≤ r10 ∧ r10 ≤ 2147483647) → (r10 = r4) → (zRd r4 fT (fDa nw.toNat + fPk nw.toNat).toNat (zlr fT (8 * fDa nw.toNat + b_13).toNat (x_15 + 4).toNat) (x_3 + x_9 + 258).toNat (8 * fDa nw.toNat + b9).toNat (8 * fDa nw.toNat + b10) l9) → va_P D zcl [(qm, .inr (8, [.ref qT, .int (iI len), .int (iI op), .int (iI fp), .int (iI bu), .int (iI ra), .int (iI en), .ref qMe, .ref qPk, .ref qSz, .ref qSu, .ref qDa, .ref qLo, .ref qLe, .ref qNa, .ref qNs, .ref qSt, .ref qSa, .ref qCo, .ref qWr, .int (iI to), .int (iI nw), .int (iI b10), .int (iI r10), .ref qLn, .ref qSm, .ref qCd, .ref qSc, .int (iI (x_3 + 257)), .int (iI (x_9 + 1)), .int (iI th)])), (qT, .inl (cT, 20000, .inl fT)), (qPk, .inl (cPk, 64, .inr (.inl (fun k => lI (fPk k))))), (qDa, .inl (cDa, 64, .inl (fun k => iI (fDa k)))), (qLn, .inl (cLn, 320, .inl (fun k => iI (l9 k)))), (qSm, .inl (cSm, 19, .inl (fun k => iI (s9 k)))), (qCd, .inl (cCd, 320, .inl fCd)), (qSc, .inl (cSc, 19, .inl f_29))] H → va_D A [(qm, .inr (8, [.ref qT, .int (iI len), .int (iI op), .int (iI fp), .int (iI bu), .int (iI ra), .int (iI en), .ref qMe, .ref qPk, .ref qSz, .ref qSu, .ref qDa, .ref qLo, .ref qLe, .ref qNa, .ref qNs, .ref qSt, .ref qSa, .ref qCo, .ref qWr, .int (iI to), .int (iI nw), .int (iI b10), .int (iI r10), .ref qLn, .ref qSm, .ref qCd, .ref qSc, .int (iI (x_3 + 257)), .int (iI (x_9 + 1)), .int (iI th)])), (qT, .inl (cT, 20000, .inl fT)), (qPk, .inl (cPk, 64, .inr (.inl (fun k => lI (fPk k))))), (qDa, .inl (cDa, 64, .inl (fun k => iI (fDa k)))), (qLn, .inl (cLn, 320, .inl (fun k => iI (l9 k)))), (qSm, .inl (cSm, 19, .inl (fun k => iI (s9 k)))), (qCd, .inl (cCd, 320, .inl fCd)), (qSc, .inl (cSc, 19, .inl f_29))] → va_S A s.heap H locs → lv_has ls 8 [(0, .ref qm)] → W p l e { frames := 3, cells := 0, slots := 0, locals := 74 } s m [.ref qm].toArray below meth c H locs 0 0 (MQ below ((fun A => va_Qv (fun (u9 : Int × Int × Int × Int × (Nat → Int) × (Nat → Int) × (Nat → Int32) × (Nat → Int32)) => match u9 with | (b1, r1, sy1, di1, fl1, fs1, fk1, fq1) => (∀ k : Nat, 0 ≤ fl1 k ∧ fl1 k ≤ 15) ∧ (∀ k : Nat, 0 ≤ fs1 k ∧ fs1 k ≤ 15) ∧ (zOr fT (fDa nw.toNat + fPk nw.toNat).toNat (8 * fDa nw.toNat + bt) (8 * fDa nw.toNat + b1) r1 sy1 di1 fl1 fk1) ∧ 0 ≤ sy1 ∧ 0 ≤ di1 ∧ sy1 + di1 ≤ 320 ∧ bt ≤ b1 ∧ b1 ≤ 8 * fPk nw.toNat ∧ (-2147483648 ≤ r1 ∧ r1 ≤ 2147483647) ∧ 0 ≤ r1 ∧ r1 ≤ 100) (fun u9 t => zB D ((fun (u9 : Int × Int × Int × Int × (Nat → Int) × (Nat → Int) × (Nat → Int32) × (Nat → Int32)) => match u9 with | (b1, r1, sy1, di1, fl1, fs1, fk1, fq1) => [(qm, .inr (8, [.ref qT, .int (iI len), .int (iI op), .int (iI fp), .int (iI bu), .int (iI ra), .int (iI en), .ref qMe, .ref qPk, .ref qSz, .ref qSu, .ref qDa, .ref qLo, .ref qLe, .ref qNa, .ref qNs, .ref qSt, .ref qSa, .ref qCo, .ref qWr, .int (iI to), .int (iI nw), .int (iI b1), .int (iI r1), .ref qLn, .ref qSm, .ref qCd, .ref qSc, .int (iI sy1), .int (iI di1), .int (iI th)])), (qT, .inl (cT, 20000, .inl fT)), (qPk, .inl (cPk, 64, .inr (.inl (fun k => lI (fPk k))))), (qDa, .inl (cDa, 64, .inl (fun k => iI (fDa k)))), (qLn, .inl (cLn, 320, .inl (fun k => iI (fl1 k)))), (qSm, .inl (cSm, 19, .inl (fun k => iI (fs1 k)))), (qCd, .inl (cCd, 320, .inl fk1)), (qSc, .inl (cSc, 19, .inl fq1))]) u9) ((fun (u9 : Int × Int × Int × Int × (Nat → Int) × (Nat → Int) × (Nat → Int32) × (Nat → Int32)) => match u9 with | (b1, r1, sy1, di1, fl1, fs1, fk1, fq1) => [(cT, .byte), (cPk, .long), (cDa, .int), (cLn, .int), (cSm, .int), (cCd, .int), (cSc, .int)]) u9) A t) A) A) [.ref qm].toArray s 0 0 A) (F0 m 372 ls []) := by
                      intro b10 r10 l9 H locs ls hl9 hb110 hr110 hr10x hrd hP hD hS hl
                      refine lv_aload_n hx hb d_M_readCodes_372 rfl (lv_at hl 0 rfl) ?_
                      refine va_get (ci := 8) (C := "ZipGuardModel") (T := F_M) (N := 31) hx hb ht zi_M hown hK hP 0 rfl rfl 23 (by decide) (ht _ zm_775) (fun _ h9 => h9) rfl d_M_readCodes_373 ?_
                      refine zv_if_eq (tgt := 380) hx hb d_M_readCodes_376 (by decide) (by omega) (fun hc_33 => ?_) (fun hc_33 => ?_)
                      · skip
                        have hrd9 := hrd (by omega)
                        have hoR := zowR_e (q := 8 * fDa nw.toNat + bt) (q1 := 8 * fDa nw.toNat + b_13) (n := x_15 + 4) (all := x_3 + x_9 + 258) (Q := (8 * fDa nw.toNat + b9).toNat) (bh := (fDa nw.toNat + fPk nw.toNat).toNat) (f := fT) (by omega) (by omega) (by omega) (by omega) (((zLz_e (q := 8 * fDa nw.toNat + bt) hlz (by omega) (by omega) (by omega)).2 (by omega)).symm)
                        rw [← hoR] at hrd9
                        have hd1 := zd1_of (D := (zowR fT (fDa nw.toNat + fPk nw.toNat).toNat (8 * fDa nw.toNat + bt).toNat).2.2) (sy := x_3 + 257) hrd9.2.2 (by omega)
                        have hd2 := zd2_of (D := (zowR fT (fDa nw.toNat + fPk nw.toNat).toNat (8 * fDa nw.toNat + bt).toNat).2.2) (sy := x_3 + 257) (di := (x_9 + 1)) (ns := zns fT (8 * fDa nw.toNat + bt).toNat) hrd9.2.2 (by omega) (by omega)
                        have h256 : l9 (256 : Int).toNat = ((((zowR fT (fDa nw.toNat + fPk nw.toNat).toNat (8 * fDa nw.toNat + bt).toNat).2.2) 256 : Nat) : Int) := by have h9 := hd1 256 (by omega) (by omega); rw [Int.zero_add] at h9; exact h9
                        have jn_34 : ∀ (r8 : Int) (H : Heap) (locs : List Loc) (ls : Array Slot), (0 ≤ r8 ∧ r8 ≤ 33) → (zQk r8 (0 < (zowR fT (fDa nw.toNat + fPk nw.toNat).toNat (8 * fDa nw.toNat + bt).toNat).2.2 256) (zRt (zowR fT (fDa nw.toNat + fPk nw.toNat).toNat (8 * fDa nw.toNat + bt).toNat).2.2 (x_3 + 257).toNat 0) (zRt (fun k => (zowR fT (fDa nw.toNat + fPk nw.toNat).toNat (8 * fDa nw.toNat + bt).toNat).2.2 (zns fT (8 * fDa nw.toNat + bt).toNat + k)) ((x_9 + 1)).toNat 1)) → va_P D zcl [(qm, .inr (8, [.ref qT, .int (iI len), .int (iI op), .int (iI fp), .int (iI bu), .int (iI ra), .int (iI en), .ref qMe, .ref qPk, .ref qSz, .ref qSu, .ref qDa, .ref qLo, .ref qLe, .ref qNa, .ref qNs, .ref qSt, .ref qSa, .ref qCo, .ref qWr, .int (iI to), .int (iI nw), .int (iI b10), .int (iI r8), .ref qLn, .ref qSm, .ref qCd, .ref qSc, .int (iI (x_3 + 257)), .int (iI (x_9 + 1)), .int (iI th)])), (qT, .inl (cT, 20000, .inl fT)), (qPk, .inl (cPk, 64, .inr (.inl (fun k => lI (fPk k))))), (qDa, .inl (cDa, 64, .inl (fun k => iI (fDa k)))), (qLn, .inl (cLn, 320, .inl (fun k => iI (l9 k)))), (qSm, .inl (cSm, 19, .inl (fun k => iI (s9 k)))), (qCd, .inl (cCd, 320, .inl fCd)), (qSc, .inl (cSc, 19, .inl f_29))] H → va_D A [(qm, .inr (8, [.ref qT, .int (iI len), .int (iI op), .int (iI fp), .int (iI bu), .int (iI ra), .int (iI en), .ref qMe, .ref qPk, .ref qSz, .ref qSu, .ref qDa, .ref qLo, .ref qLe, .ref qNa, .ref qNs, .ref qSt, .ref qSa, .ref qCo, .ref qWr, .int (iI to), .int (iI nw), .int (iI b10), .int (iI r8), .ref qLn, .ref qSm, .ref qCd, .ref qSc, .int (iI (x_3 + 257)), .int (iI (x_9 + 1)), .int (iI th)])), (qT, .inl (cT, 20000, .inl fT)), (qPk, .inl (cPk, 64, .inr (.inl (fun k => lI (fPk k))))), (qDa, .inl (cDa, 64, .inl (fun k => iI (fDa k)))), (qLn, .inl (cLn, 320, .inl (fun k => iI (l9 k)))), (qSm, .inl (cSm, 19, .inl (fun k => iI (s9 k)))), (qCd, .inl (cCd, 320, .inl fCd)), (qSc, .inl (cSc, 19, .inl f_29))] → va_S A s.heap H locs → lv_has ls 8 [(0, .ref qm)] → W p l e { frames := 3, cells := 0, slots := 0, locals := 74 } s m [.ref qm].toArray below meth c H locs 0 0 (MQ below ((fun A => va_Qv (fun (u9 : Int × Int × Int × Int × (Nat → Int) × (Nat → Int) × (Nat → Int32) × (Nat → Int32)) => match u9 with | (b1, r1, sy1, di1, fl1, fs1, fk1, fq1) => (∀ k : Nat, 0 ≤ fl1 k ∧ fl1 k ≤ 15) ∧ (∀ k : Nat, 0 ≤ fs1 k ∧ fs1 k ≤ 15) ∧ (zOr fT (fDa nw.toNat + fPk nw.toNat).toNat (8 * fDa nw.toNat + bt) (8 * fDa nw.toNat + b1) r1 sy1 di1 fl1 fk1) ∧ 0 ≤ sy1 ∧ 0 ≤ di1 ∧ sy1 + di1 ≤ 320 ∧ bt ≤ b1 ∧ b1 ≤ 8 * fPk nw.toNat ∧ (-2147483648 ≤ r1 ∧ r1 ≤ 2147483647) ∧ 0 ≤ r1 ∧ r1 ≤ 100) (fun u9 t => zB D ((fun (u9 : Int × Int × Int × Int × (Nat → Int) × (Nat → Int) × (Nat → Int32) × (Nat → Int32)) => match u9 with | (b1, r1, sy1, di1, fl1, fs1, fk1, fq1) => [(qm, .inr (8, [.ref qT, .int (iI len), .int (iI op), .int (iI fp), .int (iI bu), .int (iI ra), .int (iI en), .ref qMe, .ref qPk, .ref qSz, .ref qSu, .ref qDa, .ref qLo, .ref qLe, .ref qNa, .ref qNs, .ref qSt, .ref qSa, .ref qCo, .ref qWr, .int (iI to), .int (iI nw), .int (iI b1), .int (iI r1), .ref qLn, .ref qSm, .ref qCd, .ref qSc, .int (iI sy1), .int (iI di1), .int (iI th)])), (qT, .inl (cT, 20000, .inl fT)), (qPk, .inl (cPk, 64, .inr (.inl (fun k => lI (fPk k))))), (qDa, .inl (cDa, 64, .inl (fun k => iI (fDa k)))), (qLn, .inl (cLn, 320, .inl (fun k => iI (fl1 k)))), (qSm, .inl (cSm, 19, .inl (fun k => iI (fs1 k)))), (qCd, .inl (cCd, 320, .inl fk1)), (qSc, .inl (cSc, 19, .inl fq1))]) u9) ((fun (u9 : Int × Int × Int × Int × (Nat → Int) × (Nat → Int) × (Nat → Int32) × (Nat → Int32)) => match u9 with | (b1, r1, sy1, di1, fl1, fs1, fk1, fq1) => [(cT, .byte), (cPk, .long), (cDa, .int), (cLn, .int), (cSm, .int), (cCd, .int), (cSc, .int)]) u9) A t) A) A) [.ref qm].toArray s 0 0 A) (F0 m 433 ls []) := by
                          intro r8 H locs ls hr8 hqk hP hD hS hl
                          refine lv_aload_n hx hb d_M_readCodes_433 rfl (lv_at hl 0 rfl) ?_
                          refine zjv (wr := [(qT, .inl (cT, 20000, .inl fT)), (qPk, .inl (cPk, 64, .inr (.inl (fun k => lI (fPk k))))), (qDa, .inl (cDa, 64, .inl (fun k => iI (fDa k)))), (qSm, .inl (cSm, 19, .inl (fun k => iI (s9 k)))), (qSc, .inl (cSc, 19, .inl f_29))]) (va_runV (As := []) (rest := []) ⟨hx, hb, hml, hown, ht⟩ (m_nboth l D _ qm qT len op fp bu ra en qMe qPk qSz qSu qDa qLo qLe qNa qNs qSt qSa qCo qWr to nw b10 r8 qLn qSm qCd qSc (x_3 + 257) (x_9 + 1) th cLn l9 cCd fCd ((zowR fT (fDa nw.toNat + fPk nw.toNat).toNat (8 * fDa nw.toNat + bt).toNat).2.2) (fun k => (zowR fT (fDa nw.toNat + fPk nw.toNat).toNat (8 * fDa nw.toNat + bt).toNat).2.2 (zns fT (8 * fDa nw.toNat + bt).toNat + k)) hl9 (by omega) hd1 hd2) (cwV 0 ht (zt_goodV zm_978 zm_979 zm_56 zm_79 zm_980) rfl rfl rfl (by decide +kernel) ⟨Nat.le_of_ble_eq_true rfl, Nat.le_of_ble_eq_true rfl⟩) (zpreV zBlind_t hK hP hD [0, 4, 6] [3, 5] rfl (by decide) rfl (fun _ _ _ => trivial) (va_recv (q := ("ZipGuardModel", F_M, 31)) hK hP rfl (q0 := 0) (ci := 8) rfl)) rfl rfl hl.1 rfl (lv_room (Nat.le_of_ble_eq_true rfl)) d_M_readCodes_434 ⟨Nat.le_of_ble_eq_true rfl, Nat.le_of_ble_eq_true rfl⟩) hK hP hD hS hA [0, 4, 6] [1, 2, 3, 5, 7] rfl rfl (by decide) (by decide) (fun u9 H locs hp37 hP hD hK hS => ?_)
                          obtain ⟨f_35, rfl⟩ : ∃ z, z = u9 := ⟨u9, rfl⟩
                          dsimp only at hp37 hP hD hK
                          have hP : va_P D zcl [(qT, .inl (cT, 20000, .inl fT)), (qPk, .inl (cPk, 64, .inr (.inl (fun k => lI (fPk k))))), (qDa, .inl (cDa, 64, .inl (fun k => iI (fDa k)))), (qSm, .inl (cSm, 19, .inl (fun k => iI (s9 k)))), (qSc, .inl (cSc, 19, .inl f_29)), (qm, .inr (8, [.ref qT, .int (iI len), .int (iI op), .int (iI fp), .int (iI bu), .int (iI ra), .int (iI en), .ref qMe, .ref qPk, .ref qSz, .ref qSu, .ref qDa, .ref qLo, .ref qLe, .ref qNa, .ref qNs, .ref qSt, .ref qSa, .ref qCo, .ref qWr, .int (iI to), .int (iI nw), .int (iI b10), .int (iI r8), .ref qLn, .ref qSm, .ref qCd, .ref qSc, .int (iI (x_3 + 257)), .int (iI (x_9 + 1)), .int (iI th)])), (qLn, .inl (cLn, 320, .inl (fun k => iI (l9 k)))), (qCd, .inl (cCd, 320, .inl f_35))] H := hP
                          have hD : va_D A [(qT, .inl (cT, 20000, .inl fT)), (qPk, .inl (cPk, 64, .inr (.inl (fun k => lI (fPk k))))), (qDa, .inl (cDa, 64, .inl (fun k => iI (fDa k)))), (qSm, .inl (cSm, 19, .inl (fun k => iI (s9 k)))), (qSc, .inl (cSc, 19, .inl f_29)), (qm, .inr (8, [.ref qT, .int (iI len), .int (iI op), .int (iI fp), .int (iI bu), .int (iI ra), .int (iI en), .ref qMe, .ref qPk, .ref qSz, .ref qSu, .ref qDa, .ref qLo, .ref qLe, .ref qNa, .ref qNs, .ref qSt, .ref qSa, .ref qCo, .ref qWr, .int (iI to), .int (iI nw), .int (iI b10), .int (iI r8), .ref qLn, .ref qSm, .ref qCd, .ref qSc, .int (iI (x_3 + 257)), .int (iI (x_9 + 1)), .int (iI th)])), (qLn, .inl (cLn, 320, .inl (fun k => iI (l9 k)))), (qCd, .inl (cCd, 320, .inl f_35))] := hD
                          have hK : va_K D zcl [(cT, .byte), (cPk, .long), (cDa, .int), (cLn, .int), (cSm, .int), (cCd, .int), (cSc, .int), (cLn, .int), (cCd, .int)] s := hK
                          have hP := hP.sub (ws' := [(qm, .inr (8, [.ref qT, .int (iI len), .int (iI op), .int (iI fp), .int (iI bu), .int (iI ra), .int (iI en), .ref qMe, .ref qPk, .ref qSz, .ref qSu, .ref qDa, .ref qLo, .ref qLe, .ref qNa, .ref qNs, .ref qSt, .ref qSa, .ref qCo, .ref qWr, .int (iI to), .int (iI nw), .int (iI b10), .int (iI r8), .ref qLn, .ref qSm, .ref qCd, .ref qSc, .int (iI (x_3 + 257)), .int (iI (x_9 + 1)), .int (iI th)])), (qT, .inl (cT, 20000, .inl fT)), (qPk, .inl (cPk, 64, .inr (.inl (fun k => lI (fPk k))))), (qDa, .inl (cDa, 64, .inl (fun k => iI (fDa k)))), (qLn, .inl (cLn, 320, .inl (fun k => iI (l9 k)))), (qSm, .inl (cSm, 19, .inl (fun k => iI (s9 k)))), (qCd, .inl (cCd, 320, .inl f_35)), (qSc, .inl (cSc, 19, .inl f_29))]) [5, 0, 1, 2, 6, 3, 7, 4] rfl
                          have hD := hD.sub (ws' := [(qm, .inr (8, [.ref qT, .int (iI len), .int (iI op), .int (iI fp), .int (iI bu), .int (iI ra), .int (iI en), .ref qMe, .ref qPk, .ref qSz, .ref qSu, .ref qDa, .ref qLo, .ref qLe, .ref qNa, .ref qNs, .ref qSt, .ref qSa, .ref qCo, .ref qWr, .int (iI to), .int (iI nw), .int (iI b10), .int (iI r8), .ref qLn, .ref qSm, .ref qCd, .ref qSc, .int (iI (x_3 + 257)), .int (iI (x_9 + 1)), .int (iI th)])), (qT, .inl (cT, 20000, .inl fT)), (qPk, .inl (cPk, 64, .inr (.inl (fun k => lI (fPk k))))), (qDa, .inl (cDa, 64, .inl (fun k => iI (fDa k)))), (qLn, .inl (cLn, 320, .inl (fun k => iI (l9 k)))), (qSm, .inl (cSm, 19, .inl (fun k => iI (s9 k)))), (qCd, .inl (cCd, 320, .inl f_35)), (qSc, .inl (cSc, 19, .inl f_29))]) [5, 0, 1, 2, 6, 3, 7, 4] (by decide) rfl
                          have hK := hK.sub (tys' := [(cT, .byte), (cPk, .long), (cDa, .int), (cLn, .int), (cSm, .int), (cCd, .int), (cSc, .int)]) [0, 1, 2, 3, 4, 5, 6] rfl
                          exact zretv hx hb hr hlk hK hP hD hS (b10, r8, (x_3 + 257), (x_9 + 1), l9, s9, f_35, f_29) [0, 1, 2, 3, 4, 5, 6, 7] [0, 1, 2, 3, 4, 5, 6] rfl (by decide) rfl (⟨hl9, hs9, zOr_end (E := 8 * (fDa nw.toNat + fPk nw.toNat)) (p := 8 * fDa nw.toNat + b9) (n := x_15 + 4) (q1 := 8 * fDa nw.toNat + b_13) (Q := 0) (all := 0) (by omega) (by omega) (by omega) (by omega) hlz (by omega) (by omega) (by omega) rfl rfl ⟨hrd9.1, hrd9.2.1⟩ ⟨by omega, by omega⟩ hl9 hd1 hd2 hqk hp37.1 hp37.2 rfl, by omega⟩) (Nat.le_of_ble_eq_true rfl) (Nat.le_of_ble_eq_true rfl) d_M_readCodes_437
                        refine lv_aload_n hx hb d_M_readCodes_380 rfl (lv_at hl 0 rfl) ?_
                        refine va_get (ci := 8) (C := "ZipGuardModel") (T := F_M) (N := 31) hx hb ht zi_M hown hK hP 0 rfl rfl 24 (by decide) (ht _ zm_776) (fun _ h9 => h9) rfl d_M_readCodes_381 ?_
                        refine lv_sipush (v := iI 256) hx hb d_M_readCodes_384 (by decide) ?_
                        refine zv_iald hx hb hK hP 4 3 rfl rfl (by omega) (by decide) d_M_readCodes_387 (fun x_38 hz_39 => ?_)
                        have hf_40 := hl9 (256 : Int).toNat
                        refine zv_if_eq (tgt := 426) hx hb d_M_readCodes_388 (by decide) (by omega) (fun hc_41 => ?_) (fun hc_41 => ?_)
                        · skip
                          refine lv_aload_n hx hb d_M_readCodes_426 rfl (lv_at hl 0 rfl) ?_
                          refine lv_bipush (v := iI 33) hx hb d_M_readCodes_427 (by decide) ?_
                          refine zji (wr := [(qT, .inl (cT, 20000, .inl fT)), (qPk, .inl (cPk, 64, .inr (.inl (fun k => lI (fPk k))))), (qDa, .inl (cDa, 64, .inl (fun k => iI (fDa k)))), (qLn, .inl (cLn, 320, .inl (fun k => iI (l9 k)))), (qSm, .inl (cSm, 19, .inl (fun k => iI (s9 k)))), (qCd, .inl (cCd, 320, .inl fCd)), (qSc, .inl (cSc, 19, .inl f_29))]) (va_runV (As := [.int (iI 33)]) (rest := []) ⟨hx, hb, hml, hown, ht⟩ (m_refuse l D _ qm qT len op fp bu ra en qMe qPk qSz qSu qDa qLo qLe qNa qNs qSt qSa qCo qWr to nw b10 r10 qLn qSm qCd qSc (x_3 + 257) (x_9 + 1) th 33 (by omega)) (cwV 1 ht (zt_goodV zm_965 zm_966 zm_52 zm_79 zm_967) rfl rfl rfl (by decide +kernel) ⟨Nat.le_of_ble_eq_true rfl, Nat.le_of_ble_eq_true rfl⟩) (zpreV zBlind_t hK hP hD [0] [] rfl (by decide) rfl (fun _ _ _ => trivial) (va_recv (q := ("ZipGuardModel", F_M, 31)) hK hP rfl (q0 := 0) (ci := 8) rfl)) rfl rfl hl.1 rfl (lv_room (Nat.le_of_ble_eq_true rfl)) d_M_readCodes_429 ⟨Nat.le_of_ble_eq_true rfl, Nat.le_of_ble_eq_true rfl⟩) hK hP hD hS hA [0] [1, 2, 3, 4, 5, 6, 7] rfl rfl (by decide) (by decide) (fun r43 u9 H locs hp44 hP hD hK hS => ?_)
                          obtain ⟨r_42, rfl⟩ : ∃ z, z = u9 := ⟨u9, rfl⟩
                          dsimp only at hp44 hP hD hK
                          have hP : va_P D zcl [(qT, .inl (cT, 20000, .inl fT)), (qPk, .inl (cPk, 64, .inr (.inl (fun k => lI (fPk k))))), (qDa, .inl (cDa, 64, .inl (fun k => iI (fDa k)))), (qLn, .inl (cLn, 320, .inl (fun k => iI (l9 k)))), (qSm, .inl (cSm, 19, .inl (fun k => iI (s9 k)))), (qCd, .inl (cCd, 320, .inl fCd)), (qSc, .inl (cSc, 19, .inl f_29)), (qm, .inr (8, [.ref qT, .int (iI len), .int (iI op), .int (iI fp), .int (iI bu), .int (iI ra), .int (iI en), .ref qMe, .ref qPk, .ref qSz, .ref qSu, .ref qDa, .ref qLo, .ref qLe, .ref qNa, .ref qNs, .ref qSt, .ref qSa, .ref qCo, .ref qWr, .int (iI to), .int (iI nw), .int (iI b10), .int (iI r_42), .ref qLn, .ref qSm, .ref qCd, .ref qSc, .int (iI (x_3 + 257)), .int (iI (x_9 + 1)), .int (iI th)]))] H := hP
                          have hD : va_D A [(qT, .inl (cT, 20000, .inl fT)), (qPk, .inl (cPk, 64, .inr (.inl (fun k => lI (fPk k))))), (qDa, .inl (cDa, 64, .inl (fun k => iI (fDa k)))), (qLn, .inl (cLn, 320, .inl (fun k => iI (l9 k)))), (qSm, .inl (cSm, 19, .inl (fun k => iI (s9 k)))), (qCd, .inl (cCd, 320, .inl fCd)), (qSc, .inl (cSc, 19, .inl f_29)), (qm, .inr (8, [.ref qT, .int (iI len), .int (iI op), .int (iI fp), .int (iI bu), .int (iI ra), .int (iI en), .ref qMe, .ref qPk, .ref qSz, .ref qSu, .ref qDa, .ref qLo, .ref qLe, .ref qNa, .ref qNs, .ref qSt, .ref qSa, .ref qCo, .ref qWr, .int (iI to), .int (iI nw), .int (iI b10), .int (iI r_42), .ref qLn, .ref qSm, .ref qCd, .ref qSc, .int (iI (x_3 + 257)), .int (iI (x_9 + 1)), .int (iI th)]))] := hD
                          have hK : va_K D zcl [(cT, .byte), (cPk, .long), (cDa, .int), (cLn, .int), (cSm, .int), (cCd, .int), (cSc, .int)] s := hK
                          obtain ⟨he_45, hp44⟩ := hp44
                          subst he_45
                          have hP := hP.sub (ws' := [(qm, .inr (8, [.ref qT, .int (iI len), .int (iI op), .int (iI fp), .int (iI bu), .int (iI ra), .int (iI en), .ref qMe, .ref qPk, .ref qSz, .ref qSu, .ref qDa, .ref qLo, .ref qLe, .ref qNa, .ref qNs, .ref qSt, .ref qSa, .ref qCo, .ref qWr, .int (iI to), .int (iI nw), .int (iI b10), .int (iI r_42), .ref qLn, .ref qSm, .ref qCd, .ref qSc, .int (iI (x_3 + 257)), .int (iI (x_9 + 1)), .int (iI th)])), (qT, .inl (cT, 20000, .inl fT)), (qPk, .inl (cPk, 64, .inr (.inl (fun k => lI (fPk k))))), (qDa, .inl (cDa, 64, .inl (fun k => iI (fDa k)))), (qLn, .inl (cLn, 320, .inl (fun k => iI (l9 k)))), (qSm, .inl (cSm, 19, .inl (fun k => iI (s9 k)))), (qCd, .inl (cCd, 320, .inl fCd)), (qSc, .inl (cSc, 19, .inl f_29))]) [7, 0, 1, 2, 3, 4, 5, 6] rfl
                          have hD := hD.sub (ws' := [(qm, .inr (8, [.ref qT, .int (iI len), .int (iI op), .int (iI fp), .int (iI bu), .int (iI ra), .int (iI en), .ref qMe, .ref qPk, .ref qSz, .ref qSu, .ref qDa, .ref qLo, .ref qLe, .ref qNa, .ref qNs, .ref qSt, .ref qSa, .ref qCo, .ref qWr, .int (iI to), .int (iI nw), .int (iI b10), .int (iI r_42), .ref qLn, .ref qSm, .ref qCd, .ref qSc, .int (iI (x_3 + 257)), .int (iI (x_9 + 1)), .int (iI th)])), (qT, .inl (cT, 20000, .inl fT)), (qPk, .inl (cPk, 64, .inr (.inl (fun k => lI (fPk k))))), (qDa, .inl (cDa, 64, .inl (fun k => iI (fDa k)))), (qLn, .inl (cLn, 320, .inl (fun k => iI (l9 k)))), (qSm, .inl (cSm, 19, .inl (fun k => iI (s9 k)))), (qCd, .inl (cCd, 320, .inl fCd)), (qSc, .inl (cSc, 19, .inl f_29))]) [7, 0, 1, 2, 3, 4, 5, 6] (by decide) rfl
                          have hK := hK.sub (tys' := [(cT, .byte), (cPk, .long), (cDa, .int), (cLn, .int), (cSm, .int), (cCd, .int), (cSc, .int)]) [0, 1, 2, 3, 4, 5, 6] rfl
                          refine lv_pop hx hb d_M_readCodes_432 rfl ?_
                          exact jn_34 r_42 _ _ _ (by omega) (Or.inr ⟨by omega, Or.inl (fun h9 => by omega)⟩) hP hD hS hl
                        · skip
                          refine lv_aload_n hx hb d_M_readCodes_391 rfl (lv_at hl 0 rfl) ?_
                          refine va_get (ci := 8) (C := "ZipGuardModel") (T := F_M) (N := 31) hx hb ht zi_M hown hK hP 0 rfl rfl 24 (by decide) (ht _ zm_776) (fun _ h9 => h9) rfl d_M_readCodes_392 ?_
                          refine lv_iconst (v := iI 0) hx hb d_M_readCodes_395 (by decide) ?_
                          refine lv_aload_n hx hb d_M_readCodes_396 rfl (lv_at hl 0 rfl) ?_
                          refine va_get (ci := 8) (C := "ZipGuardModel") (T := F_M) (N := 31) hx hb ht zi_M hown hK hP 0 rfl rfl 28 (by decide) (ht _ zm_780) (fun _ h9 => h9) rfl d_M_readCodes_397 ?_
                          refine lv_iconst (v := iI 0) hx hb d_M_readCodes_400 (by decide) ?_
                          refine zjR (va_runS (As := [.ref qLn, .int (iI 0), .int (iI (x_3 + 257)), .int (iI 0)]) (rest := []) ⟨hx, hb, hml, hown, ht⟩ (m_ri l D qLn cLn 320 l9 0 (x_3 + 257) 0 ((zowR fT (fDa nw.toNat + fPk nw.toNat).toNat (8 * fDa nw.toNat + bt).toNat).2.2) (by omega) (by omega) hl9 (by omega) (by omega) hd1) (cwS 4 ht (zt_goodS zm_990 zm_991 zm_79 zm_992) rfl rfl rfl (by decide +kernel) ⟨Nat.le_of_ble_eq_true rfl, Nat.le_of_ble_eq_true rfl⟩) (zpreR zBlind_t hK hP [4] [3] rfl rfl (fun _ _ _ => trivial)) rfl rfl hl.1 rfl (lv_room (Nat.le_of_ble_eq_true rfl)) d_M_readCodes_401 ⟨Nat.le_of_ble_eq_true rfl, Nat.le_of_ble_eq_true rfl⟩) (fun r46 hp47 => ?_)
                          obtain ⟨x_48, he_49, hp47⟩ := hp47
                          subst he_49
                          refine zv_if_eq (tgt := 426) hx hb d_M_readCodes_404 (by decide) (by omega) (fun hc_50 => ?_) (fun hc_50 => ?_)
                          · skip
                            have htf_51 := zTf_f hp47.1 hc_50
                            refine lv_aload_n hx hb d_M_readCodes_426 rfl (lv_at hl 0 rfl) ?_
                            refine lv_bipush (v := iI 33) hx hb d_M_readCodes_427 (by decide) ?_
                            refine zji (wr := [(qT, .inl (cT, 20000, .inl fT)), (qPk, .inl (cPk, 64, .inr (.inl (fun k => lI (fPk k))))), (qDa, .inl (cDa, 64, .inl (fun k => iI (fDa k)))), (qLn, .inl (cLn, 320, .inl (fun k => iI (l9 k)))), (qSm, .inl (cSm, 19, .inl (fun k => iI (s9 k)))), (qCd, .inl (cCd, 320, .inl fCd)), (qSc, .inl (cSc, 19, .inl f_29))]) (va_runV (As := [.int (iI 33)]) (rest := []) ⟨hx, hb, hml, hown, ht⟩ (m_refuse l D _ qm qT len op fp bu ra en qMe qPk qSz qSu qDa qLo qLe qNa qNs qSt qSa qCo qWr to nw b10 r10 qLn qSm qCd qSc (x_3 + 257) (x_9 + 1) th 33 (by omega)) (cwV 1 ht (zt_goodV zm_965 zm_966 zm_52 zm_79 zm_967) rfl rfl rfl (by decide +kernel) ⟨Nat.le_of_ble_eq_true rfl, Nat.le_of_ble_eq_true rfl⟩) (zpreV zBlind_t hK hP hD [0] [] rfl (by decide) rfl (fun _ _ _ => trivial) (va_recv (q := ("ZipGuardModel", F_M, 31)) hK hP rfl (q0 := 0) (ci := 8) rfl)) rfl rfl hl.1 rfl (lv_room (Nat.le_of_ble_eq_true rfl)) d_M_readCodes_429 ⟨Nat.le_of_ble_eq_true rfl, Nat.le_of_ble_eq_true rfl⟩) hK hP hD hS hA [0] [1, 2, 3, 4, 5, 6, 7] rfl rfl (by decide) (by decide) (fun r53 u9 H locs hp54 hP hD hK hS => ?_)
                            obtain ⟨r_52, rfl⟩ : ∃ z, z = u9 := ⟨u9, rfl⟩
                            dsimp only at hp54 hP hD hK
                            have hP : va_P D zcl [(qT, .inl (cT, 20000, .inl fT)), (qPk, .inl (cPk, 64, .inr (.inl (fun k => lI (fPk k))))), (qDa, .inl (cDa, 64, .inl (fun k => iI (fDa k)))), (qLn, .inl (cLn, 320, .inl (fun k => iI (l9 k)))), (qSm, .inl (cSm, 19, .inl (fun k => iI (s9 k)))), (qCd, .inl (cCd, 320, .inl fCd)), (qSc, .inl (cSc, 19, .inl f_29)), (qm, .inr (8, [.ref qT, .int (iI len), .int (iI op), .int (iI fp), .int (iI bu), .int (iI ra), .int (iI en), .ref qMe, .ref qPk, .ref qSz, .ref qSu, .ref qDa, .ref qLo, .ref qLe, .ref qNa, .ref qNs, .ref qSt, .ref qSa, .ref qCo, .ref qWr, .int (iI to), .int (iI nw), .int (iI b10), .int (iI r_52), .ref qLn, .ref qSm, .ref qCd, .ref qSc, .int (iI (x_3 + 257)), .int (iI (x_9 + 1)), .int (iI th)]))] H := hP
                            have hD : va_D A [(qT, .inl (cT, 20000, .inl fT)), (qPk, .inl (cPk, 64, .inr (.inl (fun k => lI (fPk k))))), (qDa, .inl (cDa, 64, .inl (fun k => iI (fDa k)))), (qLn, .inl (cLn, 320, .inl (fun k => iI (l9 k)))), (qSm, .inl (cSm, 19, .inl (fun k => iI (s9 k)))), (qCd, .inl (cCd, 320, .inl fCd)), (qSc, .inl (cSc, 19, .inl f_29)), (qm, .inr (8, [.ref qT, .int (iI len), .int (iI op), .int (iI fp), .int (iI bu), .int (iI ra), .int (iI en), .ref qMe, .ref qPk, .ref qSz, .ref qSu, .ref qDa, .ref qLo, .ref qLe, .ref qNa, .ref qNs, .ref qSt, .ref qSa, .ref qCo, .ref qWr, .int (iI to), .int (iI nw), .int (iI b10), .int (iI r_52), .ref qLn, .ref qSm, .ref qCd, .ref qSc, .int (iI (x_3 + 257)), .int (iI (x_9 + 1)), .int (iI th)]))] := hD
                            have hK : va_K D zcl [(cT, .byte), (cPk, .long), (cDa, .int), (cLn, .int), (cSm, .int), (cCd, .int), (cSc, .int)] s := hK
                            obtain ⟨he_55, hp54⟩ := hp54
                            subst he_55
                            have hP := hP.sub (ws' := [(qm, .inr (8, [.ref qT, .int (iI len), .int (iI op), .int (iI fp), .int (iI bu), .int (iI ra), .int (iI en), .ref qMe, .ref qPk, .ref qSz, .ref qSu, .ref qDa, .ref qLo, .ref qLe, .ref qNa, .ref qNs, .ref qSt, .ref qSa, .ref qCo, .ref qWr, .int (iI to), .int (iI nw), .int (iI b10), .int (iI r_52), .ref qLn, .ref qSm, .ref qCd, .ref qSc, .int (iI (x_3 + 257)), .int (iI (x_9 + 1)), .int (iI th)])), (qT, .inl (cT, 20000, .inl fT)), (qPk, .inl (cPk, 64, .inr (.inl (fun k => lI (fPk k))))), (qDa, .inl (cDa, 64, .inl (fun k => iI (fDa k)))), (qLn, .inl (cLn, 320, .inl (fun k => iI (l9 k)))), (qSm, .inl (cSm, 19, .inl (fun k => iI (s9 k)))), (qCd, .inl (cCd, 320, .inl fCd)), (qSc, .inl (cSc, 19, .inl f_29))]) [7, 0, 1, 2, 3, 4, 5, 6] rfl
                            have hD := hD.sub (ws' := [(qm, .inr (8, [.ref qT, .int (iI len), .int (iI op), .int (iI fp), .int (iI bu), .int (iI ra), .int (iI en), .ref qMe, .ref qPk, .ref qSz, .ref qSu, .ref qDa, .ref qLo, .ref qLe, .ref qNa, .ref qNs, .ref qSt, .ref qSa, .ref qCo, .ref qWr, .int (iI to), .int (iI nw), .int (iI b10), .int (iI r_52), .ref qLn, .ref qSm, .ref qCd, .ref qSc, .int (iI (x_3 + 257)), .int (iI (x_9 + 1)), .int (iI th)])), (qT, .inl (cT, 20000, .inl fT)), (qPk, .inl (cPk, 64, .inr (.inl (fun k => lI (fPk k))))), (qDa, .inl (cDa, 64, .inl (fun k => iI (fDa k)))), (qLn, .inl (cLn, 320, .inl (fun k => iI (l9 k)))), (qSm, .inl (cSm, 19, .inl (fun k => iI (s9 k)))), (qCd, .inl (cCd, 320, .inl fCd)), (qSc, .inl (cSc, 19, .inl f_29))]) [7, 0, 1, 2, 3, 4, 5, 6] (by decide) rfl
                            have hK := hK.sub (tys' := [(cT, .byte), (cPk, .long), (cDa, .int), (cLn, .int), (cSm, .int), (cCd, .int), (cSc, .int)]) [0, 1, 2, 3, 4, 5, 6] rfl
                            refine lv_pop hx hb d_M_readCodes_432 rfl ?_
                            exact jn_34 r_52 _ _ _ (by omega) (Or.inr ⟨by omega, Or.inr (Or.inl htf_51)⟩) hP hD hS hl
                          · skip
                            have htf_56 := zTf_t hp47.1 hc_50
                            refine lv_aload_n hx hb d_M_readCodes_407 rfl (lv_at hl 0 rfl) ?_
                            refine va_get (ci := 8) (C := "ZipGuardModel") (T := F_M) (N := 31) hx hb ht zi_M hown hK hP 0 rfl rfl 24 (by decide) (ht _ zm_776) (fun _ h9 => h9) rfl d_M_readCodes_408 ?_
                            refine lv_aload_n hx hb d_M_readCodes_411 rfl (lv_at hl 0 rfl) ?_
                            refine va_get (ci := 8) (C := "ZipGuardModel") (T := F_M) (N := 31) hx hb ht zi_M hown hK hP 0 rfl rfl 28 (by decide) (ht _ zm_780) (fun _ h9 => h9) rfl d_M_readCodes_412 ?_
                            refine lv_aload_n hx hb d_M_readCodes_415 rfl (lv_at hl 0 rfl) ?_
                            refine va_get (ci := 8) (C := "ZipGuardModel") (T := F_M) (N := 31) hx hb ht zi_M hown hK hP 0 rfl rfl 29 (by decide) (ht _ zm_781) (fun _ h9 => h9) rfl d_M_readCodes_416 ?_
                            refine lv_iconst (v := iI 1) hx hb d_M_readCodes_419 (by decide) ?_
                            refine zjR (va_runS (As := [.ref qLn, .int (iI (x_3 + 257)), .int (iI (x_9 + 1)), .int (iI 1)]) (rest := []) ⟨hx, hb, hml, hown, ht⟩ (m_ri l D qLn cLn 320 l9 (x_3 + 257) (x_9 + 1) 1 (fun k => (zowR fT (fDa nw.toNat + fPk nw.toNat).toNat (8 * fDa nw.toNat + bt).toNat).2.2 (zns fT (8 * fDa nw.toNat + bt).toNat + k)) (by omega) (by omega) hl9 (by omega) (by omega) hd2) (cwS 4 ht (zt_goodS zm_990 zm_991 zm_79 zm_992) rfl rfl rfl (by decide +kernel) ⟨Nat.le_of_ble_eq_true rfl, Nat.le_of_ble_eq_true rfl⟩) (zpreR zBlind_t hK hP [4] [3] rfl rfl (fun _ _ _ => trivial)) rfl rfl hl.1 rfl (lv_room (Nat.le_of_ble_eq_true rfl)) d_M_readCodes_420 ⟨Nat.le_of_ble_eq_true rfl, Nat.le_of_ble_eq_true rfl⟩) (fun r57 hp58 => ?_)
                            obtain ⟨x_59, he_60, hp58⟩ := hp58
                            subst he_60
                            refine zv_if_ne (tgt := 433) hx hb d_M_readCodes_423 (by decide) (by omega) (fun hc_61 => ?_) (fun hc_61 => ?_)
                            · skip
                              have htf_62 := zTf_t hp58.1 hc_61
                              exact jn_34 r10 _ _ _ (by omega) (Or.inl ⟨by omega, by omega, htf_56, htf_62⟩) hP hD hS hl
                            · skip
                              have htf_63 := zTf_f hp58.1 hc_61
                              refine lv_aload_n hx hb d_M_readCodes_426 rfl (lv_at hl 0 rfl) ?_
                              refine lv_bipush (v := iI 33) hx hb d_M_readCodes_427 (by decide) ?_
                              refine zji (wr := [(qT, .inl (cT, 20000, .inl fT)), (qPk, .inl (cPk, 64, .inr (.inl (fun k => lI (fPk k))))), (qDa, .inl (cDa, 64, .inl (fun k => iI (fDa k)))), (qLn, .inl (cLn, 320, .inl (fun k => iI (l9 k)))), (qSm, .inl (cSm, 19, .inl (fun k => iI (s9 k)))), (qCd, .inl (cCd, 320, .inl fCd)), (qSc, .inl (cSc, 19, .inl f_29))]) (va_runV (As := [.int (iI 33)]) (rest := []) ⟨hx, hb, hml, hown, ht⟩ (m_refuse l D _ qm qT len op fp bu ra en qMe qPk qSz qSu qDa qLo qLe qNa qNs qSt qSa qCo qWr to nw b10 r10 qLn qSm qCd qSc (x_3 + 257) (x_9 + 1) th 33 (by omega)) (cwV 1 ht (zt_goodV zm_965 zm_966 zm_52 zm_79 zm_967) rfl rfl rfl (by decide +kernel) ⟨Nat.le_of_ble_eq_true rfl, Nat.le_of_ble_eq_true rfl⟩) (zpreV zBlind_t hK hP hD [0] [] rfl (by decide) rfl (fun _ _ _ => trivial) (va_recv (q := ("ZipGuardModel", F_M, 31)) hK hP rfl (q0 := 0) (ci := 8) rfl)) rfl rfl hl.1 rfl (lv_room (Nat.le_of_ble_eq_true rfl)) d_M_readCodes_429 ⟨Nat.le_of_ble_eq_true rfl, Nat.le_of_ble_eq_true rfl⟩) hK hP hD hS hA [0] [1, 2, 3, 4, 5, 6, 7] rfl rfl (by decide) (by decide) (fun r65 u9 H locs hp66 hP hD hK hS => ?_)
                              obtain ⟨r_64, rfl⟩ : ∃ z, z = u9 := ⟨u9, rfl⟩
                              dsimp only at hp66 hP hD hK
                              have hP : va_P D zcl [(qT, .inl (cT, 20000, .inl fT)), (qPk, .inl (cPk, 64, .inr (.inl (fun k => lI (fPk k))))), (qDa, .inl (cDa, 64, .inl (fun k => iI (fDa k)))), (qLn, .inl (cLn, 320, .inl (fun k => iI (l9 k)))), (qSm, .inl (cSm, 19, .inl (fun k => iI (s9 k)))), (qCd, .inl (cCd, 320, .inl fCd)), (qSc, .inl (cSc, 19, .inl f_29)), (qm, .inr (8, [.ref qT, .int (iI len), .int (iI op), .int (iI fp), .int (iI bu), .int (iI ra), .int (iI en), .ref qMe, .ref qPk, .ref qSz, .ref qSu, .ref qDa, .ref qLo, .ref qLe, .ref qNa, .ref qNs, .ref qSt, .ref qSa, .ref qCo, .ref qWr, .int (iI to), .int (iI nw), .int (iI b10), .int (iI r_64), .ref qLn, .ref qSm, .ref qCd, .ref qSc, .int (iI (x_3 + 257)), .int (iI (x_9 + 1)), .int (iI th)]))] H := hP
                              have hD : va_D A [(qT, .inl (cT, 20000, .inl fT)), (qPk, .inl (cPk, 64, .inr (.inl (fun k => lI (fPk k))))), (qDa, .inl (cDa, 64, .inl (fun k => iI (fDa k)))), (qLn, .inl (cLn, 320, .inl (fun k => iI (l9 k)))), (qSm, .inl (cSm, 19, .inl (fun k => iI (s9 k)))), (qCd, .inl (cCd, 320, .inl fCd)), (qSc, .inl (cSc, 19, .inl f_29)), (qm, .inr (8, [.ref qT, .int (iI len), .int (iI op), .int (iI fp), .int (iI bu), .int (iI ra), .int (iI en), .ref qMe, .ref qPk, .ref qSz, .ref qSu, .ref qDa, .ref qLo, .ref qLe, .ref qNa, .ref qNs, .ref qSt, .ref qSa, .ref qCo, .ref qWr, .int (iI to), .int (iI nw), .int (iI b10), .int (iI r_64), .ref qLn, .ref qSm, .ref qCd, .ref qSc, .int (iI (x_3 + 257)), .int (iI (x_9 + 1)), .int (iI th)]))] := hD
                              have hK : va_K D zcl [(cT, .byte), (cPk, .long), (cDa, .int), (cLn, .int), (cSm, .int), (cCd, .int), (cSc, .int)] s := hK
                              obtain ⟨he_67, hp66⟩ := hp66
                              subst he_67
                              have hP := hP.sub (ws' := [(qm, .inr (8, [.ref qT, .int (iI len), .int (iI op), .int (iI fp), .int (iI bu), .int (iI ra), .int (iI en), .ref qMe, .ref qPk, .ref qSz, .ref qSu, .ref qDa, .ref qLo, .ref qLe, .ref qNa, .ref qNs, .ref qSt, .ref qSa, .ref qCo, .ref qWr, .int (iI to), .int (iI nw), .int (iI b10), .int (iI r_64), .ref qLn, .ref qSm, .ref qCd, .ref qSc, .int (iI (x_3 + 257)), .int (iI (x_9 + 1)), .int (iI th)])), (qT, .inl (cT, 20000, .inl fT)), (qPk, .inl (cPk, 64, .inr (.inl (fun k => lI (fPk k))))), (qDa, .inl (cDa, 64, .inl (fun k => iI (fDa k)))), (qLn, .inl (cLn, 320, .inl (fun k => iI (l9 k)))), (qSm, .inl (cSm, 19, .inl (fun k => iI (s9 k)))), (qCd, .inl (cCd, 320, .inl fCd)), (qSc, .inl (cSc, 19, .inl f_29))]) [7, 0, 1, 2, 3, 4, 5, 6] rfl
                              have hD := hD.sub (ws' := [(qm, .inr (8, [.ref qT, .int (iI len), .int (iI op), .int (iI fp), .int (iI bu), .int (iI ra), .int (iI en), .ref qMe, .ref qPk, .ref qSz, .ref qSu, .ref qDa, .ref qLo, .ref qLe, .ref qNa, .ref qNs, .ref qSt, .ref qSa, .ref qCo, .ref qWr, .int (iI to), .int (iI nw), .int (iI b10), .int (iI r_64), .ref qLn, .ref qSm, .ref qCd, .ref qSc, .int (iI (x_3 + 257)), .int (iI (x_9 + 1)), .int (iI th)])), (qT, .inl (cT, 20000, .inl fT)), (qPk, .inl (cPk, 64, .inr (.inl (fun k => lI (fPk k))))), (qDa, .inl (cDa, 64, .inl (fun k => iI (fDa k)))), (qLn, .inl (cLn, 320, .inl (fun k => iI (l9 k)))), (qSm, .inl (cSm, 19, .inl (fun k => iI (s9 k)))), (qCd, .inl (cCd, 320, .inl fCd)), (qSc, .inl (cSc, 19, .inl f_29))]) [7, 0, 1, 2, 3, 4, 5, 6] (by decide) rfl
                              have hK := hK.sub (tys' := [(cT, .byte), (cPk, .long), (cDa, .int), (cLn, .int), (cSm, .int), (cCd, .int), (cSc, .int)]) [0, 1, 2, 3, 4, 5, 6] rfl
                              refine lv_pop hx hb d_M_readCodes_432 rfl ?_
                              exact jn_34 r_64 _ _ _ (by omega) (Or.inr ⟨by omega, Or.inr (Or.inr htf_63)⟩) hP hD hS hl
                      · skip
                        exact zretv hx hb hr hlk hK hP hD hS (b10, r10, (x_3 + 257), (x_9 + 1), l9, s9, fCd, f_29) [0, 1, 2, 3, 4, 5, 6, 7] [0, 1, 2, 3, 4, 5, 6] rfl (by decide) rfl (⟨hl9, hs9, zOr_lz (E := 8 * (fDa nw.toNat + fPk nw.toNat)) (p := 8 * fDa nw.toNat + b9) (n := x_15 + 4) (q1 := 8 * fDa nw.toNat + b_13) (by omega) (by omega) (by omega) (by omega) hlz (by omega) (by omega) (by omega) (by omega) (by omega), by omega⟩) (Nat.le_of_ble_eq_true rfl) (Nat.le_of_ble_eq_true rfl) d_M_readCodes_379
                    refine lv_iconst (v := iI 0) hx hb d_M_readCodes_164 (by decide) ?_
                    refine lv_istore_n (lv' := [(2, .int (iI 0)), (1, .int (iI (x_15 + 4))), (0, .ref qm)]) hx hb d_M_readCodes_165 rfl hl (by decide) rfl (fun ls hl => ?_)
                    refine lv_aload_n hx hb d_M_readCodes_166 rfl (lv_at hl 2 rfl) ?_
                    refine va_get (ci := 8) (C := "ZipGuardModel") (T := F_M) (N := 31) hx hb ht zi_M hown hK hP 0 rfl rfl 28 (by decide) (ht _ zm_780) (fun _ h9 => h9) rfl d_M_readCodes_167 ?_
                    refine lv_aload_n hx hb d_M_readCodes_170 rfl (lv_at hl 2 rfl) ?_
                    refine va_get (ci := 8) (C := "ZipGuardModel") (T := F_M) (N := 31) hx hb ht zi_M hown hK hP 0 rfl rfl 29 (by decide) (ht _ zm_781) (fun _ h9 => h9) rfl d_M_readCodes_171 ?_
                    refine zv_iadd (z := x_3 + x_9 + 258) hx hb d_M_readCodes_174 (by omega) ?_
                    refine lv_istore_n (lv' := [(3, .int (iI (x_3 + x_9 + 258))), (2, .int (iI 0)), (1, .int (iI (x_15 + 4))), (0, .ref qm)]) hx hb d_M_readCodes_175 rfl hl (by decide) rfl (fun ls hl => ?_)
                    have lp176 : ∀ (j : Nat) (dn : Int) (b5 : Int) (r5 : Int) (l5 : Nat → Int) (H : Heap) (locs : List Loc) (ls : Array Slot), (0 ≤ dn ∧ dn ≤ (x_3 + x_9 + 258)) → (∀ k : Nat, 0 ≤ l5 k ∧ l5 k ≤ 15) → (bt ≤ b5 ∧ b5 ≤ 8 * fPk nw.toNat) → (-2147483648 ≤ r5 ∧ r5 ≤ 2147483647) → (r5 = r4) → (zRx r4 fT (fDa nw.toNat + fPk nw.toNat).toNat (zlr fT (8 * fDa nw.toNat + b_13).toNat (x_15 + 4).toNat) (x_3 + x_9 + 258).toNat (8 * fDa nw.toNat + b9).toNat dn (8 * fDa nw.toNat + b5) l5) → ((x_3 + x_9 + 258) - dn < (j : Int)) → va_P D zcl [(qm, .inr (8, [.ref qT, .int (iI len), .int (iI op), .int (iI fp), .int (iI bu), .int (iI ra), .int (iI en), .ref qMe, .ref qPk, .ref qSz, .ref qSu, .ref qDa, .ref qLo, .ref qLe, .ref qNa, .ref qNs, .ref qSt, .ref qSa, .ref qCo, .ref qWr, .int (iI to), .int (iI nw), .int (iI b5), .int (iI r5), .ref qLn, .ref qSm, .ref qCd, .ref qSc, .int (iI (x_3 + 257)), .int (iI (x_9 + 1)), .int (iI th)])), (qT, .inl (cT, 20000, .inl fT)), (qPk, .inl (cPk, 64, .inr (.inl (fun k => lI (fPk k))))), (qDa, .inl (cDa, 64, .inl (fun k => iI (fDa k)))), (qLn, .inl (cLn, 320, .inl (fun k => iI (l5 k)))), (qSm, .inl (cSm, 19, .inl (fun k => iI (s9 k)))), (qCd, .inl (cCd, 320, .inl fCd)), (qSc, .inl (cSc, 19, .inl f_29))] H → va_D A [(qm, .inr (8, [.ref qT, .int (iI len), .int (iI op), .int (iI fp), .int (iI bu), .int (iI ra), .int (iI en), .ref qMe, .ref qPk, .ref qSz, .ref qSu, .ref qDa, .ref qLo, .ref qLe, .ref qNa, .ref qNs, .ref qSt, .ref qSa, .ref qCo, .ref qWr, .int (iI to), .int (iI nw), .int (iI b5), .int (iI r5), .ref qLn, .ref qSm, .ref qCd, .ref qSc, .int (iI (x_3 + 257)), .int (iI (x_9 + 1)), .int (iI th)])), (qT, .inl (cT, 20000, .inl fT)), (qPk, .inl (cPk, 64, .inr (.inl (fun k => lI (fPk k))))), (qDa, .inl (cDa, 64, .inl (fun k => iI (fDa k)))), (qLn, .inl (cLn, 320, .inl (fun k => iI (l5 k)))), (qSm, .inl (cSm, 19, .inl (fun k => iI (s9 k)))), (qCd, .inl (cCd, 320, .inl fCd)), (qSc, .inl (cSc, 19, .inl f_29))] → va_S A s.heap H locs → lv_has ls 8 [(3, .int (iI (x_3 + x_9 + 258))), (2, .int (iI dn)), (1, .int (iI (x_15 + 4))), (0, .ref qm)] → W p l e { frames := 3, cells := 0, slots := 0, locals := 74 } s m [.ref qm].toArray below meth c H locs 0 0 (MQ below ((fun A => va_Qv (fun (u9 : Int × Int × Int × Int × (Nat → Int) × (Nat → Int) × (Nat → Int32) × (Nat → Int32)) => match u9 with | (b1, r1, sy1, di1, fl1, fs1, fk1, fq1) => (∀ k : Nat, 0 ≤ fl1 k ∧ fl1 k ≤ 15) ∧ (∀ k : Nat, 0 ≤ fs1 k ∧ fs1 k ≤ 15) ∧ (zOr fT (fDa nw.toNat + fPk nw.toNat).toNat (8 * fDa nw.toNat + bt) (8 * fDa nw.toNat + b1) r1 sy1 di1 fl1 fk1) ∧ 0 ≤ sy1 ∧ 0 ≤ di1 ∧ sy1 + di1 ≤ 320 ∧ bt ≤ b1 ∧ b1 ≤ 8 * fPk nw.toNat ∧ (-2147483648 ≤ r1 ∧ r1 ≤ 2147483647) ∧ 0 ≤ r1 ∧ r1 ≤ 100) (fun u9 t => zB D ((fun (u9 : Int × Int × Int × Int × (Nat → Int) × (Nat → Int) × (Nat → Int32) × (Nat → Int32)) => match u9 with | (b1, r1, sy1, di1, fl1, fs1, fk1, fq1) => [(qm, .inr (8, [.ref qT, .int (iI len), .int (iI op), .int (iI fp), .int (iI bu), .int (iI ra), .int (iI en), .ref qMe, .ref qPk, .ref qSz, .ref qSu, .ref qDa, .ref qLo, .ref qLe, .ref qNa, .ref qNs, .ref qSt, .ref qSa, .ref qCo, .ref qWr, .int (iI to), .int (iI nw), .int (iI b1), .int (iI r1), .ref qLn, .ref qSm, .ref qCd, .ref qSc, .int (iI sy1), .int (iI di1), .int (iI th)])), (qT, .inl (cT, 20000, .inl fT)), (qPk, .inl (cPk, 64, .inr (.inl (fun k => lI (fPk k))))), (qDa, .inl (cDa, 64, .inl (fun k => iI (fDa k)))), (qLn, .inl (cLn, 320, .inl (fun k => iI (fl1 k)))), (qSm, .inl (cSm, 19, .inl (fun k => iI (fs1 k)))), (qCd, .inl (cCd, 320, .inl fk1)), (qSc, .inl (cSc, 19, .inl fq1))]) u9) ((fun (u9 : Int × Int × Int × Int × (Nat → Int) × (Nat → Int) × (Nat → Int32) × (Nat → Int32)) => match u9 with | (b1, r1, sy1, di1, fl1, fs1, fk1, fq1) => [(cT, .byte), (cPk, .long), (cDa, .int), (cLn, .int), (cSm, .int), (cCd, .int), (cSc, .int)]) u9) A t) A) A) [.ref qm].toArray s 0 0 A) (F0 m 176 ls []) := by
                      intro j
                      induction j with
                      | zero => intro dn b5 r5 l5 H locs ls hdn hl5 hb1 hr1 hr5x hrw hj176 hP hD hS hl; exfalso; omega
                      | succ j ih176 =>
                        intro dn b5 r5 l5 H locs ls hdn hl5 hb1 hr1 hr5x hrw hj176 hP hD hS hl
                        refine lv_iload_n hx hb d_M_readCodes_176 rfl (lv_at hl 1 rfl) ?_
                        refine lv_iload_n hx hb d_M_readCodes_177 rfl (lv_at hl 0 rfl) ?_
                        refine zv_icmp_ge (tgt := 372) hx hb d_M_readCodes_178 (by decide) (by omega) (by omega) (fun hc_68 => ?_) (fun hc_68 => ?_)
                        · skip
                          exact jn_32 b5 r5 l5 _ _ _ hl5 (by omega) (by omega) (by omega) (fun h9 => zRw_end (hrw h9) (by omega)) hP hD hS (lv_sub hl [3] rfl)
                        · skip
                          refine lv_aload_n hx hb d_M_readCodes_181 rfl (lv_at hl 3 rfl) ?_
                          refine va_get (ci := 8) (C := "ZipGuardModel") (T := F_M) (N := 31) hx hb ht zi_M hown hK hP 0 rfl rfl 23 (by decide) (ht _ zm_775) (fun _ h9 => h9) rfl d_M_readCodes_182 ?_
                          refine zv_if_ne (tgt := 372) hx hb d_M_readCodes_185 (by decide) (by omega) (fun hc_69 => ?_) (fun hc_69 => ?_)
                          · skip
                            exact jn_32 b5 r5 l5 _ _ _ hl5 (by omega) (by omega) (by omega) (fun h9 => absurd h9 (by omega)) hP hD hS (lv_sub hl [3] rfl)
                          · skip
                            have hrw9 := hrw (by omega)
                            refine lv_aload_n hx hb d_M_readCodes_188 rfl (lv_at hl 3 rfl) ?_
                            refine lv_aload_n hx hb d_M_readCodes_189 rfl (lv_at hl 3 rfl) ?_
                            refine va_get (ci := 8) (C := "ZipGuardModel") (T := F_M) (N := 31) hx hb ht zi_M hown hK hP 0 rfl rfl 25 (by decide) (ht _ zm_777) (fun _ h9 => h9) rfl d_M_readCodes_190 ?_
                            refine lv_aload_n hx hb d_M_readCodes_193 rfl (lv_at hl 3 rfl) ?_
                            refine va_get (ci := 8) (C := "ZipGuardModel") (T := F_M) (N := 31) hx hb ht zi_M hown hK hP 0 rfl rfl 27 (by decide) (ht _ zm_779) (fun _ h9 => h9) rfl d_M_readCodes_194 ?_
                            refine lv_iconst (v := iI 0) hx hb d_M_readCodes_197 (by decide) ?_
                            refine lv_bipush (v := iI 19) hx hb d_M_readCodes_198 (by decide) ?_
                            refine zji (wr := [(qLn, .inl (cLn, 320, .inl (fun k => iI (l5 k)))), (qCd, .inl (cCd, 320, .inl fCd))]) (va_runV (As := [.ref qSm, .ref qSc, .int (iI 0), .int (iI 19)]) (rest := []) ⟨hx, hb, hml, hown, ht⟩ (m_symbol l D _ qm qT len op fp bu ra en qMe qPk qSz qSu qDa qLo qLe qNa qNs qSt qSa qCo qWr to nw b5 r5 qLn qSm qCd qSc (x_3 + 257) (x_9 + 1) th cT fT cPk fPk cDa fDa qSm cSm 19 s9 qSc cSc 19 f_29 0 19 (zlr fT (8 * fDa nw.toNat + b_13).toNat (x_15 + 4).toNat) (by omega) (by omega) (by omega) (by omega) (by omega) (by omega) (by omega) hs9 (by omega) (by omega) (fun k h1 h2 => by rw [Int.zero_add]; exact zSl_row hsl9 (by omega) rfl k h1 h2) (by have h9 := hp31.1; rw [zmd_eq (N := 19) (fun j h1 h2 => zSl_row hsl9 (by omega) rfl j h1 h2)] at h9; exact h9) (zGd_full (zlr_15 _ _ _) (hlz.2 (by omega)).2)) (cwV 4 ht (zt_goodV zm_994 zm_995 zm_58 zm_79 zm_996) rfl rfl rfl (by decide +kernel) ⟨Nat.le_of_ble_eq_true rfl, Nat.le_of_ble_eq_true rfl⟩) (zpreV zBlind_t hK hP hD [0, 1, 2, 3, 5, 7] [0, 1, 2, 4, 6] rfl (by decide) rfl (fun _ _ _ => trivial) (va_recv (q := ("ZipGuardModel", F_M, 31)) hK hP rfl (q0 := 0) (ci := 8) rfl)) rfl rfl hl.1 rfl (lv_room (Nat.le_of_ble_eq_true rfl)) d_M_readCodes_200 ⟨Nat.le_of_ble_eq_true rfl, Nat.le_of_ble_eq_true rfl⟩) hK hP hD hS hA [0, 1, 2, 3, 5, 7] [4, 6] rfl rfl (by decide) (by decide) (fun r73 u9 H locs hp74 hP hD hK hS => ?_)
                            obtain ⟨b_70, r_71, x_72⟩ := u9
                            dsimp only at hp74 hP hD hK
                            have hP : va_P D zcl [(qLn, .inl (cLn, 320, .inl (fun k => iI (l5 k)))), (qCd, .inl (cCd, 320, .inl fCd)), (qm, .inr (8, [.ref qT, .int (iI len), .int (iI op), .int (iI fp), .int (iI bu), .int (iI ra), .int (iI en), .ref qMe, .ref qPk, .ref qSz, .ref qSu, .ref qDa, .ref qLo, .ref qLe, .ref qNa, .ref qNs, .ref qSt, .ref qSa, .ref qCo, .ref qWr, .int (iI to), .int (iI nw), .int (iI b_70), .int (iI r_71), .ref qLn, .ref qSm, .ref qCd, .ref qSc, .int (iI (x_3 + 257)), .int (iI (x_9 + 1)), .int (iI th)])), (qT, .inl (cT, 20000, .inl fT)), (qPk, .inl (cPk, 64, .inr (.inl (fun k => lI (fPk k))))), (qDa, .inl (cDa, 64, .inl (fun k => iI (fDa k)))), (qSm, .inl (cSm, 19, .inl (fun k => iI (s9 k)))), (qSc, .inl (cSc, 19, .inl f_29))] H := hP
                            have hD : va_D A [(qLn, .inl (cLn, 320, .inl (fun k => iI (l5 k)))), (qCd, .inl (cCd, 320, .inl fCd)), (qm, .inr (8, [.ref qT, .int (iI len), .int (iI op), .int (iI fp), .int (iI bu), .int (iI ra), .int (iI en), .ref qMe, .ref qPk, .ref qSz, .ref qSu, .ref qDa, .ref qLo, .ref qLe, .ref qNa, .ref qNs, .ref qSt, .ref qSa, .ref qCo, .ref qWr, .int (iI to), .int (iI nw), .int (iI b_70), .int (iI r_71), .ref qLn, .ref qSm, .ref qCd, .ref qSc, .int (iI (x_3 + 257)), .int (iI (x_9 + 1)), .int (iI th)])), (qT, .inl (cT, 20000, .inl fT)), (qPk, .inl (cPk, 64, .inr (.inl (fun k => lI (fPk k))))), (qDa, .inl (cDa, 64, .inl (fun k => iI (fDa k)))), (qSm, .inl (cSm, 19, .inl (fun k => iI (s9 k)))), (qSc, .inl (cSc, 19, .inl f_29))] := hD
                            have hK : va_K D zcl [(cT, .byte), (cPk, .long), (cDa, .int), (cLn, .int), (cSm, .int), (cCd, .int), (cSc, .int), (cT, .byte), (cPk, .long), (cDa, .int), (cSm, .int), (cSc, .int)] s := hK
                            obtain ⟨he_75, hp74⟩ := hp74
                            subst he_75
                            have hP := hP.sub (ws' := [(qm, .inr (8, [.ref qT, .int (iI len), .int (iI op), .int (iI fp), .int (iI bu), .int (iI ra), .int (iI en), .ref qMe, .ref qPk, .ref qSz, .ref qSu, .ref qDa, .ref qLo, .ref qLe, .ref qNa, .ref qNs, .ref qSt, .ref qSa, .ref qCo, .ref qWr, .int (iI to), .int (iI nw), .int (iI b_70), .int (iI r_71), .ref qLn, .ref qSm, .ref qCd, .ref qSc, .int (iI (x_3 + 257)), .int (iI (x_9 + 1)), .int (iI th)])), (qT, .inl (cT, 20000, .inl fT)), (qPk, .inl (cPk, 64, .inr (.inl (fun k => lI (fPk k))))), (qDa, .inl (cDa, 64, .inl (fun k => iI (fDa k)))), (qLn, .inl (cLn, 320, .inl (fun k => iI (l5 k)))), (qSm, .inl (cSm, 19, .inl (fun k => iI (s9 k)))), (qCd, .inl (cCd, 320, .inl fCd)), (qSc, .inl (cSc, 19, .inl f_29))]) [2, 3, 4, 5, 0, 6, 1, 7] rfl
                            have hD := hD.sub (ws' := [(qm, .inr (8, [.ref qT, .int (iI len), .int (iI op), .int (iI fp), .int (iI bu), .int (iI ra), .int (iI en), .ref qMe, .ref qPk, .ref qSz, .ref qSu, .ref qDa, .ref qLo, .ref qLe, .ref qNa, .ref qNs, .ref qSt, .ref qSa, .ref qCo, .ref qWr, .int (iI to), .int (iI nw), .int (iI b_70), .int (iI r_71), .ref qLn, .ref qSm, .ref qCd, .ref qSc, .int (iI (x_3 + 257)), .int (iI (x_9 + 1)), .int (iI th)])), (qT, .inl (cT, 20000, .inl fT)), (qPk, .inl (cPk, 64, .inr (.inl (fun k => lI (fPk k))))), (qDa, .inl (cDa, 64, .inl (fun k => iI (fDa k)))), (qLn, .inl (cLn, 320, .inl (fun k => iI (l5 k)))), (qSm, .inl (cSm, 19, .inl (fun k => iI (s9 k)))), (qCd, .inl (cCd, 320, .inl fCd)), (qSc, .inl (cSc, 19, .inl f_29))]) [2, 3, 4, 5, 0, 6, 1, 7] (by decide) rfl
                            have hK := hK.sub (tys' := [(cT, .byte), (cPk, .long), (cDa, .int), (cLn, .int), (cSm, .int), (cCd, .int), (cSc, .int)]) [0, 1, 2, 3, 4, 5, 6] rfl
                            refine lv_istore (lv' := [(4, .int (iI x_72)), (3, .int (iI (x_3 + x_9 + 258))), (2, .int (iI dn)), (1, .int (iI (x_15 + 4))), (0, .ref qm)]) hx hb d_M_readCodes_203 hl (by decide) rfl (fun ls hl => ?_)
                            refine lv_aload_n hx hb d_M_readCodes_205 rfl (lv_at hl 4 rfl) ?_
                            refine va_get (ci := 8) (C := "ZipGuardModel") (T := F_M) (N := 31) hx hb ht zi_M hown hK hP 0 rfl rfl 23 (by decide) (ht _ zm_775) (fun _ h9 => h9) rfl d_M_readCodes_206 ?_
                            refine zv_if_eq (tgt := 213) hx hb d_M_readCodes_209 (by decide) (by omega) (fun hc_76 => ?_) (fun hc_76 => ?_)
                            · skip
                              have jn_77 : ∀ (ti : Int) (b6 : Int) (r6 : Int) (H : Heap) (locs : List Loc) (ls : Array Slot), (1 ≤ ti ∧ ti ≤ 138) → (bt ≤ b6 ∧ b6 ≤ 8 * fPk nw.toNat) → (-2147483648 ≤ r6 ∧ r6 ≤ 2147483647) → (zTi fT (8 * (fDa nw.toNat + fPk nw.toNat)) x_72 (8 * fDa nw.toNat + b_70) ti (8 * fDa nw.toNat + b6) r6) → va_P D zcl [(qm, .inr (8, [.ref qT, .int (iI len), .int (iI op), .int (iI fp), .int (iI bu), .int (iI ra), .int (iI en), .ref qMe, .ref qPk, .ref qSz, .ref qSu, .ref qDa, .ref qLo, .ref qLe, .ref qNa, .ref qNs, .ref qSt, .ref qSa, .ref qCo, .ref qWr, .int (iI to), .int (iI nw), .int (iI b6), .int (iI r6), .ref qLn, .ref qSm, .ref qCd, .ref qSc, .int (iI (x_3 + 257)), .int (iI (x_9 + 1)), .int (iI th)])), (qT, .inl (cT, 20000, .inl fT)), (qPk, .inl (cPk, 64, .inr (.inl (fun k => lI (fPk k))))), (qDa, .inl (cDa, 64, .inl (fun k => iI (fDa k)))), (qLn, .inl (cLn, 320, .inl (fun k => iI (l5 k)))), (qSm, .inl (cSm, 19, .inl (fun k => iI (s9 k)))), (qCd, .inl (cCd, 320, .inl fCd)), (qSc, .inl (cSc, 19, .inl f_29))] H → va_D A [(qm, .inr (8, [.ref qT, .int (iI len), .int (iI op), .int (iI fp), .int (iI bu), .int (iI ra), .int (iI en), .ref qMe, .ref qPk, .ref qSz, .ref qSu, .ref qDa, .ref qLo, .ref qLe, .ref qNa, .ref qNs, .ref qSt, .ref qSa, .ref qCo, .ref qWr, .int (iI to), .int (iI nw), .int (iI b6), .int (iI r6), .ref qLn, .ref qSm, .ref qCd, .ref qSc, .int (iI (x_3 + 257)), .int (iI (x_9 + 1)), .int (iI th)])), (qT, .inl (cT, 20000, .inl fT)), (qPk, .inl (cPk, 64, .inr (.inl (fun k => lI (fPk k))))), (qDa, .inl (cDa, 64, .inl (fun k => iI (fDa k)))), (qLn, .inl (cLn, 320, .inl (fun k => iI (l5 k)))), (qSm, .inl (cSm, 19, .inl (fun k => iI (s9 k)))), (qCd, .inl (cCd, 320, .inl fCd)), (qSc, .inl (cSc, 19, .inl f_29))] → va_S A s.heap H locs → lv_has ls 8 [(4, .int (iI x_72)), (3, .int (iI (x_3 + x_9 + 258))), (2, .int (iI dn)), (1, .int (iI (x_15 + 4))), (0, .ref qm), (5, .int (iI ti))] → W p l e { frames := 3, cells := 0, slots := 0, locals := 74 } s m [.ref qm].toArray below meth c H locs 0 0 (MQ below ((fun A => va_Qv (fun (u9 : Int × Int × Int × Int × (Nat → Int) × (Nat → Int) × (Nat → Int32) × (Nat → Int32)) => match u9 with | (b1, r1, sy1, di1, fl1, fs1, fk1, fq1) => (∀ k : Nat, 0 ≤ fl1 k ∧ fl1 k ≤ 15) ∧ (∀ k : Nat, 0 ≤ fs1 k ∧ fs1 k ≤ 15) ∧ (zOr fT (fDa nw.toNat + fPk nw.toNat).toNat (8 * fDa nw.toNat + bt) (8 * fDa nw.toNat + b1) r1 sy1 di1 fl1 fk1) ∧ 0 ≤ sy1 ∧ 0 ≤ di1 ∧ sy1 + di1 ≤ 320 ∧ bt ≤ b1 ∧ b1 ≤ 8 * fPk nw.toNat ∧ (-2147483648 ≤ r1 ∧ r1 ≤ 2147483647) ∧ 0 ≤ r1 ∧ r1 ≤ 100) (fun u9 t => zB D ((fun (u9 : Int × Int × Int × Int × (Nat → Int) × (Nat → Int) × (Nat → Int32) × (Nat → Int32)) => match u9 with | (b1, r1, sy1, di1, fl1, fs1, fk1, fq1) => [(qm, .inr (8, [.ref qT, .int (iI len), .int (iI op), .int (iI fp), .int (iI bu), .int (iI ra), .int (iI en), .ref qMe, .ref qPk, .ref qSz, .ref qSu, .ref qDa, .ref qLo, .ref qLe, .ref qNa, .ref qNs, .ref qSt, .ref qSa, .ref qCo, .ref qWr, .int (iI to), .int (iI nw), .int (iI b1), .int (iI r1), .ref qLn, .ref qSm, .ref qCd, .ref qSc, .int (iI sy1), .int (iI di1), .int (iI th)])), (qT, .inl (cT, 20000, .inl fT)), (qPk, .inl (cPk, 64, .inr (.inl (fun k => lI (fPk k))))), (qDa, .inl (cDa, 64, .inl (fun k => iI (fDa k)))), (qLn, .inl (cLn, 320, .inl (fun k => iI (fl1 k)))), (qSm, .inl (cSm, 19, .inl (fun k => iI (fs1 k)))), (qCd, .inl (cCd, 320, .inl fk1)), (qSc, .inl (cSc, 19, .inl fq1))]) u9) ((fun (u9 : Int × Int × Int × Int × (Nat → Int) × (Nat → Int) × (Nat → Int32) × (Nat → Int32)) => match u9 with | (b1, r1, sy1, di1, fl1, fs1, fk1, fq1) => [(cT, .byte), (cPk, .long), (cDa, .int), (cLn, .int), (cSm, .int), (cCd, .int), (cSc, .int)]) u9) A t) A) A) [.ref qm].toArray s 0 0 A) (F0 m 269 ls []) := by
                                intro ti b6 r6 H locs ls hti2 hb1 hr1 hti hP hD hS hl
                                refine lv_aload_n hx hb d_M_readCodes_269 rfl (lv_at hl 4 rfl) ?_
                                refine va_get (ci := 8) (C := "ZipGuardModel") (T := F_M) (N := 31) hx hb ht zi_M hown hK hP 0 rfl rfl 23 (by decide) (ht _ zm_775) (fun _ h9 => h9) rfl d_M_readCodes_270 ?_
                                refine zv_if_eq (tgt := 277) hx hb d_M_readCodes_273 (by decide) (by omega) (fun hc_78 => ?_) (fun hc_78 => ?_)
                                · skip
                                  have jn_79 : ∀  (H : Heap) (locs : List Loc) (ls : Array Slot), (x_72 = 16 → 1 ≤ dn) → va_P D zcl [(qm, .inr (8, [.ref qT, .int (iI len), .int (iI op), .int (iI fp), .int (iI bu), .int (iI ra), .int (iI en), .ref qMe, .ref qPk, .ref qSz, .ref qSu, .ref qDa, .ref qLo, .ref qLe, .ref qNa, .ref qNs, .ref qSt, .ref qSa, .ref qCo, .ref qWr, .int (iI to), .int (iI nw), .int (iI b6), .int (iI r6), .ref qLn, .ref qSm, .ref qCd, .ref qSc, .int (iI (x_3 + 257)), .int (iI (x_9 + 1)), .int (iI th)])), (qT, .inl (cT, 20000, .inl fT)), (qPk, .inl (cPk, 64, .inr (.inl (fun k => lI (fPk k))))), (qDa, .inl (cDa, 64, .inl (fun k => iI (fDa k)))), (qLn, .inl (cLn, 320, .inl (fun k => iI (l5 k)))), (qSm, .inl (cSm, 19, .inl (fun k => iI (s9 k)))), (qCd, .inl (cCd, 320, .inl fCd)), (qSc, .inl (cSc, 19, .inl f_29))] H → va_D A [(qm, .inr (8, [.ref qT, .int (iI len), .int (iI op), .int (iI fp), .int (iI bu), .int (iI ra), .int (iI en), .ref qMe, .ref qPk, .ref qSz, .ref qSu, .ref qDa, .ref qLo, .ref qLe, .ref qNa, .ref qNs, .ref qSt, .ref qSa, .ref qCo, .ref qWr, .int (iI to), .int (iI nw), .int (iI b6), .int (iI r6), .ref qLn, .ref qSm, .ref qCd, .ref qSc, .int (iI (x_3 + 257)), .int (iI (x_9 + 1)), .int (iI th)])), (qT, .inl (cT, 20000, .inl fT)), (qPk, .inl (cPk, 64, .inr (.inl (fun k => lI (fPk k))))), (qDa, .inl (cDa, 64, .inl (fun k => iI (fDa k)))), (qLn, .inl (cLn, 320, .inl (fun k => iI (l5 k)))), (qSm, .inl (cSm, 19, .inl (fun k => iI (s9 k)))), (qCd, .inl (cCd, 320, .inl fCd)), (qSc, .inl (cSc, 19, .inl f_29))] → va_S A s.heap H locs → lv_has ls 8 [(4, .int (iI x_72)), (3, .int (iI (x_3 + x_9 + 258))), (2, .int (iI dn)), (1, .int (iI (x_15 + 4))), (0, .ref qm), (5, .int (iI ti))] → W p l e { frames := 3, cells := 0, slots := 0, locals := 74 } s m [.ref qm].toArray below meth c H locs 0 0 (MQ below ((fun A => va_Qv (fun (u9 : Int × Int × Int × Int × (Nat → Int) × (Nat → Int) × (Nat → Int32) × (Nat → Int32)) => match u9 with | (b1, r1, sy1, di1, fl1, fs1, fk1, fq1) => (∀ k : Nat, 0 ≤ fl1 k ∧ fl1 k ≤ 15) ∧ (∀ k : Nat, 0 ≤ fs1 k ∧ fs1 k ≤ 15) ∧ (zOr fT (fDa nw.toNat + fPk nw.toNat).toNat (8 * fDa nw.toNat + bt) (8 * fDa nw.toNat + b1) r1 sy1 di1 fl1 fk1) ∧ 0 ≤ sy1 ∧ 0 ≤ di1 ∧ sy1 + di1 ≤ 320 ∧ bt ≤ b1 ∧ b1 ≤ 8 * fPk nw.toNat ∧ (-2147483648 ≤ r1 ∧ r1 ≤ 2147483647) ∧ 0 ≤ r1 ∧ r1 ≤ 100) (fun u9 t => zB D ((fun (u9 : Int × Int × Int × Int × (Nat → Int) × (Nat → Int) × (Nat → Int32) × (Nat → Int32)) => match u9 with | (b1, r1, sy1, di1, fl1, fs1, fk1, fq1) => [(qm, .inr (8, [.ref qT, .int (iI len), .int (iI op), .int (iI fp), .int (iI bu), .int (iI ra), .int (iI en), .ref qMe, .ref qPk, .ref qSz, .ref qSu, .ref qDa, .ref qLo, .ref qLe, .ref qNa, .ref qNs, .ref qSt, .ref qSa, .ref qCo, .ref qWr, .int (iI to), .int (iI nw), .int (iI b1), .int (iI r1), .ref qLn, .ref qSm, .ref qCd, .ref qSc, .int (iI sy1), .int (iI di1), .int (iI th)])), (qT, .inl (cT, 20000, .inl fT)), (qPk, .inl (cPk, 64, .inr (.inl (fun k => lI (fPk k))))), (qDa, .inl (cDa, 64, .inl (fun k => iI (fDa k)))), (qLn, .inl (cLn, 320, .inl (fun k => iI (fl1 k)))), (qSm, .inl (cSm, 19, .inl (fun k => iI (fs1 k)))), (qCd, .inl (cCd, 320, .inl fk1)), (qSc, .inl (cSc, 19, .inl fq1))]) u9) ((fun (u9 : Int × Int × Int × Int × (Nat → Int) × (Nat → Int) × (Nat → Int32) × (Nat → Int32)) => match u9 with | (b1, r1, sy1, di1, fl1, fs1, fk1, fq1) => [(cT, .byte), (cPk, .long), (cDa, .int), (cLn, .int), (cSm, .int), (cCd, .int), (cSc, .int)]) u9) A t) A) A) [.ref qm].toArray s 0 0 A) (F0 m 288 ls []) := by
                                    intro  H locs ls h16 hP hD hS hl
                                    refine lv_iload_n hx hb d_M_readCodes_288 rfl (lv_at hl 2 rfl) ?_
                                    refine lv_iload hx hb d_M_readCodes_289 (lv_at hl 5 rfl) ?_
                                    refine zv_iadd (z := dn + ti) hx hb d_M_readCodes_291 (by omega) ?_
                                    refine lv_iload_n hx hb d_M_readCodes_292 rfl (lv_at hl 1 rfl) ?_
                                    refine zv_icmp_le (tgt := 304) hx hb d_M_readCodes_293 (by decide) (by omega) (by omega) (fun hc_80 => ?_) (fun hc_80 => ?_)
                                    · skip
                                      have jn_81 : ∀ (vv : Int) (H : Heap) (locs : List Loc) (ls : Array Slot), (0 ≤ vv ∧ vv ≤ 15) → (zVv x_72 dn vv l5) → va_P D zcl [(qm, .inr (8, [.ref qT, .int (iI len), .int (iI op), .int (iI fp), .int (iI bu), .int (iI ra), .int (iI en), .ref qMe, .ref qPk, .ref qSz, .ref qSu, .ref qDa, .ref qLo, .ref qLe, .ref qNa, .ref qNs, .ref qSt, .ref qSa, .ref qCo, .ref qWr, .int (iI to), .int (iI nw), .int (iI b6), .int (iI r6), .ref qLn, .ref qSm, .ref qCd, .ref qSc, .int (iI (x_3 + 257)), .int (iI (x_9 + 1)), .int (iI th)])), (qT, .inl (cT, 20000, .inl fT)), (qPk, .inl (cPk, 64, .inr (.inl (fun k => lI (fPk k))))), (qDa, .inl (cDa, 64, .inl (fun k => iI (fDa k)))), (qLn, .inl (cLn, 320, .inl (fun k => iI (l5 k)))), (qSm, .inl (cSm, 19, .inl (fun k => iI (s9 k)))), (qCd, .inl (cCd, 320, .inl fCd)), (qSc, .inl (cSc, 19, .inl f_29))] H → va_D A [(qm, .inr (8, [.ref qT, .int (iI len), .int (iI op), .int (iI fp), .int (iI bu), .int (iI ra), .int (iI en), .ref qMe, .ref qPk, .ref qSz, .ref qSu, .ref qDa, .ref qLo, .ref qLe, .ref qNa, .ref qNs, .ref qSt, .ref qSa, .ref qCo, .ref qWr, .int (iI to), .int (iI nw), .int (iI b6), .int (iI r6), .ref qLn, .ref qSm, .ref qCd, .ref qSc, .int (iI (x_3 + 257)), .int (iI (x_9 + 1)), .int (iI th)])), (qT, .inl (cT, 20000, .inl fT)), (qPk, .inl (cPk, 64, .inr (.inl (fun k => lI (fPk k))))), (qDa, .inl (cDa, 64, .inl (fun k => iI (fDa k)))), (qLn, .inl (cLn, 320, .inl (fun k => iI (l5 k)))), (qSm, .inl (cSm, 19, .inl (fun k => iI (s9 k)))), (qCd, .inl (cCd, 320, .inl fCd)), (qSc, .inl (cSc, 19, .inl f_29))] → va_S A s.heap H locs → lv_has ls 8 [(4, .int (iI x_72)), (3, .int (iI (x_3 + x_9 + 258))), (2, .int (iI dn)), (1, .int (iI (x_15 + 4))), (0, .ref qm), (5, .int (iI ti)), (6, .int (iI vv))] → W p l e { frames := 3, cells := 0, slots := 0, locals := 74 } s m [.ref qm].toArray below meth c H locs 0 0 (MQ below ((fun A => va_Qv (fun (u9 : Int × Int × Int × Int × (Nat → Int) × (Nat → Int) × (Nat → Int32) × (Nat → Int32)) => match u9 with | (b1, r1, sy1, di1, fl1, fs1, fk1, fq1) => (∀ k : Nat, 0 ≤ fl1 k ∧ fl1 k ≤ 15) ∧ (∀ k : Nat, 0 ≤ fs1 k ∧ fs1 k ≤ 15) ∧ (zOr fT (fDa nw.toNat + fPk nw.toNat).toNat (8 * fDa nw.toNat + bt) (8 * fDa nw.toNat + b1) r1 sy1 di1 fl1 fk1) ∧ 0 ≤ sy1 ∧ 0 ≤ di1 ∧ sy1 + di1 ≤ 320 ∧ bt ≤ b1 ∧ b1 ≤ 8 * fPk nw.toNat ∧ (-2147483648 ≤ r1 ∧ r1 ≤ 2147483647) ∧ 0 ≤ r1 ∧ r1 ≤ 100) (fun u9 t => zB D ((fun (u9 : Int × Int × Int × Int × (Nat → Int) × (Nat → Int) × (Nat → Int32) × (Nat → Int32)) => match u9 with | (b1, r1, sy1, di1, fl1, fs1, fk1, fq1) => [(qm, .inr (8, [.ref qT, .int (iI len), .int (iI op), .int (iI fp), .int (iI bu), .int (iI ra), .int (iI en), .ref qMe, .ref qPk, .ref qSz, .ref qSu, .ref qDa, .ref qLo, .ref qLe, .ref qNa, .ref qNs, .ref qSt, .ref qSa, .ref qCo, .ref qWr, .int (iI to), .int (iI nw), .int (iI b1), .int (iI r1), .ref qLn, .ref qSm, .ref qCd, .ref qSc, .int (iI sy1), .int (iI di1), .int (iI th)])), (qT, .inl (cT, 20000, .inl fT)), (qPk, .inl (cPk, 64, .inr (.inl (fun k => lI (fPk k))))), (qDa, .inl (cDa, 64, .inl (fun k => iI (fDa k)))), (qLn, .inl (cLn, 320, .inl (fun k => iI (fl1 k)))), (qSm, .inl (cSm, 19, .inl (fun k => iI (fs1 k)))), (qCd, .inl (cCd, 320, .inl fk1)), (qSc, .inl (cSc, 19, .inl fq1))]) u9) ((fun (u9 : Int × Int × Int × Int × (Nat → Int) × (Nat → Int) × (Nat → Int32) × (Nat → Int32)) => match u9 with | (b1, r1, sy1, di1, fl1, fs1, fk1, fq1) => [(cT, .byte), (cPk, .long), (cDa, .int), (cLn, .int), (cSm, .int), (cCd, .int), (cSc, .int)]) u9) A t) A) A) [.ref qm].toArray s 0 0 A) (F0 m 337 ls []) := by
                                        intro vv H locs ls hvv hv2 hP hD hS hl
                                        refine lv_iconst (v := iI 0) hx hb d_M_readCodes_337 (by decide) ?_
                                        refine lv_istore (lv' := [(7, .int (iI 0)), (4, .int (iI x_72)), (3, .int (iI (x_3 + x_9 + 258))), (2, .int (iI dn)), (1, .int (iI (x_15 + 4))), (0, .ref qm), (5, .int (iI ti)), (6, .int (iI vv))]) hx hb d_M_readCodes_338 hl (by decide) rfl (fun ls hl => ?_)
                                        have lp340 : ∀ (j : Nat) (k7 : Int) (l7 : Nat → Int) (H : Heap) (locs : List Loc) (ls : Array Slot), (0 ≤ k7 ∧ k7 ≤ ti) → (∀ k : Nat, 0 ≤ l7 k ∧ l7 k ≤ 15) → (∀ k : Int, 0 ≤ k → k < dn → l7 k.toNat = l5 k.toNat) → (∀ t : Int, 0 ≤ t → t < k7 → l7 (dn + t).toNat = vv) → (ti - k7 < (j : Int)) → va_P D zcl [(qm, .inr (8, [.ref qT, .int (iI len), .int (iI op), .int (iI fp), .int (iI bu), .int (iI ra), .int (iI en), .ref qMe, .ref qPk, .ref qSz, .ref qSu, .ref qDa, .ref qLo, .ref qLe, .ref qNa, .ref qNs, .ref qSt, .ref qSa, .ref qCo, .ref qWr, .int (iI to), .int (iI nw), .int (iI b6), .int (iI r6), .ref qLn, .ref qSm, .ref qCd, .ref qSc, .int (iI (x_3 + 257)), .int (iI (x_9 + 1)), .int (iI th)])), (qT, .inl (cT, 20000, .inl fT)), (qPk, .inl (cPk, 64, .inr (.inl (fun k => lI (fPk k))))), (qDa, .inl (cDa, 64, .inl (fun k => iI (fDa k)))), (qLn, .inl (cLn, 320, .inl (fun k => iI (l7 k)))), (qSm, .inl (cSm, 19, .inl (fun k => iI (s9 k)))), (qCd, .inl (cCd, 320, .inl fCd)), (qSc, .inl (cSc, 19, .inl f_29))] H → va_D A [(qm, .inr (8, [.ref qT, .int (iI len), .int (iI op), .int (iI fp), .int (iI bu), .int (iI ra), .int (iI en), .ref qMe, .ref qPk, .ref qSz, .ref qSu, .ref qDa, .ref qLo, .ref qLe, .ref qNa, .ref qNs, .ref qSt, .ref qSa, .ref qCo, .ref qWr, .int (iI to), .int (iI nw), .int (iI b6), .int (iI r6), .ref qLn, .ref qSm, .ref qCd, .ref qSc, .int (iI (x_3 + 257)), .int (iI (x_9 + 1)), .int (iI th)])), (qT, .inl (cT, 20000, .inl fT)), (qPk, .inl (cPk, 64, .inr (.inl (fun k => lI (fPk k))))), (qDa, .inl (cDa, 64, .inl (fun k => iI (fDa k)))), (qLn, .inl (cLn, 320, .inl (fun k => iI (l7 k)))), (qSm, .inl (cSm, 19, .inl (fun k => iI (s9 k)))), (qCd, .inl (cCd, 320, .inl fCd)), (qSc, .inl (cSc, 19, .inl f_29))] → va_S A s.heap H locs → lv_has ls 8 [(7, .int (iI k7)), (4, .int (iI x_72)), (3, .int (iI (x_3 + x_9 + 258))), (2, .int (iI dn)), (1, .int (iI (x_15 + 4))), (0, .ref qm), (5, .int (iI ti)), (6, .int (iI vv))] → W p l e { frames := 3, cells := 0, slots := 0, locals := 74 } s m [.ref qm].toArray below meth c H locs 0 0 (MQ below ((fun A => va_Qv (fun (u9 : Int × Int × Int × Int × (Nat → Int) × (Nat → Int) × (Nat → Int32) × (Nat → Int32)) => match u9 with | (b1, r1, sy1, di1, fl1, fs1, fk1, fq1) => (∀ k : Nat, 0 ≤ fl1 k ∧ fl1 k ≤ 15) ∧ (∀ k : Nat, 0 ≤ fs1 k ∧ fs1 k ≤ 15) ∧ (zOr fT (fDa nw.toNat + fPk nw.toNat).toNat (8 * fDa nw.toNat + bt) (8 * fDa nw.toNat + b1) r1 sy1 di1 fl1 fk1) ∧ 0 ≤ sy1 ∧ 0 ≤ di1 ∧ sy1 + di1 ≤ 320 ∧ bt ≤ b1 ∧ b1 ≤ 8 * fPk nw.toNat ∧ (-2147483648 ≤ r1 ∧ r1 ≤ 2147483647) ∧ 0 ≤ r1 ∧ r1 ≤ 100) (fun u9 t => zB D ((fun (u9 : Int × Int × Int × Int × (Nat → Int) × (Nat → Int) × (Nat → Int32) × (Nat → Int32)) => match u9 with | (b1, r1, sy1, di1, fl1, fs1, fk1, fq1) => [(qm, .inr (8, [.ref qT, .int (iI len), .int (iI op), .int (iI fp), .int (iI bu), .int (iI ra), .int (iI en), .ref qMe, .ref qPk, .ref qSz, .ref qSu, .ref qDa, .ref qLo, .ref qLe, .ref qNa, .ref qNs, .ref qSt, .ref qSa, .ref qCo, .ref qWr, .int (iI to), .int (iI nw), .int (iI b1), .int (iI r1), .ref qLn, .ref qSm, .ref qCd, .ref qSc, .int (iI sy1), .int (iI di1), .int (iI th)])), (qT, .inl (cT, 20000, .inl fT)), (qPk, .inl (cPk, 64, .inr (.inl (fun k => lI (fPk k))))), (qDa, .inl (cDa, 64, .inl (fun k => iI (fDa k)))), (qLn, .inl (cLn, 320, .inl (fun k => iI (fl1 k)))), (qSm, .inl (cSm, 19, .inl (fun k => iI (fs1 k)))), (qCd, .inl (cCd, 320, .inl fk1)), (qSc, .inl (cSc, 19, .inl fq1))]) u9) ((fun (u9 : Int × Int × Int × Int × (Nat → Int) × (Nat → Int) × (Nat → Int32) × (Nat → Int32)) => match u9 with | (b1, r1, sy1, di1, fl1, fs1, fk1, fq1) => [(cT, .byte), (cPk, .long), (cDa, .int), (cLn, .int), (cSm, .int), (cCd, .int), (cSc, .int)]) u9) A t) A) A) [.ref qm].toArray s 0 0 A) (F0 m 340 ls []) := by
                                          intro j
                                          induction j with
                                          | zero => intro k7 l7 H locs ls hk7 hl7 hq1 hq2 hj340 hP hD hS hl; exfalso; omega
                                          | succ j ih340 =>
                                            intro k7 l7 H locs ls hk7 hl7 hq1 hq2 hj340 hP hD hS hl
                                            refine lv_iload hx hb d_M_readCodes_340 (lv_at hl 0 rfl) ?_
                                            refine lv_iload hx hb d_M_readCodes_342 (lv_at hl 6 rfl) ?_
                                            refine zv_icmp_ge (tgt := 364) hx hb d_M_readCodes_344 (by decide) (by omega) (by omega) (fun hc_82 => ?_) (fun hc_82 => ?_)
                                            · skip
                                              refine lv_iload_n hx hb d_M_readCodes_364 rfl (lv_at hl 3 rfl) ?_
                                              refine lv_iload hx hb d_M_readCodes_365 (lv_at hl 6 rfl) ?_
                                              refine zv_iadd (z := dn + ti) hx hb d_M_readCodes_367 (by omega) ?_
                                              refine lv_istore_n (lv' := [(2, .int (iI (dn + ti))), (7, .int (iI k7)), (4, .int (iI x_72)), (3, .int (iI (x_3 + x_9 + 258))), (1, .int (iI (x_15 + 4))), (0, .ref qm), (5, .int (iI ti)), (6, .int (iI vv))]) hx hb d_M_readCodes_368 rfl hl (by decide) rfl (fun ls hl => ?_)
                                              refine lv_goto (tgt := 176) hx hb d_M_readCodes_369 (by decide) ?_
                                              exact ih176 (dn + ti) b6 r6 l7 _ _ _ (by omega) hl7 (by omega) (by omega) (by omega) (fun h9 => zRw_s hrw9 (by omega) hp74.1 (by omega) (by omega) (by omega) hti (by omega) h16 (by omega) hv2 hq1 (fun t h1 h2 => hq2 t h1 (by omega))) (by omega) hP hD hS (lv_sub hl [3, 0, 4, 5] rfl)
                                            · skip
                                              refine lv_aload_n hx hb d_M_readCodes_347 rfl (lv_at hl 5 rfl) ?_
                                              refine va_get (ci := 8) (C := "ZipGuardModel") (T := F_M) (N := 31) hx hb ht zi_M hown hK hP 0 rfl rfl 24 (by decide) (ht _ zm_776) (fun _ h9 => h9) rfl d_M_readCodes_348 ?_
                                              refine lv_iload_n hx hb d_M_readCodes_351 rfl (lv_at hl 3 rfl) ?_
                                              refine lv_iload hx hb d_M_readCodes_352 (lv_at hl 0 rfl) ?_
                                              refine zv_iadd (z := dn + k7) hx hb d_M_readCodes_354 (by omega) ?_
                                              refine lv_iload hx hb d_M_readCodes_355 (lv_at hl 7 rfl) ?_
                                              refine zv_iast hx hb hK hP hD hS 4 3 rfl rfl (by omega) (by decide) d_M_readCodes_357 (fun g_83 H locs hg_84 hP hD hS => ?_)
                                              have hP : va_P D zcl [(qm, .inr (8, [.ref qT, .int (iI len), .int (iI op), .int (iI fp), .int (iI bu), .int (iI ra), .int (iI en), .ref qMe, .ref qPk, .ref qSz, .ref qSu, .ref qDa, .ref qLo, .ref qLe, .ref qNa, .ref qNs, .ref qSt, .ref qSa, .ref qCo, .ref qWr, .int (iI to), .int (iI nw), .int (iI b6), .int (iI r6), .ref qLn, .ref qSm, .ref qCd, .ref qSc, .int (iI (x_3 + 257)), .int (iI (x_9 + 1)), .int (iI th)])), (qT, .inl (cT, 20000, .inl fT)), (qPk, .inl (cPk, 64, .inr (.inl (fun k => lI (fPk k))))), (qDa, .inl (cDa, 64, .inl (fun k => iI (fDa k)))), (qLn, .inl (cLn, 320, .inl (fun k => iI (g_83 k)))), (qSm, .inl (cSm, 19, .inl (fun k => iI (s9 k)))), (qCd, .inl (cCd, 320, .inl fCd)), (qSc, .inl (cSc, 19, .inl f_29))] H := hP
                                              have hD : va_D A [(qm, .inr (8, [.ref qT, .int (iI len), .int (iI op), .int (iI fp), .int (iI bu), .int (iI ra), .int (iI en), .ref qMe, .ref qPk, .ref qSz, .ref qSu, .ref qDa, .ref qLo, .ref qLe, .ref qNa, .ref qNs, .ref qSt, .ref qSa, .ref qCo, .ref qWr, .int (iI to), .int (iI nw), .int (iI b6), .int (iI r6), .ref qLn, .ref qSm, .ref qCd, .ref qSc, .int (iI (x_3 + 257)), .int (iI (x_9 + 1)), .int (iI th)])), (qT, .inl (cT, 20000, .inl fT)), (qPk, .inl (cPk, 64, .inr (.inl (fun k => lI (fPk k))))), (qDa, .inl (cDa, 64, .inl (fun k => iI (fDa k)))), (qLn, .inl (cLn, 320, .inl (fun k => iI (g_83 k)))), (qSm, .inl (cSm, 19, .inl (fun k => iI (s9 k)))), (qCd, .inl (cCd, 320, .inl fCd)), (qSc, .inl (cSc, 19, .inl f_29))] := hD
                                              have hf_85 := zup_all hl7 hg_84 (by omega)
                                              refine lv_iinc (k := 0) (v := iI (k7 + 1)) (lv' := [(7, .int (iI (k7 + 1))), (4, .int (iI x_72)), (3, .int (iI (x_3 + x_9 + 258))), (2, .int (iI dn)), (1, .int (iI (x_15 + 4))), (0, .ref qm), (5, .int (iI ti)), (6, .int (iI vv))]) hx hb d_M_readCodes_358 hl rfl (zinc (by omega)) (by decide) rfl (fun ls hl => ?_)
                                              refine lv_goto (tgt := 340) hx hb d_M_readCodes_361 (by decide) ?_
                                              exact ih340 (k7 + 1) g_83 _ _ _ (by omega) hf_85 (fun k h1 h2 => by rw [hg_84, zup_ne (by omega)]; exact hq1 k h1 h2) (zfv_s hq2 hg_84 (by omega)) (by omega) hP hD hS hl
                                        exact lp340 ((ti - 0 + 1 : Int)).toNat 0 l5 _ _ _ (by omega) hl5 (fun _ _ _ => rfl) (fun t h1 h2 => absurd h2 (by omega)) (by omega) hP hD hS hl
                                      refine lv_iload hx hb d_M_readCodes_304 (lv_at hl 0 rfl) ?_
                                      refine lv_bipush (v := iI 16) hx hb d_M_readCodes_306 (by decide) ?_
                                      refine zv_icmp_ge (tgt := 316) hx hb d_M_readCodes_308 (by decide) (by omega) (by omega) (fun hc_86 => ?_) (fun hc_86 => ?_)
                                      · skip
                                        refine lv_iload hx hb d_M_readCodes_316 (lv_at hl 0 rfl) ?_
                                        refine lv_bipush (v := iI 16) hx hb d_M_readCodes_318 (by decide) ?_
                                        refine zv_icmp_ne (tgt := 334) hx hb d_M_readCodes_320 (by decide) (by omega) (by omega) (fun hc_87 => ?_) (fun hc_87 => ?_)
                                        · skip
                                          refine lv_iconst (v := iI 0) hx hb d_M_readCodes_334 (by decide) ?_
                                          refine lv_istore (lv' := [(6, .int (iI 0)), (4, .int (iI x_72)), (3, .int (iI (x_3 + x_9 + 258))), (2, .int (iI dn)), (1, .int (iI (x_15 + 4))), (0, .ref qm), (5, .int (iI ti))]) hx hb d_M_readCodes_335 hl (by decide) rfl (fun ls hl => ?_)
                                          exact jn_81 0 _ _ _ (by omega) (Or.inr (Or.inr ⟨by omega, rfl⟩)) hP hD hS (lv_sub hl [1, 2, 3, 4, 5, 6, 0] rfl)
                                        · skip
                                          refine lv_aload_n hx hb d_M_readCodes_323 rfl (lv_at hl 4 rfl) ?_
                                          refine va_get (ci := 8) (C := "ZipGuardModel") (T := F_M) (N := 31) hx hb ht zi_M hown hK hP 0 rfl rfl 24 (by decide) (ht _ zm_776) (fun _ h9 => h9) rfl d_M_readCodes_324 ?_
                                          refine lv_iload_n hx hb d_M_readCodes_327 rfl (lv_at hl 2 rfl) ?_
                                          refine lv_iconst (v := iI 1) hx hb d_M_readCodes_328 (by decide) ?_
                                          refine zv_isub (z := dn - 1) hx hb d_M_readCodes_329 (by omega) ?_
                                          refine zv_iald hx hb hK hP 4 3 rfl rfl (by omega) (by decide) d_M_readCodes_330 (fun x_88 hz_89 => ?_)
                                          have hf_90 := hl5 (dn - 1 : Int).toNat
                                          refine lv_goto (tgt := 335) hx hb d_M_readCodes_331 (by decide) ?_
                                          refine lv_istore (lv' := [(6, .int (iI x_88)), (4, .int (iI x_72)), (3, .int (iI (x_3 + x_9 + 258))), (2, .int (iI dn)), (1, .int (iI (x_15 + 4))), (0, .ref qm), (5, .int (iI ti))]) hx hb d_M_readCodes_335 hl (by decide) rfl (fun ls hl => ?_)
                                          exact jn_81 x_88 _ _ _ (by omega) (Or.inr (Or.inl ⟨by omega, hz_89⟩)) hP hD hS (lv_sub hl [1, 2, 3, 4, 5, 6, 0] rfl)
                                      · skip
                                        refine lv_iload hx hb d_M_readCodes_311 (lv_at hl 0 rfl) ?_
                                        refine lv_goto (tgt := 335) hx hb d_M_readCodes_313 (by decide) ?_
                                        refine lv_istore (lv' := [(6, .int (iI x_72)), (4, .int (iI x_72)), (3, .int (iI (x_3 + x_9 + 258))), (2, .int (iI dn)), (1, .int (iI (x_15 + 4))), (0, .ref qm), (5, .int (iI ti))]) hx hb d_M_readCodes_335 hl (by decide) rfl (fun ls hl => ?_)
                                        exact jn_81 x_72 _ _ _ (by omega) (Or.inl ⟨by omega, rfl⟩) hP hD hS (lv_sub hl [1, 2, 3, 4, 5, 6, 0] rfl)
                                    · skip
                                      refine lv_aload_n hx hb d_M_readCodes_296 rfl (lv_at hl 4 rfl) ?_
                                      refine lv_bipush (v := iI 33) hx hb d_M_readCodes_297 (by decide) ?_
                                      refine zji (wr := [(qT, .inl (cT, 20000, .inl fT)), (qPk, .inl (cPk, 64, .inr (.inl (fun k => lI (fPk k))))), (qDa, .inl (cDa, 64, .inl (fun k => iI (fDa k)))), (qLn, .inl (cLn, 320, .inl (fun k => iI (l5 k)))), (qSm, .inl (cSm, 19, .inl (fun k => iI (s9 k)))), (qCd, .inl (cCd, 320, .inl fCd)), (qSc, .inl (cSc, 19, .inl f_29))]) (va_runV (As := [.int (iI 33)]) (rest := []) ⟨hx, hb, hml, hown, ht⟩ (m_refuse l D _ qm qT len op fp bu ra en qMe qPk qSz qSu qDa qLo qLe qNa qNs qSt qSa qCo qWr to nw b6 r6 qLn qSm qCd qSc (x_3 + 257) (x_9 + 1) th 33 (by omega)) (cwV 1 ht (zt_goodV zm_965 zm_966 zm_52 zm_79 zm_967) rfl rfl rfl (by decide +kernel) ⟨Nat.le_of_ble_eq_true rfl, Nat.le_of_ble_eq_true rfl⟩) (zpreV zBlind_t hK hP hD [0] [] rfl (by decide) rfl (fun _ _ _ => trivial) (va_recv (q := ("ZipGuardModel", F_M, 31)) hK hP rfl (q0 := 0) (ci := 8) rfl)) rfl rfl hl.1 rfl (lv_room (Nat.le_of_ble_eq_true rfl)) d_M_readCodes_299 ⟨Nat.le_of_ble_eq_true rfl, Nat.le_of_ble_eq_true rfl⟩) hK hP hD hS hA [0] [1, 2, 3, 4, 5, 6, 7] rfl rfl (by decide) (by decide) (fun r92 u9 H locs hp93 hP hD hK hS => ?_)
                                      obtain ⟨r_91, rfl⟩ : ∃ z, z = u9 := ⟨u9, rfl⟩
                                      dsimp only at hp93 hP hD hK
                                      have hP : va_P D zcl [(qT, .inl (cT, 20000, .inl fT)), (qPk, .inl (cPk, 64, .inr (.inl (fun k => lI (fPk k))))), (qDa, .inl (cDa, 64, .inl (fun k => iI (fDa k)))), (qLn, .inl (cLn, 320, .inl (fun k => iI (l5 k)))), (qSm, .inl (cSm, 19, .inl (fun k => iI (s9 k)))), (qCd, .inl (cCd, 320, .inl fCd)), (qSc, .inl (cSc, 19, .inl f_29)), (qm, .inr (8, [.ref qT, .int (iI len), .int (iI op), .int (iI fp), .int (iI bu), .int (iI ra), .int (iI en), .ref qMe, .ref qPk, .ref qSz, .ref qSu, .ref qDa, .ref qLo, .ref qLe, .ref qNa, .ref qNs, .ref qSt, .ref qSa, .ref qCo, .ref qWr, .int (iI to), .int (iI nw), .int (iI b6), .int (iI r_91), .ref qLn, .ref qSm, .ref qCd, .ref qSc, .int (iI (x_3 + 257)), .int (iI (x_9 + 1)), .int (iI th)]))] H := hP
                                      have hD : va_D A [(qT, .inl (cT, 20000, .inl fT)), (qPk, .inl (cPk, 64, .inr (.inl (fun k => lI (fPk k))))), (qDa, .inl (cDa, 64, .inl (fun k => iI (fDa k)))), (qLn, .inl (cLn, 320, .inl (fun k => iI (l5 k)))), (qSm, .inl (cSm, 19, .inl (fun k => iI (s9 k)))), (qCd, .inl (cCd, 320, .inl fCd)), (qSc, .inl (cSc, 19, .inl f_29)), (qm, .inr (8, [.ref qT, .int (iI len), .int (iI op), .int (iI fp), .int (iI bu), .int (iI ra), .int (iI en), .ref qMe, .ref qPk, .ref qSz, .ref qSu, .ref qDa, .ref qLo, .ref qLe, .ref qNa, .ref qNs, .ref qSt, .ref qSa, .ref qCo, .ref qWr, .int (iI to), .int (iI nw), .int (iI b6), .int (iI r_91), .ref qLn, .ref qSm, .ref qCd, .ref qSc, .int (iI (x_3 + 257)), .int (iI (x_9 + 1)), .int (iI th)]))] := hD
                                      have hK : va_K D zcl [(cT, .byte), (cPk, .long), (cDa, .int), (cLn, .int), (cSm, .int), (cCd, .int), (cSc, .int)] s := hK
                                      obtain ⟨he_94, hp93⟩ := hp93
                                      subst he_94
                                      have hP := hP.sub (ws' := [(qm, .inr (8, [.ref qT, .int (iI len), .int (iI op), .int (iI fp), .int (iI bu), .int (iI ra), .int (iI en), .ref qMe, .ref qPk, .ref qSz, .ref qSu, .ref qDa, .ref qLo, .ref qLe, .ref qNa, .ref qNs, .ref qSt, .ref qSa, .ref qCo, .ref qWr, .int (iI to), .int (iI nw), .int (iI b6), .int (iI r_91), .ref qLn, .ref qSm, .ref qCd, .ref qSc, .int (iI (x_3 + 257)), .int (iI (x_9 + 1)), .int (iI th)])), (qT, .inl (cT, 20000, .inl fT)), (qPk, .inl (cPk, 64, .inr (.inl (fun k => lI (fPk k))))), (qDa, .inl (cDa, 64, .inl (fun k => iI (fDa k)))), (qLn, .inl (cLn, 320, .inl (fun k => iI (l5 k)))), (qSm, .inl (cSm, 19, .inl (fun k => iI (s9 k)))), (qCd, .inl (cCd, 320, .inl fCd)), (qSc, .inl (cSc, 19, .inl f_29))]) [7, 0, 1, 2, 3, 4, 5, 6] rfl
                                      have hD := hD.sub (ws' := [(qm, .inr (8, [.ref qT, .int (iI len), .int (iI op), .int (iI fp), .int (iI bu), .int (iI ra), .int (iI en), .ref qMe, .ref qPk, .ref qSz, .ref qSu, .ref qDa, .ref qLo, .ref qLe, .ref qNa, .ref qNs, .ref qSt, .ref qSa, .ref qCo, .ref qWr, .int (iI to), .int (iI nw), .int (iI b6), .int (iI r_91), .ref qLn, .ref qSm, .ref qCd, .ref qSc, .int (iI (x_3 + 257)), .int (iI (x_9 + 1)), .int (iI th)])), (qT, .inl (cT, 20000, .inl fT)), (qPk, .inl (cPk, 64, .inr (.inl (fun k => lI (fPk k))))), (qDa, .inl (cDa, 64, .inl (fun k => iI (fDa k)))), (qLn, .inl (cLn, 320, .inl (fun k => iI (l5 k)))), (qSm, .inl (cSm, 19, .inl (fun k => iI (s9 k)))), (qCd, .inl (cCd, 320, .inl fCd)), (qSc, .inl (cSc, 19, .inl f_29))]) [7, 0, 1, 2, 3, 4, 5, 6] (by decide) rfl
                                      have hK := hK.sub (tys' := [(cT, .byte), (cPk, .long), (cDa, .int), (cLn, .int), (cSm, .int), (cCd, .int), (cSc, .int)]) [0, 1, 2, 3, 4, 5, 6] rfl
                                      refine lv_pop hx hb d_M_readCodes_302 rfl ?_
                                      exact zretv hx hb hr hlk hK hP hD hS (b6, r_91, (x_3 + 257), (x_9 + 1), l5, s9, fCd, f_29) [0, 1, 2, 3, 4, 5, 6, 7] [0, 1, 2, 3, 4, 5, 6] rfl (by decide) rfl (⟨hl5, hs9, zOr_row (E := 8 * (fDa nw.toNat + fPk nw.toNat)) (p := 8 * fDa nw.toNat + b9) (n := x_15 + 4) (q1 := 8 * fDa nw.toNat + b_13) (all := x_3 + x_9 + 258) (by omega) (by omega) (by omega) (by omega) hlz (by omega) (by omega) (by omega) rfl (by omega) (zRw_bad hrw9 (by omega) hp74.1 (by omega) (by omega) (by omega) hti (by omega) (by omega) (by omega)) (by omega) (by omega) rfl, by omega⟩) (Nat.le_of_ble_eq_true rfl) (Nat.le_of_ble_eq_true rfl) d_M_readCodes_303
                                  refine lv_iload hx hb d_M_readCodes_277 (lv_at hl 0 rfl) ?_
                                  refine lv_bipush (v := iI 16) hx hb d_M_readCodes_279 (by decide) ?_
                                  refine zv_icmp_ne (tgt := 288) hx hb d_M_readCodes_281 (by decide) (by omega) (by omega) (fun hc_95 => ?_) (fun hc_95 => ?_)
                                  · skip
                                    exact jn_79  _ _ _ (by omega) hP hD hS hl
                                  · skip
                                    refine lv_iload_n hx hb d_M_readCodes_284 rfl (lv_at hl 2 rfl) ?_
                                    refine zv_if_eq (tgt := 296) hx hb d_M_readCodes_285 (by decide) (by omega) (fun hc_96 => ?_) (fun hc_96 => ?_)
                                    · skip
                                      refine lv_aload_n hx hb d_M_readCodes_296 rfl (lv_at hl 4 rfl) ?_
                                      refine lv_bipush (v := iI 33) hx hb d_M_readCodes_297 (by decide) ?_
                                      refine zji (wr := [(qT, .inl (cT, 20000, .inl fT)), (qPk, .inl (cPk, 64, .inr (.inl (fun k => lI (fPk k))))), (qDa, .inl (cDa, 64, .inl (fun k => iI (fDa k)))), (qLn, .inl (cLn, 320, .inl (fun k => iI (l5 k)))), (qSm, .inl (cSm, 19, .inl (fun k => iI (s9 k)))), (qCd, .inl (cCd, 320, .inl fCd)), (qSc, .inl (cSc, 19, .inl f_29))]) (va_runV (As := [.int (iI 33)]) (rest := []) ⟨hx, hb, hml, hown, ht⟩ (m_refuse l D _ qm qT len op fp bu ra en qMe qPk qSz qSu qDa qLo qLe qNa qNs qSt qSa qCo qWr to nw b6 r6 qLn qSm qCd qSc (x_3 + 257) (x_9 + 1) th 33 (by omega)) (cwV 1 ht (zt_goodV zm_965 zm_966 zm_52 zm_79 zm_967) rfl rfl rfl (by decide +kernel) ⟨Nat.le_of_ble_eq_true rfl, Nat.le_of_ble_eq_true rfl⟩) (zpreV zBlind_t hK hP hD [0] [] rfl (by decide) rfl (fun _ _ _ => trivial) (va_recv (q := ("ZipGuardModel", F_M, 31)) hK hP rfl (q0 := 0) (ci := 8) rfl)) rfl rfl hl.1 rfl (lv_room (Nat.le_of_ble_eq_true rfl)) d_M_readCodes_299 ⟨Nat.le_of_ble_eq_true rfl, Nat.le_of_ble_eq_true rfl⟩) hK hP hD hS hA [0] [1, 2, 3, 4, 5, 6, 7] rfl rfl (by decide) (by decide) (fun r98 u9 H locs hp99 hP hD hK hS => ?_)
                                      obtain ⟨r_97, rfl⟩ : ∃ z, z = u9 := ⟨u9, rfl⟩
                                      dsimp only at hp99 hP hD hK
                                      have hP : va_P D zcl [(qT, .inl (cT, 20000, .inl fT)), (qPk, .inl (cPk, 64, .inr (.inl (fun k => lI (fPk k))))), (qDa, .inl (cDa, 64, .inl (fun k => iI (fDa k)))), (qLn, .inl (cLn, 320, .inl (fun k => iI (l5 k)))), (qSm, .inl (cSm, 19, .inl (fun k => iI (s9 k)))), (qCd, .inl (cCd, 320, .inl fCd)), (qSc, .inl (cSc, 19, .inl f_29)), (qm, .inr (8, [.ref qT, .int (iI len), .int (iI op), .int (iI fp), .int (iI bu), .int (iI ra), .int (iI en), .ref qMe, .ref qPk, .ref qSz, .ref qSu, .ref qDa, .ref qLo, .ref qLe, .ref qNa, .ref qNs, .ref qSt, .ref qSa, .ref qCo, .ref qWr, .int (iI to), .int (iI nw), .int (iI b6), .int (iI r_97), .ref qLn, .ref qSm, .ref qCd, .ref qSc, .int (iI (x_3 + 257)), .int (iI (x_9 + 1)), .int (iI th)]))] H := hP
                                      have hD : va_D A [(qT, .inl (cT, 20000, .inl fT)), (qPk, .inl (cPk, 64, .inr (.inl (fun k => lI (fPk k))))), (qDa, .inl (cDa, 64, .inl (fun k => iI (fDa k)))), (qLn, .inl (cLn, 320, .inl (fun k => iI (l5 k)))), (qSm, .inl (cSm, 19, .inl (fun k => iI (s9 k)))), (qCd, .inl (cCd, 320, .inl fCd)), (qSc, .inl (cSc, 19, .inl f_29)), (qm, .inr (8, [.ref qT, .int (iI len), .int (iI op), .int (iI fp), .int (iI bu), .int (iI ra), .int (iI en), .ref qMe, .ref qPk, .ref qSz, .ref qSu, .ref qDa, .ref qLo, .ref qLe, .ref qNa, .ref qNs, .ref qSt, .ref qSa, .ref qCo, .ref qWr, .int (iI to), .int (iI nw), .int (iI b6), .int (iI r_97), .ref qLn, .ref qSm, .ref qCd, .ref qSc, .int (iI (x_3 + 257)), .int (iI (x_9 + 1)), .int (iI th)]))] := hD
                                      have hK : va_K D zcl [(cT, .byte), (cPk, .long), (cDa, .int), (cLn, .int), (cSm, .int), (cCd, .int), (cSc, .int)] s := hK
                                      obtain ⟨he_100, hp99⟩ := hp99
                                      subst he_100
                                      have hP := hP.sub (ws' := [(qm, .inr (8, [.ref qT, .int (iI len), .int (iI op), .int (iI fp), .int (iI bu), .int (iI ra), .int (iI en), .ref qMe, .ref qPk, .ref qSz, .ref qSu, .ref qDa, .ref qLo, .ref qLe, .ref qNa, .ref qNs, .ref qSt, .ref qSa, .ref qCo, .ref qWr, .int (iI to), .int (iI nw), .int (iI b6), .int (iI r_97), .ref qLn, .ref qSm, .ref qCd, .ref qSc, .int (iI (x_3 + 257)), .int (iI (x_9 + 1)), .int (iI th)])), (qT, .inl (cT, 20000, .inl fT)), (qPk, .inl (cPk, 64, .inr (.inl (fun k => lI (fPk k))))), (qDa, .inl (cDa, 64, .inl (fun k => iI (fDa k)))), (qLn, .inl (cLn, 320, .inl (fun k => iI (l5 k)))), (qSm, .inl (cSm, 19, .inl (fun k => iI (s9 k)))), (qCd, .inl (cCd, 320, .inl fCd)), (qSc, .inl (cSc, 19, .inl f_29))]) [7, 0, 1, 2, 3, 4, 5, 6] rfl
                                      have hD := hD.sub (ws' := [(qm, .inr (8, [.ref qT, .int (iI len), .int (iI op), .int (iI fp), .int (iI bu), .int (iI ra), .int (iI en), .ref qMe, .ref qPk, .ref qSz, .ref qSu, .ref qDa, .ref qLo, .ref qLe, .ref qNa, .ref qNs, .ref qSt, .ref qSa, .ref qCo, .ref qWr, .int (iI to), .int (iI nw), .int (iI b6), .int (iI r_97), .ref qLn, .ref qSm, .ref qCd, .ref qSc, .int (iI (x_3 + 257)), .int (iI (x_9 + 1)), .int (iI th)])), (qT, .inl (cT, 20000, .inl fT)), (qPk, .inl (cPk, 64, .inr (.inl (fun k => lI (fPk k))))), (qDa, .inl (cDa, 64, .inl (fun k => iI (fDa k)))), (qLn, .inl (cLn, 320, .inl (fun k => iI (l5 k)))), (qSm, .inl (cSm, 19, .inl (fun k => iI (s9 k)))), (qCd, .inl (cCd, 320, .inl fCd)), (qSc, .inl (cSc, 19, .inl f_29))]) [7, 0, 1, 2, 3, 4, 5, 6] (by decide) rfl
                                      have hK := hK.sub (tys' := [(cT, .byte), (cPk, .long), (cDa, .int), (cLn, .int), (cSm, .int), (cCd, .int), (cSc, .int)]) [0, 1, 2, 3, 4, 5, 6] rfl
                                      refine lv_pop hx hb d_M_readCodes_302 rfl ?_
                                      exact zretv hx hb hr hlk hK hP hD hS (b6, r_97, (x_3 + 257), (x_9 + 1), l5, s9, fCd, f_29) [0, 1, 2, 3, 4, 5, 6, 7] [0, 1, 2, 3, 4, 5, 6] rfl (by decide) rfl (⟨hl5, hs9, zOr_row (E := 8 * (fDa nw.toNat + fPk nw.toNat)) (p := 8 * fDa nw.toNat + b9) (n := x_15 + 4) (q1 := 8 * fDa nw.toNat + b_13) (all := x_3 + x_9 + 258) (by omega) (by omega) (by omega) (by omega) hlz (by omega) (by omega) (by omega) rfl (by omega) (zRw_bad hrw9 (by omega) hp74.1 (by omega) (by omega) (by omega) hti (by omega) (by omega) (by omega)) (by omega) (by omega) rfl, by omega⟩) (Nat.le_of_ble_eq_true rfl) (Nat.le_of_ble_eq_true rfl) d_M_readCodes_303
                                    · skip
                                      exact jn_79  _ _ _ (by omega) hP hD hS hl
                                · skip
                                  exact zretv hx hb hr hlk hK hP hD hS (b6, r6, (x_3 + 257), (x_9 + 1), l5, s9, fCd, f_29) [0, 1, 2, 3, 4, 5, 6, 7] [0, 1, 2, 3, 4, 5, 6] rfl (by decide) rfl (⟨hl5, hs9, zOr_row (E := 8 * (fDa nw.toNat + fPk nw.toNat)) (p := 8 * fDa nw.toNat + b9) (n := x_15 + 4) (q1 := 8 * fDa nw.toNat + b_13) (all := x_3 + x_9 + 258) (by omega) (by omega) (by omega) (by omega) hlz (by omega) (by omega) (by omega) rfl (by omega) (zRw_bt hrw9 (by omega) hp74.1 (by omega) (by omega) (by omega) hti (by omega)) (by omega) (by have h9 := zTi_r hti; omega) rfl, by have h9 := zTi_r hti; omega⟩) (Nat.le_of_ble_eq_true rfl) (Nat.le_of_ble_eq_true rfl) d_M_readCodes_276
                              refine lv_iload hx hb d_M_readCodes_213 (lv_at hl 0 rfl) ?_
                              refine lv_bipush (v := iI 16) hx hb d_M_readCodes_215 (by decide) ?_
                              refine zv_icmp_ge (tgt := 224) hx hb d_M_readCodes_217 (by decide) (by omega) (by omega) (fun hc_101 => ?_) (fun hc_101 => ?_)
                              · skip
                                refine lv_iload hx hb d_M_readCodes_224 (lv_at hl 0 rfl) ?_
                                refine lv_bipush (v := iI 16) hx hb d_M_readCodes_226 (by decide) ?_
                                refine zv_icmp_ne (tgt := 241) hx hb d_M_readCodes_228 (by decide) (by omega) (by omega) (fun hc_102 => ?_) (fun hc_102 => ?_)
                                · skip
                                  refine lv_iload hx hb d_M_readCodes_241 (lv_at hl 0 rfl) ?_
                                  refine lv_bipush (v := iI 17) hx hb d_M_readCodes_243 (by decide) ?_
                                  refine zv_icmp_ne (tgt := 258) hx hb d_M_readCodes_245 (by decide) (by omega) (by omega) (fun hc_103 => ?_) (fun hc_103 => ?_)
                                  · skip
                                    refine lv_bipush (v := iI 11) hx hb d_M_readCodes_258 (by decide) ?_
                                    refine lv_aload_n hx hb d_M_readCodes_260 rfl (lv_at hl 4 rfl) ?_
                                    refine lv_bipush (v := iI 7) hx hb d_M_readCodes_261 (by decide) ?_
                                    refine zji (wr := [(qLn, .inl (cLn, 320, .inl (fun k => iI (l5 k)))), (qSm, .inl (cSm, 19, .inl (fun k => iI (s9 k)))), (qCd, .inl (cCd, 320, .inl fCd)), (qSc, .inl (cSc, 19, .inl f_29))]) (va_runV (As := [.int (iI 7)]) (rest := [.int (iI 11)]) ⟨hx, hb, hml, hown, ht⟩ (m_bits l D _ qm qT len op fp bu ra en qMe qPk qSz qSu qDa qLo qLe qNa qNs qSt qSa qCo qWr to nw b_70 r_71 qLn qSm qCd qSc (x_3 + 257) (x_9 + 1) th cT fT cPk fPk cDa fDa 7 (by omega) (by omega) (by omega) (by omega) (by omega) (by omega)) (cwV 1 ht (zt_goodV zm_962 zm_963 zm_51 zm_79 zm_964) rfl rfl rfl (by decide +kernel) ⟨Nat.le_of_ble_eq_true rfl, Nat.le_of_ble_eq_true rfl⟩) (zpreV zBlind_t hK hP hD [0, 1, 2, 3] [0, 1, 2] rfl (by decide) rfl (fun _ _ _ => trivial) (va_recv (q := ("ZipGuardModel", F_M, 31)) hK hP rfl (q0 := 0) (ci := 8) rfl)) rfl rfl hl.1 rfl (lv_room (Nat.le_of_ble_eq_true rfl)) d_M_readCodes_263 ⟨Nat.le_of_ble_eq_true rfl, Nat.le_of_ble_eq_true rfl⟩) hK hP hD hS hA [0, 1, 2, 3] [4, 5, 6, 7] rfl rfl (by decide) (by decide) (fun r107 u9 H locs hp108 hP hD hK hS => ?_)
                                    obtain ⟨b_104, r_105, x_106⟩ := u9
                                    dsimp only at hp108 hP hD hK
                                    have hP : va_P D zcl [(qLn, .inl (cLn, 320, .inl (fun k => iI (l5 k)))), (qSm, .inl (cSm, 19, .inl (fun k => iI (s9 k)))), (qCd, .inl (cCd, 320, .inl fCd)), (qSc, .inl (cSc, 19, .inl f_29)), (qm, .inr (8, [.ref qT, .int (iI len), .int (iI op), .int (iI fp), .int (iI bu), .int (iI ra), .int (iI en), .ref qMe, .ref qPk, .ref qSz, .ref qSu, .ref qDa, .ref qLo, .ref qLe, .ref qNa, .ref qNs, .ref qSt, .ref qSa, .ref qCo, .ref qWr, .int (iI to), .int (iI nw), .int (iI b_104), .int (iI r_105), .ref qLn, .ref qSm, .ref qCd, .ref qSc, .int (iI (x_3 + 257)), .int (iI (x_9 + 1)), .int (iI th)])), (qT, .inl (cT, 20000, .inl fT)), (qPk, .inl (cPk, 64, .inr (.inl (fun k => lI (fPk k))))), (qDa, .inl (cDa, 64, .inl (fun k => iI (fDa k))))] H := hP
                                    have hD : va_D A [(qLn, .inl (cLn, 320, .inl (fun k => iI (l5 k)))), (qSm, .inl (cSm, 19, .inl (fun k => iI (s9 k)))), (qCd, .inl (cCd, 320, .inl fCd)), (qSc, .inl (cSc, 19, .inl f_29)), (qm, .inr (8, [.ref qT, .int (iI len), .int (iI op), .int (iI fp), .int (iI bu), .int (iI ra), .int (iI en), .ref qMe, .ref qPk, .ref qSz, .ref qSu, .ref qDa, .ref qLo, .ref qLe, .ref qNa, .ref qNs, .ref qSt, .ref qSa, .ref qCo, .ref qWr, .int (iI to), .int (iI nw), .int (iI b_104), .int (iI r_105), .ref qLn, .ref qSm, .ref qCd, .ref qSc, .int (iI (x_3 + 257)), .int (iI (x_9 + 1)), .int (iI th)])), (qT, .inl (cT, 20000, .inl fT)), (qPk, .inl (cPk, 64, .inr (.inl (fun k => lI (fPk k))))), (qDa, .inl (cDa, 64, .inl (fun k => iI (fDa k))))] := hD
                                    have hK : va_K D zcl [(cT, .byte), (cPk, .long), (cDa, .int), (cLn, .int), (cSm, .int), (cCd, .int), (cSc, .int), (cT, .byte), (cPk, .long), (cDa, .int)] s := hK
                                    obtain ⟨he_109, hp108⟩ := hp108
                                    subst he_109
                                    have hP := hP.sub (ws' := [(qm, .inr (8, [.ref qT, .int (iI len), .int (iI op), .int (iI fp), .int (iI bu), .int (iI ra), .int (iI en), .ref qMe, .ref qPk, .ref qSz, .ref qSu, .ref qDa, .ref qLo, .ref qLe, .ref qNa, .ref qNs, .ref qSt, .ref qSa, .ref qCo, .ref qWr, .int (iI to), .int (iI nw), .int (iI b_104), .int (iI r_105), .ref qLn, .ref qSm, .ref qCd, .ref qSc, .int (iI (x_3 + 257)), .int (iI (x_9 + 1)), .int (iI th)])), (qT, .inl (cT, 20000, .inl fT)), (qPk, .inl (cPk, 64, .inr (.inl (fun k => lI (fPk k))))), (qDa, .inl (cDa, 64, .inl (fun k => iI (fDa k)))), (qLn, .inl (cLn, 320, .inl (fun k => iI (l5 k)))), (qSm, .inl (cSm, 19, .inl (fun k => iI (s9 k)))), (qCd, .inl (cCd, 320, .inl fCd)), (qSc, .inl (cSc, 19, .inl f_29))]) [4, 5, 6, 7, 0, 1, 2, 3] rfl
                                    have hD := hD.sub (ws' := [(qm, .inr (8, [.ref qT, .int (iI len), .int (iI op), .int (iI fp), .int (iI bu), .int (iI ra), .int (iI en), .ref qMe, .ref qPk, .ref qSz, .ref qSu, .ref qDa, .ref qLo, .ref qLe, .ref qNa, .ref qNs, .ref qSt, .ref qSa, .ref qCo, .ref qWr, .int (iI to), .int (iI nw), .int (iI b_104), .int (iI r_105), .ref qLn, .ref qSm, .ref qCd, .ref qSc, .int (iI (x_3 + 257)), .int (iI (x_9 + 1)), .int (iI th)])), (qT, .inl (cT, 20000, .inl fT)), (qPk, .inl (cPk, 64, .inr (.inl (fun k => lI (fPk k))))), (qDa, .inl (cDa, 64, .inl (fun k => iI (fDa k)))), (qLn, .inl (cLn, 320, .inl (fun k => iI (l5 k)))), (qSm, .inl (cSm, 19, .inl (fun k => iI (s9 k)))), (qCd, .inl (cCd, 320, .inl fCd)), (qSc, .inl (cSc, 19, .inl f_29))]) [4, 5, 6, 7, 0, 1, 2, 3] (by decide) rfl
                                    have hK := hK.sub (tys' := [(cT, .byte), (cPk, .long), (cDa, .int), (cLn, .int), (cSm, .int), (cCd, .int), (cSc, .int)]) [0, 1, 2, 3, 4, 5, 6] rfl
                                    refine zv_iadd (z := x_106 + 11) hx hb d_M_readCodes_266 (by omega) ?_
                                    refine lv_istore (lv' := [(5, .int (iI (x_106 + 11))), (4, .int (iI x_72)), (3, .int (iI (x_3 + x_9 + 258))), (2, .int (iI dn)), (1, .int (iI (x_15 + 4))), (0, .ref qm)]) hx hb d_M_readCodes_267 hl (by decide) rfl (fun ls hl => ?_)
                                    exact jn_77 (x_106 + 11) b_104 r_105 _ _ _ (by omega) (by omega) (by omega) (zTi_b (ba := 11) (by omega) hp108.1 (by omega) (fun h9 => by omega) (by omega)) hP hD hS (lv_sub hl [1, 2, 3, 4, 5, 0] rfl)
                                  · skip
                                    refine lv_iconst (v := iI 3) hx hb d_M_readCodes_248 (by decide) ?_
                                    refine lv_aload_n hx hb d_M_readCodes_249 rfl (lv_at hl 4 rfl) ?_
                                    refine lv_iconst (v := iI 3) hx hb d_M_readCodes_250 (by decide) ?_
                                    refine zji (wr := [(qLn, .inl (cLn, 320, .inl (fun k => iI (l5 k)))), (qSm, .inl (cSm, 19, .inl (fun k => iI (s9 k)))), (qCd, .inl (cCd, 320, .inl fCd)), (qSc, .inl (cSc, 19, .inl f_29))]) (va_runV (As := [.int (iI 3)]) (rest := [.int (iI 3)]) ⟨hx, hb, hml, hown, ht⟩ (m_bits l D _ qm qT len op fp bu ra en qMe qPk qSz qSu qDa qLo qLe qNa qNs qSt qSa qCo qWr to nw b_70 r_71 qLn qSm qCd qSc (x_3 + 257) (x_9 + 1) th cT fT cPk fPk cDa fDa 3 (by omega) (by omega) (by omega) (by omega) (by omega) (by omega)) (cwV 1 ht (zt_goodV zm_962 zm_963 zm_51 zm_79 zm_964) rfl rfl rfl (by decide +kernel) ⟨Nat.le_of_ble_eq_true rfl, Nat.le_of_ble_eq_true rfl⟩) (zpreV zBlind_t hK hP hD [0, 1, 2, 3] [0, 1, 2] rfl (by decide) rfl (fun _ _ _ => trivial) (va_recv (q := ("ZipGuardModel", F_M, 31)) hK hP rfl (q0 := 0) (ci := 8) rfl)) rfl rfl hl.1 rfl (lv_room (Nat.le_of_ble_eq_true rfl)) d_M_readCodes_251 ⟨Nat.le_of_ble_eq_true rfl, Nat.le_of_ble_eq_true rfl⟩) hK hP hD hS hA [0, 1, 2, 3] [4, 5, 6, 7] rfl rfl (by decide) (by decide) (fun r113 u9 H locs hp114 hP hD hK hS => ?_)
                                    obtain ⟨b_110, r_111, x_112⟩ := u9
                                    dsimp only at hp114 hP hD hK
                                    have hP : va_P D zcl [(qLn, .inl (cLn, 320, .inl (fun k => iI (l5 k)))), (qSm, .inl (cSm, 19, .inl (fun k => iI (s9 k)))), (qCd, .inl (cCd, 320, .inl fCd)), (qSc, .inl (cSc, 19, .inl f_29)), (qm, .inr (8, [.ref qT, .int (iI len), .int (iI op), .int (iI fp), .int (iI bu), .int (iI ra), .int (iI en), .ref qMe, .ref qPk, .ref qSz, .ref qSu, .ref qDa, .ref qLo, .ref qLe, .ref qNa, .ref qNs, .ref qSt, .ref qSa, .ref qCo, .ref qWr, .int (iI to), .int (iI nw), .int (iI b_110), .int (iI r_111), .ref qLn, .ref qSm, .ref qCd, .ref qSc, .int (iI (x_3 + 257)), .int (iI (x_9 + 1)), .int (iI th)])), (qT, .inl (cT, 20000, .inl fT)), (qPk, .inl (cPk, 64, .inr (.inl (fun k => lI (fPk k))))), (qDa, .inl (cDa, 64, .inl (fun k => iI (fDa k))))] H := hP
                                    have hD : va_D A [(qLn, .inl (cLn, 320, .inl (fun k => iI (l5 k)))), (qSm, .inl (cSm, 19, .inl (fun k => iI (s9 k)))), (qCd, .inl (cCd, 320, .inl fCd)), (qSc, .inl (cSc, 19, .inl f_29)), (qm, .inr (8, [.ref qT, .int (iI len), .int (iI op), .int (iI fp), .int (iI bu), .int (iI ra), .int (iI en), .ref qMe, .ref qPk, .ref qSz, .ref qSu, .ref qDa, .ref qLo, .ref qLe, .ref qNa, .ref qNs, .ref qSt, .ref qSa, .ref qCo, .ref qWr, .int (iI to), .int (iI nw), .int (iI b_110), .int (iI r_111), .ref qLn, .ref qSm, .ref qCd, .ref qSc, .int (iI (x_3 + 257)), .int (iI (x_9 + 1)), .int (iI th)])), (qT, .inl (cT, 20000, .inl fT)), (qPk, .inl (cPk, 64, .inr (.inl (fun k => lI (fPk k))))), (qDa, .inl (cDa, 64, .inl (fun k => iI (fDa k))))] := hD
                                    have hK : va_K D zcl [(cT, .byte), (cPk, .long), (cDa, .int), (cLn, .int), (cSm, .int), (cCd, .int), (cSc, .int), (cT, .byte), (cPk, .long), (cDa, .int)] s := hK
                                    obtain ⟨he_115, hp114⟩ := hp114
                                    subst he_115
                                    have hP := hP.sub (ws' := [(qm, .inr (8, [.ref qT, .int (iI len), .int (iI op), .int (iI fp), .int (iI bu), .int (iI ra), .int (iI en), .ref qMe, .ref qPk, .ref qSz, .ref qSu, .ref qDa, .ref qLo, .ref qLe, .ref qNa, .ref qNs, .ref qSt, .ref qSa, .ref qCo, .ref qWr, .int (iI to), .int (iI nw), .int (iI b_110), .int (iI r_111), .ref qLn, .ref qSm, .ref qCd, .ref qSc, .int (iI (x_3 + 257)), .int (iI (x_9 + 1)), .int (iI th)])), (qT, .inl (cT, 20000, .inl fT)), (qPk, .inl (cPk, 64, .inr (.inl (fun k => lI (fPk k))))), (qDa, .inl (cDa, 64, .inl (fun k => iI (fDa k)))), (qLn, .inl (cLn, 320, .inl (fun k => iI (l5 k)))), (qSm, .inl (cSm, 19, .inl (fun k => iI (s9 k)))), (qCd, .inl (cCd, 320, .inl fCd)), (qSc, .inl (cSc, 19, .inl f_29))]) [4, 5, 6, 7, 0, 1, 2, 3] rfl
                                    have hD := hD.sub (ws' := [(qm, .inr (8, [.ref qT, .int (iI len), .int (iI op), .int (iI fp), .int (iI bu), .int (iI ra), .int (iI en), .ref qMe, .ref qPk, .ref qSz, .ref qSu, .ref qDa, .ref qLo, .ref qLe, .ref qNa, .ref qNs, .ref qSt, .ref qSa, .ref qCo, .ref qWr, .int (iI to), .int (iI nw), .int (iI b_110), .int (iI r_111), .ref qLn, .ref qSm, .ref qCd, .ref qSc, .int (iI (x_3 + 257)), .int (iI (x_9 + 1)), .int (iI th)])), (qT, .inl (cT, 20000, .inl fT)), (qPk, .inl (cPk, 64, .inr (.inl (fun k => lI (fPk k))))), (qDa, .inl (cDa, 64, .inl (fun k => iI (fDa k)))), (qLn, .inl (cLn, 320, .inl (fun k => iI (l5 k)))), (qSm, .inl (cSm, 19, .inl (fun k => iI (s9 k)))), (qCd, .inl (cCd, 320, .inl fCd)), (qSc, .inl (cSc, 19, .inl f_29))]) [4, 5, 6, 7, 0, 1, 2, 3] (by decide) rfl
                                    have hK := hK.sub (tys' := [(cT, .byte), (cPk, .long), (cDa, .int), (cLn, .int), (cSm, .int), (cCd, .int), (cSc, .int)]) [0, 1, 2, 3, 4, 5, 6] rfl
                                    refine zv_iadd (z := x_112 + 3) hx hb d_M_readCodes_254 (by omega) ?_
                                    refine lv_goto (tgt := 267) hx hb d_M_readCodes_255 (by decide) ?_
                                    refine lv_istore (lv' := [(5, .int (iI (x_112 + 3))), (4, .int (iI x_72)), (3, .int (iI (x_3 + x_9 + 258))), (2, .int (iI dn)), (1, .int (iI (x_15 + 4))), (0, .ref qm)]) hx hb d_M_readCodes_267 hl (by decide) rfl (fun ls hl => ?_)
                                    exact jn_77 (x_112 + 3) b_110 r_111 _ _ _ (by omega) (by omega) (by omega) (zTi_b (ba := 3) (by omega) hp114.1 (by omega) (fun h9 => by omega) (by omega)) hP hD hS (lv_sub hl [1, 2, 3, 4, 5, 0] rfl)
                                · skip
                                  refine lv_iconst (v := iI 3) hx hb d_M_readCodes_231 (by decide) ?_
                                  refine lv_aload_n hx hb d_M_readCodes_232 rfl (lv_at hl 4 rfl) ?_
                                  refine lv_iconst (v := iI 2) hx hb d_M_readCodes_233 (by decide) ?_
                                  refine zji (wr := [(qLn, .inl (cLn, 320, .inl (fun k => iI (l5 k)))), (qSm, .inl (cSm, 19, .inl (fun k => iI (s9 k)))), (qCd, .inl (cCd, 320, .inl fCd)), (qSc, .inl (cSc, 19, .inl f_29))]) (va_runV (As := [.int (iI 2)]) (rest := [.int (iI 3)]) ⟨hx, hb, hml, hown, ht⟩ (m_bits l D _ qm qT len op fp bu ra en qMe qPk qSz qSu qDa qLo qLe qNa qNs qSt qSa qCo qWr to nw b_70 r_71 qLn qSm qCd qSc (x_3 + 257) (x_9 + 1) th cT fT cPk fPk cDa fDa 2 (by omega) (by omega) (by omega) (by omega) (by omega) (by omega)) (cwV 1 ht (zt_goodV zm_962 zm_963 zm_51 zm_79 zm_964) rfl rfl rfl (by decide +kernel) ⟨Nat.le_of_ble_eq_true rfl, Nat.le_of_ble_eq_true rfl⟩) (zpreV zBlind_t hK hP hD [0, 1, 2, 3] [0, 1, 2] rfl (by decide) rfl (fun _ _ _ => trivial) (va_recv (q := ("ZipGuardModel", F_M, 31)) hK hP rfl (q0 := 0) (ci := 8) rfl)) rfl rfl hl.1 rfl (lv_room (Nat.le_of_ble_eq_true rfl)) d_M_readCodes_234 ⟨Nat.le_of_ble_eq_true rfl, Nat.le_of_ble_eq_true rfl⟩) hK hP hD hS hA [0, 1, 2, 3] [4, 5, 6, 7] rfl rfl (by decide) (by decide) (fun r119 u9 H locs hp120 hP hD hK hS => ?_)
                                  obtain ⟨b_116, r_117, x_118⟩ := u9
                                  dsimp only at hp120 hP hD hK
                                  have hP : va_P D zcl [(qLn, .inl (cLn, 320, .inl (fun k => iI (l5 k)))), (qSm, .inl (cSm, 19, .inl (fun k => iI (s9 k)))), (qCd, .inl (cCd, 320, .inl fCd)), (qSc, .inl (cSc, 19, .inl f_29)), (qm, .inr (8, [.ref qT, .int (iI len), .int (iI op), .int (iI fp), .int (iI bu), .int (iI ra), .int (iI en), .ref qMe, .ref qPk, .ref qSz, .ref qSu, .ref qDa, .ref qLo, .ref qLe, .ref qNa, .ref qNs, .ref qSt, .ref qSa, .ref qCo, .ref qWr, .int (iI to), .int (iI nw), .int (iI b_116), .int (iI r_117), .ref qLn, .ref qSm, .ref qCd, .ref qSc, .int (iI (x_3 + 257)), .int (iI (x_9 + 1)), .int (iI th)])), (qT, .inl (cT, 20000, .inl fT)), (qPk, .inl (cPk, 64, .inr (.inl (fun k => lI (fPk k))))), (qDa, .inl (cDa, 64, .inl (fun k => iI (fDa k))))] H := hP
                                  have hD : va_D A [(qLn, .inl (cLn, 320, .inl (fun k => iI (l5 k)))), (qSm, .inl (cSm, 19, .inl (fun k => iI (s9 k)))), (qCd, .inl (cCd, 320, .inl fCd)), (qSc, .inl (cSc, 19, .inl f_29)), (qm, .inr (8, [.ref qT, .int (iI len), .int (iI op), .int (iI fp), .int (iI bu), .int (iI ra), .int (iI en), .ref qMe, .ref qPk, .ref qSz, .ref qSu, .ref qDa, .ref qLo, .ref qLe, .ref qNa, .ref qNs, .ref qSt, .ref qSa, .ref qCo, .ref qWr, .int (iI to), .int (iI nw), .int (iI b_116), .int (iI r_117), .ref qLn, .ref qSm, .ref qCd, .ref qSc, .int (iI (x_3 + 257)), .int (iI (x_9 + 1)), .int (iI th)])), (qT, .inl (cT, 20000, .inl fT)), (qPk, .inl (cPk, 64, .inr (.inl (fun k => lI (fPk k))))), (qDa, .inl (cDa, 64, .inl (fun k => iI (fDa k))))] := hD
                                  have hK : va_K D zcl [(cT, .byte), (cPk, .long), (cDa, .int), (cLn, .int), (cSm, .int), (cCd, .int), (cSc, .int), (cT, .byte), (cPk, .long), (cDa, .int)] s := hK
                                  obtain ⟨he_121, hp120⟩ := hp120
                                  subst he_121
                                  have hP := hP.sub (ws' := [(qm, .inr (8, [.ref qT, .int (iI len), .int (iI op), .int (iI fp), .int (iI bu), .int (iI ra), .int (iI en), .ref qMe, .ref qPk, .ref qSz, .ref qSu, .ref qDa, .ref qLo, .ref qLe, .ref qNa, .ref qNs, .ref qSt, .ref qSa, .ref qCo, .ref qWr, .int (iI to), .int (iI nw), .int (iI b_116), .int (iI r_117), .ref qLn, .ref qSm, .ref qCd, .ref qSc, .int (iI (x_3 + 257)), .int (iI (x_9 + 1)), .int (iI th)])), (qT, .inl (cT, 20000, .inl fT)), (qPk, .inl (cPk, 64, .inr (.inl (fun k => lI (fPk k))))), (qDa, .inl (cDa, 64, .inl (fun k => iI (fDa k)))), (qLn, .inl (cLn, 320, .inl (fun k => iI (l5 k)))), (qSm, .inl (cSm, 19, .inl (fun k => iI (s9 k)))), (qCd, .inl (cCd, 320, .inl fCd)), (qSc, .inl (cSc, 19, .inl f_29))]) [4, 5, 6, 7, 0, 1, 2, 3] rfl
                                  have hD := hD.sub (ws' := [(qm, .inr (8, [.ref qT, .int (iI len), .int (iI op), .int (iI fp), .int (iI bu), .int (iI ra), .int (iI en), .ref qMe, .ref qPk, .ref qSz, .ref qSu, .ref qDa, .ref qLo, .ref qLe, .ref qNa, .ref qNs, .ref qSt, .ref qSa, .ref qCo, .ref qWr, .int (iI to), .int (iI nw), .int (iI b_116), .int (iI r_117), .ref qLn, .ref qSm, .ref qCd, .ref qSc, .int (iI (x_3 + 257)), .int (iI (x_9 + 1)), .int (iI th)])), (qT, .inl (cT, 20000, .inl fT)), (qPk, .inl (cPk, 64, .inr (.inl (fun k => lI (fPk k))))), (qDa, .inl (cDa, 64, .inl (fun k => iI (fDa k)))), (qLn, .inl (cLn, 320, .inl (fun k => iI (l5 k)))), (qSm, .inl (cSm, 19, .inl (fun k => iI (s9 k)))), (qCd, .inl (cCd, 320, .inl fCd)), (qSc, .inl (cSc, 19, .inl f_29))]) [4, 5, 6, 7, 0, 1, 2, 3] (by decide) rfl
                                  have hK := hK.sub (tys' := [(cT, .byte), (cPk, .long), (cDa, .int), (cLn, .int), (cSm, .int), (cCd, .int), (cSc, .int)]) [0, 1, 2, 3, 4, 5, 6] rfl
                                  refine zv_iadd (z := x_118 + 3) hx hb d_M_readCodes_237 (by omega) ?_
                                  refine lv_goto (tgt := 267) hx hb d_M_readCodes_238 (by decide) ?_
                                  refine lv_istore (lv' := [(5, .int (iI (x_118 + 3))), (4, .int (iI x_72)), (3, .int (iI (x_3 + x_9 + 258))), (2, .int (iI dn)), (1, .int (iI (x_15 + 4))), (0, .ref qm)]) hx hb d_M_readCodes_267 hl (by decide) rfl (fun ls hl => ?_)
                                  exact jn_77 (x_118 + 3) b_116 r_117 _ _ _ (by omega) (by omega) (by omega) (zTi_b (ba := 3) (by omega) hp120.1 (by omega) (fun h9 => by omega) (by omega)) hP hD hS (lv_sub hl [1, 2, 3, 4, 5, 0] rfl)
                              · skip
                                refine lv_iconst (v := iI 1) hx hb d_M_readCodes_220 (by decide) ?_
                                refine lv_goto (tgt := 267) hx hb d_M_readCodes_221 (by decide) ?_
                                refine lv_istore (lv' := [(5, .int (iI 1)), (4, .int (iI x_72)), (3, .int (iI (x_3 + x_9 + 258))), (2, .int (iI dn)), (1, .int (iI (x_15 + 4))), (0, .ref qm)]) hx hb d_M_readCodes_267 hl (by decide) rfl (fun ls hl => ?_)
                                exact jn_77 1 b_70 r_71 _ _ _ (by omega) (by omega) (by omega) (zTi_0 (by omega) rfl (by omega) rfl (by omega)) hP hD hS (lv_sub hl [1, 2, 3, 4, 5, 0] rfl)
                            · skip
                              exact zretv hx hb hr hlk hK hP hD hS (b_70, r_71, (x_3 + 257), (x_9 + 1), l5, s9, fCd, f_29) [0, 1, 2, 3, 4, 5, 6, 7] [0, 1, 2, 3, 4, 5, 6] rfl (by decide) rfl (⟨hl5, hs9, zOr_row (E := 8 * (fDa nw.toNat + fPk nw.toNat)) (p := 8 * fDa nw.toNat + b9) (n := x_15 + 4) (q1 := 8 * fDa nw.toNat + b_13) (all := x_3 + x_9 + 258) (by omega) (by omega) (by omega) (by omega) hlz (by omega) (by omega) (by omega) rfl (by omega) (zRw_no hrw9 (by omega) hp74.1 (by omega)) (by omega) (by have h9 := zSr_r hp74.1; omega) rfl, by have h9 := zSr_r hp74.1; omega⟩) (Nat.le_of_ble_eq_true rfl) (Nat.le_of_ble_eq_true rfl) d_M_readCodes_212
                    exact lp176 (((x_3 + x_9 + 258) - 0 + 1 : Int)).toNat 0 b9 r4 fLn _ _ _ (by omega) hLn (by omega) (by omega) (by omega) (fun h9 => zRw_0 rfl) (by omega) hP hD hS hl
                  refine lv_aload_n hx hb d_M_readCodes_122 rfl (lv_at hl 1 rfl) ?_
                  refine va_get (ci := 8) (C := "ZipGuardModel") (T := F_M) (N := 31) hx hb ht zi_M hown hK hP 0 rfl rfl 23 (by decide) (ht _ zm_775) (fun _ h9 => h9) rfl d_M_readCodes_123 ?_
                  refine zv_if_ne (tgt := 150) hx hb d_M_readCodes_126 (by decide) (by omega) (fun hc_122 => ?_) (fun hc_122 => ?_)
                  · skip
                    exact jn_28 r9 _ _ _ (by omega) (by omega) (zLz_no hsl9 (by omega) (by omega) (by omega) rfl) hP hD hS hl
                  · skip
                    refine lv_aload_n hx hb d_M_readCodes_129 rfl (lv_at hl 1 rfl) ?_
                    refine va_get (ci := 8) (C := "ZipGuardModel") (T := F_M) (N := 31) hx hb ht zi_M hown hK hP 0 rfl rfl 25 (by decide) (ht _ zm_777) (fun _ h9 => h9) rfl d_M_readCodes_130 ?_
                    refine lv_iconst (v := iI 0) hx hb d_M_readCodes_133 (by decide) ?_
                    refine lv_bipush (v := iI 19) hx hb d_M_readCodes_134 (by decide) ?_
                    refine lv_iconst (v := iI 0) hx hb d_M_readCodes_136 (by decide) ?_
                    refine zjR (va_runS (As := [.ref qSm, .int (iI 0), .int (iI 19), .int (iI 0)]) (rest := []) ⟨hx, hb, hml, hown, ht⟩ (m_ri l D qSm cSm 19 s9 0 19 0 (zlr fT (8 * fDa nw.toNat + b_13).toNat (x_15 + 4).toNat) (by omega) (by omega) hs9 (by omega) (by omega) (fun k h1 h2 => by rw [Int.zero_add]; exact zSl_row hsl9 (by omega) rfl k h1 h2)) (cwS 4 ht (zt_goodS zm_990 zm_991 zm_79 zm_992) rfl rfl rfl (by decide +kernel) ⟨Nat.le_of_ble_eq_true rfl, Nat.le_of_ble_eq_true rfl⟩) (zpreR zBlind_t hK hP [5] [4] rfl rfl (fun _ _ _ => trivial)) rfl rfl hl.1 rfl (lv_room (Nat.le_of_ble_eq_true rfl)) d_M_readCodes_137 ⟨Nat.le_of_ble_eq_true rfl, Nat.le_of_ble_eq_true rfl⟩) (fun r123 hp124 => ?_)
                    obtain ⟨x_125, he_126, hp124⟩ := hp124
                    subst he_126
                    refine zv_if_ne (tgt := 150) hx hb d_M_readCodes_140 (by decide) (by omega) (fun hc_127 => ?_) (fun hc_127 => ?_)
                    · skip
                      have htf_128 := zTf_t hp124.1 hc_127
                      exact jn_28 r9 _ _ _ (by omega) (by omega) (zLz_ok hsl9 (by omega) (by omega) (by omega) (by omega) (Or.inl ⟨by omega, htf_128⟩)) hP hD hS hl
                    · skip
                      have htf_129 := zTf_f hp124.1 hc_127
                      refine lv_aload_n hx hb d_M_readCodes_143 rfl (lv_at hl 1 rfl) ?_
                      refine lv_bipush (v := iI 33) hx hb d_M_readCodes_144 (by decide) ?_
                      refine zji (wr := [(qT, .inl (cT, 20000, .inl fT)), (qPk, .inl (cPk, 64, .inr (.inl (fun k => lI (fPk k))))), (qDa, .inl (cDa, 64, .inl (fun k => iI (fDa k)))), (qLn, .inl (cLn, 320, .inl (fun k => iI (fLn k)))), (qSm, .inl (cSm, 19, .inl (fun k => iI (s9 k)))), (qCd, .inl (cCd, 320, .inl fCd)), (qSc, .inl (cSc, 19, .inl fSc))]) (va_runV (As := [.int (iI 33)]) (rest := []) ⟨hx, hb, hml, hown, ht⟩ (m_refuse l D _ qm qT len op fp bu ra en qMe qPk qSz qSu qDa qLo qLe qNa qNs qSt qSa qCo qWr to nw b9 r9 qLn qSm qCd qSc (x_3 + 257) (x_9 + 1) th 33 (by omega)) (cwV 1 ht (zt_goodV zm_965 zm_966 zm_52 zm_79 zm_967) rfl rfl rfl (by decide +kernel) ⟨Nat.le_of_ble_eq_true rfl, Nat.le_of_ble_eq_true rfl⟩) (zpreV zBlind_t hK hP hD [0] [] rfl (by decide) rfl (fun _ _ _ => trivial) (va_recv (q := ("ZipGuardModel", F_M, 31)) hK hP rfl (q0 := 0) (ci := 8) rfl)) rfl rfl hl.1 rfl (lv_room (Nat.le_of_ble_eq_true rfl)) d_M_readCodes_146 ⟨Nat.le_of_ble_eq_true rfl, Nat.le_of_ble_eq_true rfl⟩) hK hP hD hS hA [0] [1, 2, 3, 4, 5, 6, 7] rfl rfl (by decide) (by decide) (fun r131 u9 H locs hp132 hP hD hK hS => ?_)
                      obtain ⟨r_130, rfl⟩ : ∃ z, z = u9 := ⟨u9, rfl⟩
                      dsimp only at hp132 hP hD hK
                      have hP : va_P D zcl [(qT, .inl (cT, 20000, .inl fT)), (qPk, .inl (cPk, 64, .inr (.inl (fun k => lI (fPk k))))), (qDa, .inl (cDa, 64, .inl (fun k => iI (fDa k)))), (qLn, .inl (cLn, 320, .inl (fun k => iI (fLn k)))), (qSm, .inl (cSm, 19, .inl (fun k => iI (s9 k)))), (qCd, .inl (cCd, 320, .inl fCd)), (qSc, .inl (cSc, 19, .inl fSc)), (qm, .inr (8, [.ref qT, .int (iI len), .int (iI op), .int (iI fp), .int (iI bu), .int (iI ra), .int (iI en), .ref qMe, .ref qPk, .ref qSz, .ref qSu, .ref qDa, .ref qLo, .ref qLe, .ref qNa, .ref qNs, .ref qSt, .ref qSa, .ref qCo, .ref qWr, .int (iI to), .int (iI nw), .int (iI b9), .int (iI r_130), .ref qLn, .ref qSm, .ref qCd, .ref qSc, .int (iI (x_3 + 257)), .int (iI (x_9 + 1)), .int (iI th)]))] H := hP
                      have hD : va_D A [(qT, .inl (cT, 20000, .inl fT)), (qPk, .inl (cPk, 64, .inr (.inl (fun k => lI (fPk k))))), (qDa, .inl (cDa, 64, .inl (fun k => iI (fDa k)))), (qLn, .inl (cLn, 320, .inl (fun k => iI (fLn k)))), (qSm, .inl (cSm, 19, .inl (fun k => iI (s9 k)))), (qCd, .inl (cCd, 320, .inl fCd)), (qSc, .inl (cSc, 19, .inl fSc)), (qm, .inr (8, [.ref qT, .int (iI len), .int (iI op), .int (iI fp), .int (iI bu), .int (iI ra), .int (iI en), .ref qMe, .ref qPk, .ref qSz, .ref qSu, .ref qDa, .ref qLo, .ref qLe, .ref qNa, .ref qNs, .ref qSt, .ref qSa, .ref qCo, .ref qWr, .int (iI to), .int (iI nw), .int (iI b9), .int (iI r_130), .ref qLn, .ref qSm, .ref qCd, .ref qSc, .int (iI (x_3 + 257)), .int (iI (x_9 + 1)), .int (iI th)]))] := hD
                      have hK : va_K D zcl [(cT, .byte), (cPk, .long), (cDa, .int), (cLn, .int), (cSm, .int), (cCd, .int), (cSc, .int)] s := hK
                      obtain ⟨he_133, hp132⟩ := hp132
                      subst he_133
                      have hP := hP.sub (ws' := [(qm, .inr (8, [.ref qT, .int (iI len), .int (iI op), .int (iI fp), .int (iI bu), .int (iI ra), .int (iI en), .ref qMe, .ref qPk, .ref qSz, .ref qSu, .ref qDa, .ref qLo, .ref qLe, .ref qNa, .ref qNs, .ref qSt, .ref qSa, .ref qCo, .ref qWr, .int (iI to), .int (iI nw), .int (iI b9), .int (iI r_130), .ref qLn, .ref qSm, .ref qCd, .ref qSc, .int (iI (x_3 + 257)), .int (iI (x_9 + 1)), .int (iI th)])), (qT, .inl (cT, 20000, .inl fT)), (qPk, .inl (cPk, 64, .inr (.inl (fun k => lI (fPk k))))), (qDa, .inl (cDa, 64, .inl (fun k => iI (fDa k)))), (qLn, .inl (cLn, 320, .inl (fun k => iI (fLn k)))), (qSm, .inl (cSm, 19, .inl (fun k => iI (s9 k)))), (qCd, .inl (cCd, 320, .inl fCd)), (qSc, .inl (cSc, 19, .inl fSc))]) [7, 0, 1, 2, 3, 4, 5, 6] rfl
                      have hD := hD.sub (ws' := [(qm, .inr (8, [.ref qT, .int (iI len), .int (iI op), .int (iI fp), .int (iI bu), .int (iI ra), .int (iI en), .ref qMe, .ref qPk, .ref qSz, .ref qSu, .ref qDa, .ref qLo, .ref qLe, .ref qNa, .ref qNs, .ref qSt, .ref qSa, .ref qCo, .ref qWr, .int (iI to), .int (iI nw), .int (iI b9), .int (iI r_130), .ref qLn, .ref qSm, .ref qCd, .ref qSc, .int (iI (x_3 + 257)), .int (iI (x_9 + 1)), .int (iI th)])), (qT, .inl (cT, 20000, .inl fT)), (qPk, .inl (cPk, 64, .inr (.inl (fun k => lI (fPk k))))), (qDa, .inl (cDa, 64, .inl (fun k => iI (fDa k)))), (qLn, .inl (cLn, 320, .inl (fun k => iI (fLn k)))), (qSm, .inl (cSm, 19, .inl (fun k => iI (s9 k)))), (qCd, .inl (cCd, 320, .inl fCd)), (qSc, .inl (cSc, 19, .inl fSc))]) [7, 0, 1, 2, 3, 4, 5, 6] (by decide) rfl
                      have hK := hK.sub (tys' := [(cT, .byte), (cPk, .long), (cDa, .int), (cLn, .int), (cSm, .int), (cCd, .int), (cSc, .int)]) [0, 1, 2, 3, 4, 5, 6] rfl
                      refine lv_pop hx hb d_M_readCodes_149 rfl ?_
                      exact jn_28 r_130 _ _ _ (by omega) (by omega) (zLz_ok hsl9 (by omega) (by omega) (by omega) (by omega) (Or.inr ⟨by omega, htf_129⟩)) hP hD hS hl
                refine lv_iconst (v := iI 0) hx hb d_M_readCodes_88 (by decide) ?_
                refine lv_istore_n (lv' := [(2, .int (iI 0)), (1, .int (iI (x_15 + 4))), (0, .ref qm)]) hx hb d_M_readCodes_89 rfl hl (by decide) rfl (fun ls hl => ?_)
                have lp90 : ∀ (j : Nat) (k2 : Int) (b3 : Int) (r3 : Int) (s3 : Nat → Int) (H : Heap) (locs : List Loc) (ls : Array Slot), (0 ≤ k2 ∧ k2 ≤ (x_15 + 4)) → (∀ k : Nat, 0 ≤ s3 k ∧ s3 k ≤ 15) → (bt ≤ b3 ∧ b3 ≤ 8 * fPk nw.toNat) → (-2147483648 ≤ r3 ∧ r3 ≤ 2147483647) → (0 ≤ r3 ∧ r3 ≤ 30) → (zSl fT (8 * fDa nw.toNat + b_13) (8 * (fDa nw.toNat + fPk nw.toNat)) (x_15 + 4) k2 (8 * fDa nw.toNat + b3) r3 s3) → ((x_15 + 4) - k2 < (j : Int)) → va_P D zcl [(qm, .inr (8, [.ref qT, .int (iI len), .int (iI op), .int (iI fp), .int (iI bu), .int (iI ra), .int (iI en), .ref qMe, .ref qPk, .ref qSz, .ref qSu, .ref qDa, .ref qLo, .ref qLe, .ref qNa, .ref qNs, .ref qSt, .ref qSa, .ref qCo, .ref qWr, .int (iI to), .int (iI nw), .int (iI b3), .int (iI r3), .ref qLn, .ref qSm, .ref qCd, .ref qSc, .int (iI (x_3 + 257)), .int (iI (x_9 + 1)), .int (iI th)])), (qT, .inl (cT, 20000, .inl fT)), (qPk, .inl (cPk, 64, .inr (.inl (fun k => lI (fPk k))))), (qDa, .inl (cDa, 64, .inl (fun k => iI (fDa k)))), (qLn, .inl (cLn, 320, .inl (fun k => iI (fLn k)))), (qSm, .inl (cSm, 19, .inl (fun k => iI (s3 k)))), (qCd, .inl (cCd, 320, .inl fCd)), (qSc, .inl (cSc, 19, .inl fSc))] H → va_D A [(qm, .inr (8, [.ref qT, .int (iI len), .int (iI op), .int (iI fp), .int (iI bu), .int (iI ra), .int (iI en), .ref qMe, .ref qPk, .ref qSz, .ref qSu, .ref qDa, .ref qLo, .ref qLe, .ref qNa, .ref qNs, .ref qSt, .ref qSa, .ref qCo, .ref qWr, .int (iI to), .int (iI nw), .int (iI b3), .int (iI r3), .ref qLn, .ref qSm, .ref qCd, .ref qSc, .int (iI (x_3 + 257)), .int (iI (x_9 + 1)), .int (iI th)])), (qT, .inl (cT, 20000, .inl fT)), (qPk, .inl (cPk, 64, .inr (.inl (fun k => lI (fPk k))))), (qDa, .inl (cDa, 64, .inl (fun k => iI (fDa k)))), (qLn, .inl (cLn, 320, .inl (fun k => iI (fLn k)))), (qSm, .inl (cSm, 19, .inl (fun k => iI (s3 k)))), (qCd, .inl (cCd, 320, .inl fCd)), (qSc, .inl (cSc, 19, .inl fSc))] → va_S A s.heap H locs → lv_has ls 8 [(2, .int (iI k2)), (1, .int (iI (x_15 + 4))), (0, .ref qm)] → W p l e { frames := 3, cells := 0, slots := 0, locals := 74 } s m [.ref qm].toArray below meth c H locs 0 0 (MQ below ((fun A => va_Qv (fun (u9 : Int × Int × Int × Int × (Nat → Int) × (Nat → Int) × (Nat → Int32) × (Nat → Int32)) => match u9 with | (b1, r1, sy1, di1, fl1, fs1, fk1, fq1) => (∀ k : Nat, 0 ≤ fl1 k ∧ fl1 k ≤ 15) ∧ (∀ k : Nat, 0 ≤ fs1 k ∧ fs1 k ≤ 15) ∧ (zOr fT (fDa nw.toNat + fPk nw.toNat).toNat (8 * fDa nw.toNat + bt) (8 * fDa nw.toNat + b1) r1 sy1 di1 fl1 fk1) ∧ 0 ≤ sy1 ∧ 0 ≤ di1 ∧ sy1 + di1 ≤ 320 ∧ bt ≤ b1 ∧ b1 ≤ 8 * fPk nw.toNat ∧ (-2147483648 ≤ r1 ∧ r1 ≤ 2147483647) ∧ 0 ≤ r1 ∧ r1 ≤ 100) (fun u9 t => zB D ((fun (u9 : Int × Int × Int × Int × (Nat → Int) × (Nat → Int) × (Nat → Int32) × (Nat → Int32)) => match u9 with | (b1, r1, sy1, di1, fl1, fs1, fk1, fq1) => [(qm, .inr (8, [.ref qT, .int (iI len), .int (iI op), .int (iI fp), .int (iI bu), .int (iI ra), .int (iI en), .ref qMe, .ref qPk, .ref qSz, .ref qSu, .ref qDa, .ref qLo, .ref qLe, .ref qNa, .ref qNs, .ref qSt, .ref qSa, .ref qCo, .ref qWr, .int (iI to), .int (iI nw), .int (iI b1), .int (iI r1), .ref qLn, .ref qSm, .ref qCd, .ref qSc, .int (iI sy1), .int (iI di1), .int (iI th)])), (qT, .inl (cT, 20000, .inl fT)), (qPk, .inl (cPk, 64, .inr (.inl (fun k => lI (fPk k))))), (qDa, .inl (cDa, 64, .inl (fun k => iI (fDa k)))), (qLn, .inl (cLn, 320, .inl (fun k => iI (fl1 k)))), (qSm, .inl (cSm, 19, .inl (fun k => iI (fs1 k)))), (qCd, .inl (cCd, 320, .inl fk1)), (qSc, .inl (cSc, 19, .inl fq1))]) u9) ((fun (u9 : Int × Int × Int × Int × (Nat → Int) × (Nat → Int) × (Nat → Int32) × (Nat → Int32)) => match u9 with | (b1, r1, sy1, di1, fl1, fs1, fk1, fq1) => [(cT, .byte), (cPk, .long), (cDa, .int), (cLn, .int), (cSm, .int), (cCd, .int), (cSc, .int)]) u9) A t) A) A) [.ref qm].toArray s 0 0 A) (F0 m 90 ls []) := by
                  intro j
                  induction j with
                  | zero => intro k2 b3 r3 s3 H locs ls hk2 hs3 hb1 hr1 hr9 hsl hj90 hP hD hS hl; exfalso; omega
                  | succ j ih90 =>
                    intro k2 b3 r3 s3 H locs ls hk2 hs3 hb1 hr1 hr9 hsl hj90 hP hD hS hl
                    refine lv_iload_n hx hb d_M_readCodes_90 rfl (lv_at hl 0 rfl) ?_
                    refine lv_iload_n hx hb d_M_readCodes_91 rfl (lv_at hl 1 rfl) ?_
                    refine zv_icmp_ge (tgt := 122) hx hb d_M_readCodes_92 (by decide) (by omega) (by omega) (fun hc_134 => ?_) (fun hc_134 => ?_)
                    · skip
                      exact jn_27 b3 r3 s3 _ _ _ hs3 (by omega) (by omega) (by omega) (zSl_k hsl (fun h9 => by omega)) hP hD hS (lv_sub hl [1, 2] rfl)
                    · skip
                      refine lv_aload_n hx hb d_M_readCodes_95 rfl (lv_at hl 2 rfl) ?_
                      refine va_get (ci := 8) (C := "ZipGuardModel") (T := F_M) (N := 31) hx hb ht zi_M hown hK hP 0 rfl rfl 23 (by decide) (ht _ zm_775) (fun _ h9 => h9) rfl d_M_readCodes_96 ?_
                      refine zv_if_ne (tgt := 122) hx hb d_M_readCodes_99 (by decide) (by omega) (fun hc_135 => ?_) (fun hc_135 => ?_)
                      · skip
                        exact jn_27 b3 r3 s3 _ _ _ hs3 (by omega) (by omega) (by omega) (zSl_k hsl (fun h9 => by omega)) hP hD hS (lv_sub hl [1, 2] rfl)
                      · skip
                        refine lv_aload_n hx hb d_M_readCodes_102 rfl (lv_at hl 2 rfl) ?_
                        refine va_get (ci := 8) (C := "ZipGuardModel") (T := F_M) (N := 31) hx hb ht zi_M hown hK hP 0 rfl rfl 25 (by decide) (ht _ zm_777) (fun _ h9 => h9) rfl d_M_readCodes_103 ?_
                        refine lv_iload_n hx hb d_M_readCodes_106 rfl (lv_at hl 0 rfl) ?_
                        refine zjR (va_runS (As := [.int (iI k2)]) (rest := [.ref qSm]) ⟨hx, hb, hml, hown, ht⟩ (m_so l D k2 (by omega)) (cwS 1 ht (zt_goodS zm_987 zm_988 zm_79 zm_989) rfl rfl rfl (by decide +kernel) ⟨Nat.le_of_ble_eq_true rfl, Nat.le_of_ble_eq_true rfl⟩) (zpreR zBlind_t hK hP [] [] rfl rfl (fun _ _ _ => trivial)) rfl rfl hl.1 rfl (lv_room (Nat.le_of_ble_eq_true rfl)) d_M_readCodes_107 ⟨Nat.le_of_ble_eq_true rfl, Nat.le_of_ble_eq_true rfl⟩) (fun r136 hp137 => ?_)
                        obtain ⟨x_138, he_139, hp137⟩ := hp137
                        subst he_139
                        refine lv_aload_n hx hb d_M_readCodes_110 rfl (lv_at hl 2 rfl) ?_
                        refine lv_iconst (v := iI 3) hx hb d_M_readCodes_111 (by decide) ?_
                        refine zji (wr := [(qLn, .inl (cLn, 320, .inl (fun k => iI (fLn k)))), (qSm, .inl (cSm, 19, .inl (fun k => iI (s3 k)))), (qCd, .inl (cCd, 320, .inl fCd)), (qSc, .inl (cSc, 19, .inl fSc))]) (va_runV (As := [.int (iI 3)]) (rest := [.int (iI x_138), .ref qSm]) ⟨hx, hb, hml, hown, ht⟩ (m_bits l D _ qm qT len op fp bu ra en qMe qPk qSz qSu qDa qLo qLe qNa qNs qSt qSa qCo qWr to nw b3 r3 qLn qSm qCd qSc (x_3 + 257) (x_9 + 1) th cT fT cPk fPk cDa fDa 3 (by omega) (by omega) (by omega) (by omega) (by omega) (by omega)) (cwV 1 ht (zt_goodV zm_962 zm_963 zm_51 zm_79 zm_964) rfl rfl rfl (by decide +kernel) ⟨Nat.le_of_ble_eq_true rfl, Nat.le_of_ble_eq_true rfl⟩) (zpreV zBlind_t hK hP hD [0, 1, 2, 3] [0, 1, 2] rfl (by decide) rfl (fun _ _ _ => trivial) (va_recv (q := ("ZipGuardModel", F_M, 31)) hK hP rfl (q0 := 0) (ci := 8) rfl)) rfl rfl hl.1 rfl (lv_room (Nat.le_of_ble_eq_true rfl)) d_M_readCodes_112 ⟨Nat.le_of_ble_eq_true rfl, Nat.le_of_ble_eq_true rfl⟩) hK hP hD hS hA [0, 1, 2, 3] [4, 5, 6, 7] rfl rfl (by decide) (by decide) (fun r143 u9 H locs hp144 hP hD hK hS => ?_)
                        obtain ⟨b_140, r_141, x_142⟩ := u9
                        dsimp only at hp144 hP hD hK
                        have hP : va_P D zcl [(qLn, .inl (cLn, 320, .inl (fun k => iI (fLn k)))), (qSm, .inl (cSm, 19, .inl (fun k => iI (s3 k)))), (qCd, .inl (cCd, 320, .inl fCd)), (qSc, .inl (cSc, 19, .inl fSc)), (qm, .inr (8, [.ref qT, .int (iI len), .int (iI op), .int (iI fp), .int (iI bu), .int (iI ra), .int (iI en), .ref qMe, .ref qPk, .ref qSz, .ref qSu, .ref qDa, .ref qLo, .ref qLe, .ref qNa, .ref qNs, .ref qSt, .ref qSa, .ref qCo, .ref qWr, .int (iI to), .int (iI nw), .int (iI b_140), .int (iI r_141), .ref qLn, .ref qSm, .ref qCd, .ref qSc, .int (iI (x_3 + 257)), .int (iI (x_9 + 1)), .int (iI th)])), (qT, .inl (cT, 20000, .inl fT)), (qPk, .inl (cPk, 64, .inr (.inl (fun k => lI (fPk k))))), (qDa, .inl (cDa, 64, .inl (fun k => iI (fDa k))))] H := hP
                        have hD : va_D A [(qLn, .inl (cLn, 320, .inl (fun k => iI (fLn k)))), (qSm, .inl (cSm, 19, .inl (fun k => iI (s3 k)))), (qCd, .inl (cCd, 320, .inl fCd)), (qSc, .inl (cSc, 19, .inl fSc)), (qm, .inr (8, [.ref qT, .int (iI len), .int (iI op), .int (iI fp), .int (iI bu), .int (iI ra), .int (iI en), .ref qMe, .ref qPk, .ref qSz, .ref qSu, .ref qDa, .ref qLo, .ref qLe, .ref qNa, .ref qNs, .ref qSt, .ref qSa, .ref qCo, .ref qWr, .int (iI to), .int (iI nw), .int (iI b_140), .int (iI r_141), .ref qLn, .ref qSm, .ref qCd, .ref qSc, .int (iI (x_3 + 257)), .int (iI (x_9 + 1)), .int (iI th)])), (qT, .inl (cT, 20000, .inl fT)), (qPk, .inl (cPk, 64, .inr (.inl (fun k => lI (fPk k))))), (qDa, .inl (cDa, 64, .inl (fun k => iI (fDa k))))] := hD
                        have hK : va_K D zcl [(cT, .byte), (cPk, .long), (cDa, .int), (cLn, .int), (cSm, .int), (cCd, .int), (cSc, .int), (cT, .byte), (cPk, .long), (cDa, .int)] s := hK
                        obtain ⟨he_145, hp144⟩ := hp144
                        subst he_145
                        have hP := hP.sub (ws' := [(qm, .inr (8, [.ref qT, .int (iI len), .int (iI op), .int (iI fp), .int (iI bu), .int (iI ra), .int (iI en), .ref qMe, .ref qPk, .ref qSz, .ref qSu, .ref qDa, .ref qLo, .ref qLe, .ref qNa, .ref qNs, .ref qSt, .ref qSa, .ref qCo, .ref qWr, .int (iI to), .int (iI nw), .int (iI b_140), .int (iI r_141), .ref qLn, .ref qSm, .ref qCd, .ref qSc, .int (iI (x_3 + 257)), .int (iI (x_9 + 1)), .int (iI th)])), (qT, .inl (cT, 20000, .inl fT)), (qPk, .inl (cPk, 64, .inr (.inl (fun k => lI (fPk k))))), (qDa, .inl (cDa, 64, .inl (fun k => iI (fDa k)))), (qLn, .inl (cLn, 320, .inl (fun k => iI (fLn k)))), (qSm, .inl (cSm, 19, .inl (fun k => iI (s3 k)))), (qCd, .inl (cCd, 320, .inl fCd)), (qSc, .inl (cSc, 19, .inl fSc))]) [4, 5, 6, 7, 0, 1, 2, 3] rfl
                        have hD := hD.sub (ws' := [(qm, .inr (8, [.ref qT, .int (iI len), .int (iI op), .int (iI fp), .int (iI bu), .int (iI ra), .int (iI en), .ref qMe, .ref qPk, .ref qSz, .ref qSu, .ref qDa, .ref qLo, .ref qLe, .ref qNa, .ref qNs, .ref qSt, .ref qSa, .ref qCo, .ref qWr, .int (iI to), .int (iI nw), .int (iI b_140), .int (iI r_141), .ref qLn, .ref qSm, .ref qCd, .ref qSc, .int (iI (x_3 + 257)), .int (iI (x_9 + 1)), .int (iI th)])), (qT, .inl (cT, 20000, .inl fT)), (qPk, .inl (cPk, 64, .inr (.inl (fun k => lI (fPk k))))), (qDa, .inl (cDa, 64, .inl (fun k => iI (fDa k)))), (qLn, .inl (cLn, 320, .inl (fun k => iI (fLn k)))), (qSm, .inl (cSm, 19, .inl (fun k => iI (s3 k)))), (qCd, .inl (cCd, 320, .inl fCd)), (qSc, .inl (cSc, 19, .inl fSc))]) [4, 5, 6, 7, 0, 1, 2, 3] (by decide) rfl
                        have hK := hK.sub (tys' := [(cT, .byte), (cPk, .long), (cDa, .int), (cLn, .int), (cSm, .int), (cCd, .int), (cSc, .int)]) [0, 1, 2, 3, 4, 5, 6] rfl
                        refine zv_iast hx hb hK hP hD hS 5 4 rfl rfl (by omega) (by decide) d_M_readCodes_115 (fun g_146 H locs hg_147 hP hD hS => ?_)
                        have hP : va_P D zcl [(qm, .inr (8, [.ref qT, .int (iI len), .int (iI op), .int (iI fp), .int (iI bu), .int (iI ra), .int (iI en), .ref qMe, .ref qPk, .ref qSz, .ref qSu, .ref qDa, .ref qLo, .ref qLe, .ref qNa, .ref qNs, .ref qSt, .ref qSa, .ref qCo, .ref qWr, .int (iI to), .int (iI nw), .int (iI b_140), .int (iI r_141), .ref qLn, .ref qSm, .ref qCd, .ref qSc, .int (iI (x_3 + 257)), .int (iI (x_9 + 1)), .int (iI th)])), (qT, .inl (cT, 20000, .inl fT)), (qPk, .inl (cPk, 64, .inr (.inl (fun k => lI (fPk k))))), (qDa, .inl (cDa, 64, .inl (fun k => iI (fDa k)))), (qLn, .inl (cLn, 320, .inl (fun k => iI (fLn k)))), (qSm, .inl (cSm, 19, .inl (fun k => iI (g_146 k)))), (qCd, .inl (cCd, 320, .inl fCd)), (qSc, .inl (cSc, 19, .inl fSc))] H := hP
                        have hD : va_D A [(qm, .inr (8, [.ref qT, .int (iI len), .int (iI op), .int (iI fp), .int (iI bu), .int (iI ra), .int (iI en), .ref qMe, .ref qPk, .ref qSz, .ref qSu, .ref qDa, .ref qLo, .ref qLe, .ref qNa, .ref qNs, .ref qSt, .ref qSa, .ref qCo, .ref qWr, .int (iI to), .int (iI nw), .int (iI b_140), .int (iI r_141), .ref qLn, .ref qSm, .ref qCd, .ref qSc, .int (iI (x_3 + 257)), .int (iI (x_9 + 1)), .int (iI th)])), (qT, .inl (cT, 20000, .inl fT)), (qPk, .inl (cPk, 64, .inr (.inl (fun k => lI (fPk k))))), (qDa, .inl (cDa, 64, .inl (fun k => iI (fDa k)))), (qLn, .inl (cLn, 320, .inl (fun k => iI (fLn k)))), (qSm, .inl (cSm, 19, .inl (fun k => iI (g_146 k)))), (qCd, .inl (cCd, 320, .inl fCd)), (qSc, .inl (cSc, 19, .inl fSc))] := hD
                        have hf_148 := zup_all hs3 hg_147 (by omega)
                        refine lv_iinc (k := 0) (v := iI (k2 + 1)) (lv' := [(2, .int (iI (k2 + 1))), (1, .int (iI (x_15 + 4))), (0, .ref qm)]) hx hb d_M_readCodes_116 hl rfl (zinc (by omega)) (by decide) rfl (fun ls hl => ?_)
                        refine lv_goto (tgt := 90) hx hb d_M_readCodes_119 (by decide) ?_
                        exact ih90 (k2 + 1) b_140 r_141 g_146 _ _ _ (by omega) hf_148 (by omega) (by omega) (by have h9 := hp144.1; unfold zBr at h9; omega) (zSl_s hsl (by omega) (by omega) hp144.1 (fun h9 => by omega) hp137.1 hg_147) (by omega) hP hD hS hl
                exact lp90 (((x_15 + 4) - 0 + 1 : Int)).toNat 0 b_13 r_14 s2 _ _ _ (by omega) hs2 (by omega) (by omega) (by omega) (zSl_0 (by omega) rfl (fun j h1 h2 => hz2 j h1 (by omega))) (by omega) hP hD hS hl
              · skip
                refine lv_aload_n hx hb d_M_readCodes_75 rfl (lv_at hl 2 rfl) ?_
                refine va_get (ci := 8) (C := "ZipGuardModel") (T := F_M) (N := 31) hx hb ht zi_M hown hK hP 0 rfl rfl 25 (by decide) (ht _ zm_777) (fun _ h9 => h9) rfl d_M_readCodes_76 ?_
                refine lv_iload_n hx hb d_M_readCodes_79 rfl (lv_at hl 0 rfl) ?_
                refine lv_iconst (v := iI 0) hx hb d_M_readCodes_80 (by decide) ?_
                refine zv_iast hx hb hK hP hD hS 5 4 rfl rfl (by omega) (by decide) d_M_readCodes_81 (fun g_149 H locs hg_150 hP hD hS => ?_)
                have hP : va_P D zcl [(qm, .inr (8, [.ref qT, .int (iI len), .int (iI op), .int (iI fp), .int (iI bu), .int (iI ra), .int (iI en), .ref qMe, .ref qPk, .ref qSz, .ref qSu, .ref qDa, .ref qLo, .ref qLe, .ref qNa, .ref qNs, .ref qSt, .ref qSa, .ref qCo, .ref qWr, .int (iI to), .int (iI nw), .int (iI b_13), .int (iI r_14), .ref qLn, .ref qSm, .ref qCd, .ref qSc, .int (iI (x_3 + 257)), .int (iI (x_9 + 1)), .int (iI th)])), (qT, .inl (cT, 20000, .inl fT)), (qPk, .inl (cPk, 64, .inr (.inl (fun k => lI (fPk k))))), (qDa, .inl (cDa, 64, .inl (fun k => iI (fDa k)))), (qLn, .inl (cLn, 320, .inl (fun k => iI (fLn k)))), (qSm, .inl (cSm, 19, .inl (fun k => iI (g_149 k)))), (qCd, .inl (cCd, 320, .inl fCd)), (qSc, .inl (cSc, 19, .inl fSc))] H := hP
                have hD : va_D A [(qm, .inr (8, [.ref qT, .int (iI len), .int (iI op), .int (iI fp), .int (iI bu), .int (iI ra), .int (iI en), .ref qMe, .ref qPk, .ref qSz, .ref qSu, .ref qDa, .ref qLo, .ref qLe, .ref qNa, .ref qNs, .ref qSt, .ref qSa, .ref qCo, .ref qWr, .int (iI to), .int (iI nw), .int (iI b_13), .int (iI r_14), .ref qLn, .ref qSm, .ref qCd, .ref qSc, .int (iI (x_3 + 257)), .int (iI (x_9 + 1)), .int (iI th)])), (qT, .inl (cT, 20000, .inl fT)), (qPk, .inl (cPk, 64, .inr (.inl (fun k => lI (fPk k))))), (qDa, .inl (cDa, 64, .inl (fun k => iI (fDa k)))), (qLn, .inl (cLn, 320, .inl (fun k => iI (fLn k)))), (qSm, .inl (cSm, 19, .inl (fun k => iI (g_149 k)))), (qCd, .inl (cCd, 320, .inl fCd)), (qSc, .inl (cSc, 19, .inl fSc))] := hD
                have hf_151 := zup_all hs2 hg_150 (by omega)
                refine lv_iinc (k := 0) (v := iI (k + 1)) (lv' := [(2, .int (iI (k + 1))), (1, .int (iI (x_15 + 4))), (0, .ref qm)]) hx hb d_M_readCodes_82 hl rfl (zinc (by omega)) (by decide) rfl (fun ls hl => ?_)
                refine lv_goto (tgt := 69) hx hb d_M_readCodes_85 (by decide) ?_
                exact ih69 (k + 1) g_149 _ _ _ (by omega) hf_151 (zz_s hz2 hg_150 (by omega)) (by omega) hP hD hS hl
          exact lp69 ((19 - 0 + 1 : Int)).toNat 0 fSm _ _ _ (by omega) hSm (fun j h1 h2 => absurd h2 (by omega)) (by omega) hP hD hS hl
        · skip
          refine lv_aload_n hx hb d_M_readCodes_59 rfl (lv_at hl 1 rfl) ?_
          refine lv_bipush (v := iI 32) hx hb d_M_readCodes_60 (by decide) ?_
          refine zji (wr := [(qT, .inl (cT, 20000, .inl fT)), (qPk, .inl (cPk, 64, .inr (.inl (fun k => lI (fPk k))))), (qDa, .inl (cDa, 64, .inl (fun k => iI (fDa k)))), (qLn, .inl (cLn, 320, .inl (fun k => iI (fLn k)))), (qSm, .inl (cSm, 19, .inl (fun k => iI (fSm k)))), (qCd, .inl (cCd, 320, .inl fCd)), (qSc, .inl (cSc, 19, .inl fSc))]) (va_runV (As := [.int (iI 32)]) (rest := []) ⟨hx, hb, hml, hown, ht⟩ (m_refuse l D _ qm qT len op fp bu ra en qMe qPk qSz qSu qDa qLo qLe qNa qNs qSt qSa qCo qWr to nw b_13 r_14 qLn qSm qCd qSc (x_3 + 257) (x_9 + 1) th 32 (by omega)) (cwV 1 ht (zt_goodV zm_965 zm_966 zm_52 zm_79 zm_967) rfl rfl rfl (by decide +kernel) ⟨Nat.le_of_ble_eq_true rfl, Nat.le_of_ble_eq_true rfl⟩) (zpreV zBlind_t hK hP hD [0] [] rfl (by decide) rfl (fun _ _ _ => trivial) (va_recv (q := ("ZipGuardModel", F_M, 31)) hK hP rfl (q0 := 0) (ci := 8) rfl)) rfl rfl hl.1 rfl (lv_room (Nat.le_of_ble_eq_true rfl)) d_M_readCodes_62 ⟨Nat.le_of_ble_eq_true rfl, Nat.le_of_ble_eq_true rfl⟩) hK hP hD hS hA [0] [1, 2, 3, 4, 5, 6, 7] rfl rfl (by decide) (by decide) (fun r153 u9 H locs hp154 hP hD hK hS => ?_)
          obtain ⟨r_152, rfl⟩ : ∃ z, z = u9 := ⟨u9, rfl⟩
          dsimp only at hp154 hP hD hK
          have hP : va_P D zcl [(qT, .inl (cT, 20000, .inl fT)), (qPk, .inl (cPk, 64, .inr (.inl (fun k => lI (fPk k))))), (qDa, .inl (cDa, 64, .inl (fun k => iI (fDa k)))), (qLn, .inl (cLn, 320, .inl (fun k => iI (fLn k)))), (qSm, .inl (cSm, 19, .inl (fun k => iI (fSm k)))), (qCd, .inl (cCd, 320, .inl fCd)), (qSc, .inl (cSc, 19, .inl fSc)), (qm, .inr (8, [.ref qT, .int (iI len), .int (iI op), .int (iI fp), .int (iI bu), .int (iI ra), .int (iI en), .ref qMe, .ref qPk, .ref qSz, .ref qSu, .ref qDa, .ref qLo, .ref qLe, .ref qNa, .ref qNs, .ref qSt, .ref qSa, .ref qCo, .ref qWr, .int (iI to), .int (iI nw), .int (iI b_13), .int (iI r_152), .ref qLn, .ref qSm, .ref qCd, .ref qSc, .int (iI (x_3 + 257)), .int (iI (x_9 + 1)), .int (iI th)]))] H := hP
          have hD : va_D A [(qT, .inl (cT, 20000, .inl fT)), (qPk, .inl (cPk, 64, .inr (.inl (fun k => lI (fPk k))))), (qDa, .inl (cDa, 64, .inl (fun k => iI (fDa k)))), (qLn, .inl (cLn, 320, .inl (fun k => iI (fLn k)))), (qSm, .inl (cSm, 19, .inl (fun k => iI (fSm k)))), (qCd, .inl (cCd, 320, .inl fCd)), (qSc, .inl (cSc, 19, .inl fSc)), (qm, .inr (8, [.ref qT, .int (iI len), .int (iI op), .int (iI fp), .int (iI bu), .int (iI ra), .int (iI en), .ref qMe, .ref qPk, .ref qSz, .ref qSu, .ref qDa, .ref qLo, .ref qLe, .ref qNa, .ref qNs, .ref qSt, .ref qSa, .ref qCo, .ref qWr, .int (iI to), .int (iI nw), .int (iI b_13), .int (iI r_152), .ref qLn, .ref qSm, .ref qCd, .ref qSc, .int (iI (x_3 + 257)), .int (iI (x_9 + 1)), .int (iI th)]))] := hD
          have hK : va_K D zcl [(cT, .byte), (cPk, .long), (cDa, .int), (cLn, .int), (cSm, .int), (cCd, .int), (cSc, .int)] s := hK
          obtain ⟨he_155, hp154⟩ := hp154
          subst he_155
          have hP := hP.sub (ws' := [(qm, .inr (8, [.ref qT, .int (iI len), .int (iI op), .int (iI fp), .int (iI bu), .int (iI ra), .int (iI en), .ref qMe, .ref qPk, .ref qSz, .ref qSu, .ref qDa, .ref qLo, .ref qLe, .ref qNa, .ref qNs, .ref qSt, .ref qSa, .ref qCo, .ref qWr, .int (iI to), .int (iI nw), .int (iI b_13), .int (iI r_152), .ref qLn, .ref qSm, .ref qCd, .ref qSc, .int (iI (x_3 + 257)), .int (iI (x_9 + 1)), .int (iI th)])), (qT, .inl (cT, 20000, .inl fT)), (qPk, .inl (cPk, 64, .inr (.inl (fun k => lI (fPk k))))), (qDa, .inl (cDa, 64, .inl (fun k => iI (fDa k)))), (qLn, .inl (cLn, 320, .inl (fun k => iI (fLn k)))), (qSm, .inl (cSm, 19, .inl (fun k => iI (fSm k)))), (qCd, .inl (cCd, 320, .inl fCd)), (qSc, .inl (cSc, 19, .inl fSc))]) [7, 0, 1, 2, 3, 4, 5, 6] rfl
          have hD := hD.sub (ws' := [(qm, .inr (8, [.ref qT, .int (iI len), .int (iI op), .int (iI fp), .int (iI bu), .int (iI ra), .int (iI en), .ref qMe, .ref qPk, .ref qSz, .ref qSu, .ref qDa, .ref qLo, .ref qLe, .ref qNa, .ref qNs, .ref qSt, .ref qSa, .ref qCo, .ref qWr, .int (iI to), .int (iI nw), .int (iI b_13), .int (iI r_152), .ref qLn, .ref qSm, .ref qCd, .ref qSc, .int (iI (x_3 + 257)), .int (iI (x_9 + 1)), .int (iI th)])), (qT, .inl (cT, 20000, .inl fT)), (qPk, .inl (cPk, 64, .inr (.inl (fun k => lI (fPk k))))), (qDa, .inl (cDa, 64, .inl (fun k => iI (fDa k)))), (qLn, .inl (cLn, 320, .inl (fun k => iI (fLn k)))), (qSm, .inl (cSm, 19, .inl (fun k => iI (fSm k)))), (qCd, .inl (cCd, 320, .inl fCd)), (qSc, .inl (cSc, 19, .inl fSc))]) [7, 0, 1, 2, 3, 4, 5, 6] (by decide) rfl
          have hK := hK.sub (tys' := [(cT, .byte), (cPk, .long), (cDa, .int), (cLn, .int), (cSm, .int), (cCd, .int), (cSc, .int)]) [0, 1, 2, 3, 4, 5, 6] rfl
          refine lv_pop hx hb d_M_readCodes_65 rfl ?_
          exact zretv hx hb hr hlk hK hP hD hS (b_13, r_152, (x_3 + 257), (x_9 + 1), fLn, fSm, fCd, fSc) [0, 1, 2, 3, 4, 5, 6, 7] [0, 1, 2, 3, 4, 5, 6] rfl (by decide) rfl (⟨hLn, hSm, zOr_32 (E := 8 * (fDa nw.toNat + fPk nw.toNat)) (by omega) (by omega) (by omega) (by omega) (by omega), by omega⟩) (Nat.le_of_ble_eq_true rfl) (Nat.le_of_ble_eq_true rfl) d_M_readCodes_66
    · skip
      exact zretv hx hb hr hlk hK hP hD hS (b_13, r_14, (x_3 + 257), (x_9 + 1), fLn, fSm, fCd, fSc) [0, 1, 2, 3, 4, 5, 6, 7] [0, 1, 2, 3, 4, 5, 6] rfl (by decide) rfl (⟨hLn, hSm, zOr_30 (E := 8 * (fDa nw.toNat + fPk nw.toNat)) (by omega) (by omega) (by omega) (by omega), by omega⟩) (Nat.le_of_ble_eq_true rfl) (Nat.le_of_ble_eq_true rfl) d_M_readCodes_39)
set_option maxHeartbeats 4000000 in
set_option maxRecDepth 100000 in
theorem m_inf (l : Launch) (D : va_G) (sz : Nat) (qm : Nat) (qT : Nat) (len : Int) (op : Int) (fp : Int) (bu : Int) (ra : Int) (en : Int) (qMe : Nat) (qPk : Nat) (qSz : Nat) (qSu : Nat) (qDa : Nat) (qLo : Nat) (qLe : Nat) (qNa : Nat) (qNs : Nat) (qSt : Nat) (qSa : Nat) (qCo : Nat) (qWr : Nat) (to : Int) (nw : Int) (bt : Int) (rf : Int) (qLn : Nat) (qSm : Nat) (qCd : Nat) (qSc : Nat) (sy : Int) (di : Int) (th : Int) (cT : ClassId) (fT : Nat → Int32) (cPk : ClassId) (fPk : Nat → Int) (cDa : ClassId) (fDa : Nat → Int) (cSz : ClassId) (fSz : Nat → Int64) (cCo : ClassId) (fCo : Nat → Int) (cWr : ClassId) (fWr : Nat → Int32) (cLn : ClassId) (fLn : Nat → Int) (cCd : ClassId) (fCd : Nat → Int32) (cSm : ClassId) (fSm : Nat → Int) (cSc : ClassId) (fSc : Nat → Int32) (cs : Int) (hnw : 0 ≤ nw ∧ nw < 64) (hrf : -2147483648 ≤ rf ∧ rf ≤ 2147483647) (hpk : 0 ≤ fPk nw.toNat ∧ fPk nw.toNat ≤ 20000) (hda : 0 ≤ fDa nw.toNat ∧ fDa nw.toNat + fPk nw.toNat ≤ 20000) (hbt : 0 ≤ bt ∧ bt ≤ 8 * fPk nw.toNat) (hlim : 0 ≤ bu ∧ bu ≤ 40000 ∧ 0 ≤ ra ∧ ra ≤ 2000) (hco : 0 ≤ fCo nw.toNat ∧ fCo nw.toNat ≤ to ∧ to ≤ 40000) (hcs : 0 ≤ cs ∧ cs + fCo nw.toNat = to) (hr0 : rf = 0) (hLn : ∀ k : Nat, 0 ≤ fLn k ∧ fLn k ≤ 15) (hSm : ∀ k : Nat, 0 ≤ fSm k ∧ fSm k ≤ 15) : Met l y_M_inflate (Cond.code y_M_inflate prog_10_method_43_code 3 (Option.none : Option Jvm.ClassFile.FieldType) :: zt) { frames := 4, cells := 0, slots := 0, locals := 101 } (zPc [.ref qm] D [(qm, .inr (8, [.ref qT, .int (iI len), .int (iI op), .int (iI fp), .int (iI bu), .int (iI ra), .int (iI en), .ref qMe, .ref qPk, .ref qSz, .ref qSu, .ref qDa, .ref qLo, .ref qLe, .ref qNa, .ref qNs, .ref qSt, .ref qSa, .ref qCo, .ref qWr, .int (iI to), .int (iI nw), .int (iI bt), .int (iI rf), .ref qLn, .ref qSm, .ref qCd, .ref qSc, .int (iI sy), .int (iI di), .int (iI th)])), (qT, .inl (cT, 20000, .inl fT)), (qPk, .inl (cPk, 64, .inr (.inl (fun k => lI (fPk k))))), (qDa, .inl (cDa, 64, .inl (fun k => iI (fDa k)))), (qSz, .inl (cSz, 64, .inr (.inl fSz))), (qCo, .inl (cCo, 64, .inl (fun k => iI (fCo k)))), (qWr, .inl (cWr, 40000, .inl fWr)), (qLn, .inl (cLn, 320, .inl (fun k => iI (fLn k)))), (qCd, .inl (cCd, 320, .inl fCd)), (qSm, .inl (cSm, 19, .inl (fun k => iI (fSm k)))), (qSc, .inl (cSc, 19, .inl fSc))] [(cT, .byte), (cPk, .long), (cDa, .int), (cSz, .long), (cCo, .int), (cWr, .byte), (cLn, .int), (cCd, .int), (cSm, .int), (cSc, .int)] sz (fun _ => True)) (va_Qv (fun (u9 : Int × Int × Int × Int × Int × (Nat → Int) × (Nat → Int32) × (Nat → Int) × (Nat → Int) × (Nat → Int32) × (Nat → Int32)) => match u9 with | (b1, to1, r1, sy1, di1, fc1, fw1, fl1, fs1, fk1, fq1) => (∀ k : Nat, 0 ≤ fl1 k ∧ fl1 k ≤ 15) ∧ (∀ k : Nat, 0 ≤ fs1 k ∧ fs1 k ≤ 15) ∧ (∀ k : Nat, k ≠ nw.toNat → fc1 k = fCo k) ∧ (zRz (zunp fT (fDa nw.toNat + fPk nw.toNat).toNat bu.toNat ra.toNat (fPk nw.toNat).toNat (fSz nw.toNat) zfx 288 (fun _ => 5) 32 cs.toNat ((fPk nw.toNat).toNat * 8 + 1) (8 * fDa nw.toNat + bt).toNat (zOo to (fCo nw.toNat) cs fWr)) r1 (8 * fDa nw.toNat + b1) to1 (fc1 nw.toNat) cs fw1) ∧ (-2147483648 ≤ r1 ∧ r1 ≤ 2147483647) ∧ to ≤ to1 ∧ to1 ≤ 40000 ∧ fc1 nw.toNat - fCo nw.toNat = to1 - to ∧ bt ≤ b1 ∧ b1 ≤ 8 * fPk nw.toNat ∧ 0 ≤ r1 ∧ r1 ≤ 100) (fun u9 t => zB D ((fun (u9 : Int × Int × Int × Int × Int × (Nat → Int) × (Nat → Int32) × (Nat → Int) × (Nat → Int) × (Nat → Int32) × (Nat → Int32)) => match u9 with | (b1, to1, r1, sy1, di1, fc1, fw1, fl1, fs1, fk1, fq1) => [(qm, .inr (8, [.ref qT, .int (iI len), .int (iI op), .int (iI fp), .int (iI bu), .int (iI ra), .int (iI en), .ref qMe, .ref qPk, .ref qSz, .ref qSu, .ref qDa, .ref qLo, .ref qLe, .ref qNa, .ref qNs, .ref qSt, .ref qSa, .ref qCo, .ref qWr, .int (iI to1), .int (iI nw), .int (iI b1), .int (iI r1), .ref qLn, .ref qSm, .ref qCd, .ref qSc, .int (iI sy1), .int (iI di1), .int (iI th)])), (qT, .inl (cT, 20000, .inl fT)), (qPk, .inl (cPk, 64, .inr (.inl (fun k => lI (fPk k))))), (qDa, .inl (cDa, 64, .inl (fun k => iI (fDa k)))), (qSz, .inl (cSz, 64, .inr (.inl fSz))), (qCo, .inl (cCo, 64, .inl (fun k => iI (fc1 k)))), (qWr, .inl (cWr, 40000, .inl fw1)), (qLn, .inl (cLn, 320, .inl (fun k => iI (fl1 k)))), (qCd, .inl (cCd, 320, .inl fk1)), (qSm, .inl (cSm, 19, .inl (fun k => iI (fs1 k)))), (qSc, .inl (cSc, 19, .inl fq1))]) u9) ((fun (u9 : Int × Int × Int × Int × Int × (Nat → Int) × (Nat → Int32) × (Nat → Int) × (Nat → Int) × (Nat → Int32) × (Nat → Int32)) => match u9 with | (b1, to1, r1, sy1, di1, fc1, fw1, fl1, fs1, fk1, fq1) => [(cT, .byte), (cPk, .long), (cDa, .int), (cSz, .long), (cCo, .int), (cWr, .byte), (cLn, .int), (cCd, .int), (cSm, .int), (cSc, .int)]) u9) (va_A [(qm, .inr (8, [.ref qT, .int (iI len), .int (iI op), .int (iI fp), .int (iI bu), .int (iI ra), .int (iI en), .ref qMe, .ref qPk, .ref qSz, .ref qSu, .ref qDa, .ref qLo, .ref qLe, .ref qNa, .ref qNs, .ref qSt, .ref qSa, .ref qCo, .ref qWr, .int (iI to), .int (iI nw), .int (iI bt), .int (iI rf), .ref qLn, .ref qSm, .ref qCd, .ref qSc, .int (iI sy), .int (iI di), .int (iI th)])), (qT, .inl (cT, 20000, .inl fT)), (qPk, .inl (cPk, 64, .inr (.inl (fun k => lI (fPk k))))), (qDa, .inl (cDa, 64, .inl (fun k => iI (fDa k)))), (qSz, .inl (cSz, 64, .inr (.inl fSz))), (qCo, .inl (cCo, 64, .inl (fun k => iI (fCo k)))), (qWr, .inl (cWr, 40000, .inl fWr)), (qLn, .inl (cLn, 320, .inl (fun k => iI (fLn k)))), (qCd, .inl (cCd, 320, .inl fCd)), (qSm, .inl (cSm, 19, .inl (fun k => iI (fSm k)))), (qSc, .inl (cSc, 19, .inl fSc))] sz) t) (va_A [(qm, .inr (8, [.ref qT, .int (iI len), .int (iI op), .int (iI fp), .int (iI bu), .int (iI ra), .int (iI en), .ref qMe, .ref qPk, .ref qSz, .ref qSu, .ref qDa, .ref qLo, .ref qLe, .ref qNa, .ref qNs, .ref qSt, .ref qSa, .ref qCo, .ref qWr, .int (iI to), .int (iI nw), .int (iI bt), .int (iI rf), .ref qLn, .ref qSm, .ref qCd, .ref qSc, .int (iI sy), .int (iI di), .int (iI th)])), (qT, .inl (cT, 20000, .inl fT)), (qPk, .inl (cPk, 64, .inr (.inl (fun k => lI (fPk k))))), (qDa, .inl (cDa, 64, .inl (fun k => iI (fDa k)))), (qSz, .inl (cSz, 64, .inr (.inl fSz))), (qCo, .inl (cCo, 64, .inl (fun k => iI (fCo k)))), (qWr, .inl (cWr, 40000, .inl fWr)), (qLn, .inl (cLn, 320, .inl (fun k => iI (fLn k)))), (qCd, .inl (cCd, 320, .inl fCd)), (qSm, .inl (cSm, 19, .inl (fun k => iI (fSm k)))), (qSc, .inl (cSc, 19, .inl fSc))] sz)) 0 0 (va_A [(qm, .inr (8, [.ref qT, .int (iI len), .int (iI op), .int (iI fp), .int (iI bu), .int (iI ra), .int (iI en), .ref qMe, .ref qPk, .ref qSz, .ref qSu, .ref qDa, .ref qLo, .ref qLe, .ref qNa, .ref qNs, .ref qSt, .ref qSa, .ref qCo, .ref qWr, .int (iI to), .int (iI nw), .int (iI bt), .int (iI rf), .ref qLn, .ref qSm, .ref qCd, .ref qSc, .int (iI sy), .int (iI di), .int (iI th)])), (qT, .inl (cT, 20000, .inl fT)), (qPk, .inl (cPk, 64, .inr (.inl (fun k => lI (fPk k))))), (qDa, .inl (cDa, 64, .inl (fun k => iI (fDa k)))), (qSz, .inl (cSz, 64, .inr (.inl fSz))), (qCo, .inl (cCo, 64, .inl (fun k => iI (fCo k)))), (qWr, .inl (cWr, 40000, .inl fWr)), (qLn, .inl (cLn, 320, .inl (fun k => iI (fLn k)))), (qCd, .inl (cCd, 320, .inl fCd)), (qSm, .inl (cSm, 19, .inl (fun k => iI (fSm k)))), (qSc, .inl (cSc, 19, .inl fSc))] sz) :=
  zMet (Qf := fun A => va_Qv (fun (u9 : Int × Int × Int × Int × Int × (Nat → Int) × (Nat → Int32) × (Nat → Int) × (Nat → Int) × (Nat → Int32) × (Nat → Int32)) => match u9 with | (b1, to1, r1, sy1, di1, fc1, fw1, fl1, fs1, fk1, fq1) => (∀ k : Nat, 0 ≤ fl1 k ∧ fl1 k ≤ 15) ∧ (∀ k : Nat, 0 ≤ fs1 k ∧ fs1 k ≤ 15) ∧ (∀ k : Nat, k ≠ nw.toNat → fc1 k = fCo k) ∧ (zRz (zunp fT (fDa nw.toNat + fPk nw.toNat).toNat bu.toNat ra.toNat (fPk nw.toNat).toNat (fSz nw.toNat) zfx 288 (fun _ => 5) 32 cs.toNat ((fPk nw.toNat).toNat * 8 + 1) (8 * fDa nw.toNat + bt).toNat (zOo to (fCo nw.toNat) cs fWr)) r1 (8 * fDa nw.toNat + b1) to1 (fc1 nw.toNat) cs fw1) ∧ (-2147483648 ≤ r1 ∧ r1 ≤ 2147483647) ∧ to ≤ to1 ∧ to1 ≤ 40000 ∧ fc1 nw.toNat - fCo nw.toNat = to1 - to ∧ bt ≤ b1 ∧ b1 ≤ 8 * fPk nw.toNat ∧ 0 ≤ r1 ∧ r1 ≤ 100) (fun u9 t => zB D ((fun (u9 : Int × Int × Int × Int × Int × (Nat → Int) × (Nat → Int32) × (Nat → Int) × (Nat → Int) × (Nat → Int32) × (Nat → Int32)) => match u9 with | (b1, to1, r1, sy1, di1, fc1, fw1, fl1, fs1, fk1, fq1) => [(qm, .inr (8, [.ref qT, .int (iI len), .int (iI op), .int (iI fp), .int (iI bu), .int (iI ra), .int (iI en), .ref qMe, .ref qPk, .ref qSz, .ref qSu, .ref qDa, .ref qLo, .ref qLe, .ref qNa, .ref qNs, .ref qSt, .ref qSa, .ref qCo, .ref qWr, .int (iI to1), .int (iI nw), .int (iI b1), .int (iI r1), .ref qLn, .ref qSm, .ref qCd, .ref qSc, .int (iI sy1), .int (iI di1), .int (iI th)])), (qT, .inl (cT, 20000, .inl fT)), (qPk, .inl (cPk, 64, .inr (.inl (fun k => lI (fPk k))))), (qDa, .inl (cDa, 64, .inl (fun k => iI (fDa k)))), (qSz, .inl (cSz, 64, .inr (.inl fSz))), (qCo, .inl (cCo, 64, .inl (fun k => iI (fc1 k)))), (qWr, .inl (cWr, 40000, .inl fw1)), (qLn, .inl (cLn, 320, .inl (fun k => iI (fl1 k)))), (qCd, .inl (cCd, 320, .inl fk1)), (qSm, .inl (cSm, 19, .inl (fun k => iI (fs1 k)))), (qSc, .inl (cSc, 19, .inl fq1))]) u9) ((fun (u9 : Int × Int × Int × Int × Int × (Nat → Int) × (Nat → Int32) × (Nat → Int) × (Nat → Int) × (Nat → Int32) × (Nat → Int32)) => match u9 with | (b1, to1, r1, sy1, di1, fc1, fw1, fl1, fs1, fk1, fq1) => [(cT, .byte), (cPk, .long), (cDa, .int), (cSz, .long), (cCo, .int), (cWr, .byte), (cLn, .int), (cCd, .int), (cSm, .int), (cSc, .int)]) u9) A t) A) (by decide) (Nat.le_of_ble_eq_true rfl) (fun p e s m below meth c A ls hx hb hr hml hown ht hlk hnm hA hK hP hD hX hl => by
    have hS : va_S A s.heap s.heap [] := va_S.rf
    have hl : lv_has ls 3 [(0, .ref qm)] := hl
    have hz1 : zp 1 = 2 := by decide
    have hz2 : zp 2 = 4 := by decide
    refine lv_iconst (v := iI 0) hx hb d_M_inflate_0 (by decide) ?_
    refine lv_istore_n (lv' := [(1, .int (iI 0)), (0, .ref qm)]) hx hb d_M_inflate_1 rfl hl (by decide) rfl (fun ls hl => ?_)
    have lp2 : ∀ (j : Nat) (la : Int) (t2 : Int) (b2 : Int) (r2 : Int) (sy2 : Int) (di2 : Int) (fc2 : Nat → Int) (fw2 : Nat → Int32) (fl2 : Nat → Int) (fk2 : Nat → Int32) (fs2 : Nat → Int) (fq2 : Nat → Int32) (H : Heap) (locs : List Loc) (ls : Array Slot), (0 ≤ la ∧ la ≤ 1) → (∀ k : Nat, 0 ≤ fl2 k ∧ fl2 k ≤ 15) → (∀ k : Nat, 0 ≤ fs2 k ∧ fs2 k ≤ 15) → (∀ k : Nat, k ≠ nw.toNat → fc2 k = fCo k) → (bt ≤ b2 ∧ b2 ≤ 8 * fPk nw.toNat) → (0 ≤ r2 ∧ r2 ≤ 100) → (to ≤ t2 ∧ t2 ≤ 40000 ∧ fc2 nw.toNat - fCo nw.toNat = t2 - to) → (zUn fT (fDa nw.toNat + fPk nw.toNat).toNat bu.toNat ra.toNat (fPk nw.toNat).toNat (fSz nw.toNat) (zunp fT (fDa nw.toNat + fPk nw.toNat).toNat bu.toNat ra.toNat (fPk nw.toNat).toNat (fSz nw.toNat) zfx 288 (fun _ => 5) 32 cs.toNat ((fPk nw.toNat).toNat * 8 + 1) (8 * fDa nw.toNat + bt).toNat (zOo to (fCo nw.toNat) cs fWr)) la r2 (8 * fDa nw.toNat + b2) t2 (fc2 nw.toNat) cs fw2) → (8 * fPk nw.toNat - b2 < (j : Int)) → va_P D zcl [(qm, .inr (8, [.ref qT, .int (iI len), .int (iI op), .int (iI fp), .int (iI bu), .int (iI ra), .int (iI en), .ref qMe, .ref qPk, .ref qSz, .ref qSu, .ref qDa, .ref qLo, .ref qLe, .ref qNa, .ref qNs, .ref qSt, .ref qSa, .ref qCo, .ref qWr, .int (iI t2), .int (iI nw), .int (iI b2), .int (iI r2), .ref qLn, .ref qSm, .ref qCd, .ref qSc, .int (iI sy2), .int (iI di2), .int (iI th)])), (qT, .inl (cT, 20000, .inl fT)), (qPk, .inl (cPk, 64, .inr (.inl (fun k => lI (fPk k))))), (qDa, .inl (cDa, 64, .inl (fun k => iI (fDa k)))), (qSz, .inl (cSz, 64, .inr (.inl fSz))), (qCo, .inl (cCo, 64, .inl (fun k => iI (fc2 k)))), (qWr, .inl (cWr, 40000, .inl fw2)), (qLn, .inl (cLn, 320, .inl (fun k => iI (fl2 k)))), (qCd, .inl (cCd, 320, .inl fk2)), (qSm, .inl (cSm, 19, .inl (fun k => iI (fs2 k)))), (qSc, .inl (cSc, 19, .inl fq2))] H → va_D A [(qm, .inr (8, [.ref qT, .int (iI len), .int (iI op), .int (iI fp), .int (iI bu), .int (iI ra), .int (iI en), .ref qMe, .ref qPk, .ref qSz, .ref qSu, .ref qDa, .ref qLo, .ref qLe, .ref qNa, .ref qNs, .ref qSt, .ref qSa, .ref qCo, .ref qWr, .int (iI t2), .int (iI nw), .int (iI b2), .int (iI r2), .ref qLn, .ref qSm, .ref qCd, .ref qSc, .int (iI sy2), .int (iI di2), .int (iI th)])), (qT, .inl (cT, 20000, .inl fT)), (qPk, .inl (cPk, 64, .inr (.inl (fun k => lI (fPk k))))), (qDa, .inl (cDa, 64, .inl (fun k => iI (fDa k)))), (qSz, .inl (cSz, 64, .inr (.inl fSz))), (qCo, .inl (cCo, 64, .inl (fun k => iI (fc2 k)))), (qWr, .inl (cWr, 40000, .inl fw2)), (qLn, .inl (cLn, 320, .inl (fun k => iI (fl2 k)))), (qCd, .inl (cCd, 320, .inl fk2)), (qSm, .inl (cSm, 19, .inl (fun k => iI (fs2 k)))), (qSc, .inl (cSc, 19, .inl fq2))] → va_S A s.heap H locs → lv_has ls 3 [(1, .int (iI la)), (0, .ref qm)] → W p l e { frames := 4, cells := 0, slots := 0, locals := 101 } s m [.ref qm].toArray below meth c H locs 0 0 (MQ below ((fun A => va_Qv (fun (u9 : Int × Int × Int × Int × Int × (Nat → Int) × (Nat → Int32) × (Nat → Int) × (Nat → Int) × (Nat → Int32) × (Nat → Int32)) => match u9 with | (b1, to1, r1, sy1, di1, fc1, fw1, fl1, fs1, fk1, fq1) => (∀ k : Nat, 0 ≤ fl1 k ∧ fl1 k ≤ 15) ∧ (∀ k : Nat, 0 ≤ fs1 k ∧ fs1 k ≤ 15) ∧ (∀ k : Nat, k ≠ nw.toNat → fc1 k = fCo k) ∧ (zRz (zunp fT (fDa nw.toNat + fPk nw.toNat).toNat bu.toNat ra.toNat (fPk nw.toNat).toNat (fSz nw.toNat) zfx 288 (fun _ => 5) 32 cs.toNat ((fPk nw.toNat).toNat * 8 + 1) (8 * fDa nw.toNat + bt).toNat (zOo to (fCo nw.toNat) cs fWr)) r1 (8 * fDa nw.toNat + b1) to1 (fc1 nw.toNat) cs fw1) ∧ (-2147483648 ≤ r1 ∧ r1 ≤ 2147483647) ∧ to ≤ to1 ∧ to1 ≤ 40000 ∧ fc1 nw.toNat - fCo nw.toNat = to1 - to ∧ bt ≤ b1 ∧ b1 ≤ 8 * fPk nw.toNat ∧ 0 ≤ r1 ∧ r1 ≤ 100) (fun u9 t => zB D ((fun (u9 : Int × Int × Int × Int × Int × (Nat → Int) × (Nat → Int32) × (Nat → Int) × (Nat → Int) × (Nat → Int32) × (Nat → Int32)) => match u9 with | (b1, to1, r1, sy1, di1, fc1, fw1, fl1, fs1, fk1, fq1) => [(qm, .inr (8, [.ref qT, .int (iI len), .int (iI op), .int (iI fp), .int (iI bu), .int (iI ra), .int (iI en), .ref qMe, .ref qPk, .ref qSz, .ref qSu, .ref qDa, .ref qLo, .ref qLe, .ref qNa, .ref qNs, .ref qSt, .ref qSa, .ref qCo, .ref qWr, .int (iI to1), .int (iI nw), .int (iI b1), .int (iI r1), .ref qLn, .ref qSm, .ref qCd, .ref qSc, .int (iI sy1), .int (iI di1), .int (iI th)])), (qT, .inl (cT, 20000, .inl fT)), (qPk, .inl (cPk, 64, .inr (.inl (fun k => lI (fPk k))))), (qDa, .inl (cDa, 64, .inl (fun k => iI (fDa k)))), (qSz, .inl (cSz, 64, .inr (.inl fSz))), (qCo, .inl (cCo, 64, .inl (fun k => iI (fc1 k)))), (qWr, .inl (cWr, 40000, .inl fw1)), (qLn, .inl (cLn, 320, .inl (fun k => iI (fl1 k)))), (qCd, .inl (cCd, 320, .inl fk1)), (qSm, .inl (cSm, 19, .inl (fun k => iI (fs1 k)))), (qSc, .inl (cSc, 19, .inl fq1))]) u9) ((fun (u9 : Int × Int × Int × Int × Int × (Nat → Int) × (Nat → Int32) × (Nat → Int) × (Nat → Int) × (Nat → Int32) × (Nat → Int32)) => match u9 with | (b1, to1, r1, sy1, di1, fc1, fw1, fl1, fs1, fk1, fq1) => [(cT, .byte), (cPk, .long), (cDa, .int), (cSz, .long), (cCo, .int), (cWr, .byte), (cLn, .int), (cCd, .int), (cSm, .int), (cSc, .int)]) u9) A t) A) A) [.ref qm].toArray s 0 0 A) (F0 m 2 ls []) := by
      intro j
      induction j with
      | zero => intro la t2 b2 r2 sy2 di2 fc2 fw2 fl2 fk2 fs2 fq2 H locs ls hla hA2 hB2 hw12 hC2 hD2 hE2 hun hj2 hP hD hS hl; exfalso; omega
      | succ j ih2 =>
        intro la t2 b2 r2 sy2 di2 fc2 fw2 fl2 fk2 fs2 fq2 H locs ls hla hA2 hB2 hw12 hC2 hD2 hE2 hun hj2 hP hD hS hl
        refine lv_iload_n hx hb d_M_inflate_2 rfl (lv_at hl 0 rfl) ?_
        refine zv_if_ne (tgt := 98) hx hb d_M_inflate_3 (by decide) (by omega) (fun hc_1 => ?_) (fun hc_1 => ?_)
        · skip
          exact zretv hx hb hr hlk hK hP hD hS (b2, t2, r2, sy2, di2, fc2, fw2, fl2, fs2, fk2, fq2) [0, 1, 2, 3, 4, 5, 6, 7, 8, 9, 10] [0, 1, 2, 3, 4, 5, 6, 7, 8, 9] rfl (by decide) rfl (⟨hA2, hB2, hw12, zUn_end hun (by omega), by omega⟩) (Nat.le_of_ble_eq_true rfl) (Nat.le_of_ble_eq_true rfl) d_M_inflate_98
        · skip
          refine lv_aload_n hx hb d_M_inflate_6 rfl (lv_at hl 1 rfl) ?_
          refine va_get (ci := 8) (C := "ZipGuardModel") (T := F_M) (N := 31) hx hb ht zi_M hown hK hP 0 rfl rfl 23 (by decide) (ht _ zm_775) (fun _ h9 => h9) rfl d_M_inflate_7 ?_
          refine zv_if_ne (tgt := 98) hx hb d_M_inflate_10 (by decide) (by omega) (fun hc_2 => ?_) (fun hc_2 => ?_)
          · skip
            exact zretv hx hb hr hlk hK hP hD hS (b2, t2, r2, sy2, di2, fc2, fw2, fl2, fs2, fk2, fq2) [0, 1, 2, 3, 4, 5, 6, 7, 8, 9, 10] [0, 1, 2, 3, 4, 5, 6, 7, 8, 9] rfl (by decide) rfl (⟨hA2, hB2, hw12, zUn_end hun (by omega), by omega⟩) (Nat.le_of_ble_eq_true rfl) (Nat.le_of_ble_eq_true rfl) d_M_inflate_98
          · skip
            refine lv_aload_n hx hb d_M_inflate_13 rfl (lv_at hl 1 rfl) ?_
            refine lv_iconst (v := iI 1) hx hb d_M_inflate_14 (by decide) ?_
            refine zji (wr := [(qSz, .inl (cSz, 64, .inr (.inl fSz))), (qCo, .inl (cCo, 64, .inl (fun k => iI (fc2 k)))), (qWr, .inl (cWr, 40000, .inl fw2)), (qLn, .inl (cLn, 320, .inl (fun k => iI (fl2 k)))), (qCd, .inl (cCd, 320, .inl fk2)), (qSm, .inl (cSm, 19, .inl (fun k => iI (fs2 k)))), (qSc, .inl (cSc, 19, .inl fq2))]) (va_runV (As := [.int (iI 1)]) (rest := []) ⟨hx, hb, hml, hown, ht⟩ (m_bits l D _ qm qT len op fp bu ra en qMe qPk qSz qSu qDa qLo qLe qNa qNs qSt qSa qCo qWr t2 nw b2 r2 qLn qSm qCd qSc sy2 di2 th cT fT cPk fPk cDa fDa 1 (by omega) (by omega) (by omega) (by omega) (by omega) (by omega)) (cwV 1 ht (zt_goodV zm_962 zm_963 zm_51 zm_79 zm_964) rfl rfl rfl (by decide +kernel) ⟨Nat.le_of_ble_eq_true rfl, Nat.le_of_ble_eq_true rfl⟩) (zpreV zBlind_t hK hP hD [0, 1, 2, 3] [0, 1, 2] rfl (by decide) rfl (fun _ _ _ => trivial) (va_recv (q := ("ZipGuardModel", F_M, 31)) hK hP rfl (q0 := 0) (ci := 8) rfl)) rfl rfl hl.1 rfl (lv_room (Nat.le_of_ble_eq_true rfl)) d_M_inflate_15 ⟨Nat.le_of_ble_eq_true rfl, Nat.le_of_ble_eq_true rfl⟩) hK hP hD hS hA [0, 1, 2, 3] [4, 5, 6, 7, 8, 9, 10] rfl rfl (by decide) (by decide) (fun r6 u9 H locs hp7 hP hD hK hS => ?_)
            obtain ⟨b_3, r_4, x_5⟩ := u9
            dsimp only at hp7 hP hD hK
            have hP : va_P D zcl [(qSz, .inl (cSz, 64, .inr (.inl fSz))), (qCo, .inl (cCo, 64, .inl (fun k => iI (fc2 k)))), (qWr, .inl (cWr, 40000, .inl fw2)), (qLn, .inl (cLn, 320, .inl (fun k => iI (fl2 k)))), (qCd, .inl (cCd, 320, .inl fk2)), (qSm, .inl (cSm, 19, .inl (fun k => iI (fs2 k)))), (qSc, .inl (cSc, 19, .inl fq2)), (qm, .inr (8, [.ref qT, .int (iI len), .int (iI op), .int (iI fp), .int (iI bu), .int (iI ra), .int (iI en), .ref qMe, .ref qPk, .ref qSz, .ref qSu, .ref qDa, .ref qLo, .ref qLe, .ref qNa, .ref qNs, .ref qSt, .ref qSa, .ref qCo, .ref qWr, .int (iI t2), .int (iI nw), .int (iI b_3), .int (iI r_4), .ref qLn, .ref qSm, .ref qCd, .ref qSc, .int (iI sy2), .int (iI di2), .int (iI th)])), (qT, .inl (cT, 20000, .inl fT)), (qPk, .inl (cPk, 64, .inr (.inl (fun k => lI (fPk k))))), (qDa, .inl (cDa, 64, .inl (fun k => iI (fDa k))))] H := hP
            have hD : va_D A [(qSz, .inl (cSz, 64, .inr (.inl fSz))), (qCo, .inl (cCo, 64, .inl (fun k => iI (fc2 k)))), (qWr, .inl (cWr, 40000, .inl fw2)), (qLn, .inl (cLn, 320, .inl (fun k => iI (fl2 k)))), (qCd, .inl (cCd, 320, .inl fk2)), (qSm, .inl (cSm, 19, .inl (fun k => iI (fs2 k)))), (qSc, .inl (cSc, 19, .inl fq2)), (qm, .inr (8, [.ref qT, .int (iI len), .int (iI op), .int (iI fp), .int (iI bu), .int (iI ra), .int (iI en), .ref qMe, .ref qPk, .ref qSz, .ref qSu, .ref qDa, .ref qLo, .ref qLe, .ref qNa, .ref qNs, .ref qSt, .ref qSa, .ref qCo, .ref qWr, .int (iI t2), .int (iI nw), .int (iI b_3), .int (iI r_4), .ref qLn, .ref qSm, .ref qCd, .ref qSc, .int (iI sy2), .int (iI di2), .int (iI th)])), (qT, .inl (cT, 20000, .inl fT)), (qPk, .inl (cPk, 64, .inr (.inl (fun k => lI (fPk k))))), (qDa, .inl (cDa, 64, .inl (fun k => iI (fDa k))))] := hD
            have hK : va_K D zcl [(cT, .byte), (cPk, .long), (cDa, .int), (cSz, .long), (cCo, .int), (cWr, .byte), (cLn, .int), (cCd, .int), (cSm, .int), (cSc, .int), (cT, .byte), (cPk, .long), (cDa, .int)] s := hK
            obtain ⟨he_8, hp7⟩ := hp7
            subst he_8
            have hP := hP.sub (ws' := [(qm, .inr (8, [.ref qT, .int (iI len), .int (iI op), .int (iI fp), .int (iI bu), .int (iI ra), .int (iI en), .ref qMe, .ref qPk, .ref qSz, .ref qSu, .ref qDa, .ref qLo, .ref qLe, .ref qNa, .ref qNs, .ref qSt, .ref qSa, .ref qCo, .ref qWr, .int (iI t2), .int (iI nw), .int (iI b_3), .int (iI r_4), .ref qLn, .ref qSm, .ref qCd, .ref qSc, .int (iI sy2), .int (iI di2), .int (iI th)])), (qT, .inl (cT, 20000, .inl fT)), (qPk, .inl (cPk, 64, .inr (.inl (fun k => lI (fPk k))))), (qDa, .inl (cDa, 64, .inl (fun k => iI (fDa k)))), (qSz, .inl (cSz, 64, .inr (.inl fSz))), (qCo, .inl (cCo, 64, .inl (fun k => iI (fc2 k)))), (qWr, .inl (cWr, 40000, .inl fw2)), (qLn, .inl (cLn, 320, .inl (fun k => iI (fl2 k)))), (qCd, .inl (cCd, 320, .inl fk2)), (qSm, .inl (cSm, 19, .inl (fun k => iI (fs2 k)))), (qSc, .inl (cSc, 19, .inl fq2))]) [7, 8, 9, 10, 0, 1, 2, 3, 4, 5, 6] rfl
            have hD := hD.sub (ws' := [(qm, .inr (8, [.ref qT, .int (iI len), .int (iI op), .int (iI fp), .int (iI bu), .int (iI ra), .int (iI en), .ref qMe, .ref qPk, .ref qSz, .ref qSu, .ref qDa, .ref qLo, .ref qLe, .ref qNa, .ref qNs, .ref qSt, .ref qSa, .ref qCo, .ref qWr, .int (iI t2), .int (iI nw), .int (iI b_3), .int (iI r_4), .ref qLn, .ref qSm, .ref qCd, .ref qSc, .int (iI sy2), .int (iI di2), .int (iI th)])), (qT, .inl (cT, 20000, .inl fT)), (qPk, .inl (cPk, 64, .inr (.inl (fun k => lI (fPk k))))), (qDa, .inl (cDa, 64, .inl (fun k => iI (fDa k)))), (qSz, .inl (cSz, 64, .inr (.inl fSz))), (qCo, .inl (cCo, 64, .inl (fun k => iI (fc2 k)))), (qWr, .inl (cWr, 40000, .inl fw2)), (qLn, .inl (cLn, 320, .inl (fun k => iI (fl2 k)))), (qCd, .inl (cCd, 320, .inl fk2)), (qSm, .inl (cSm, 19, .inl (fun k => iI (fs2 k)))), (qSc, .inl (cSc, 19, .inl fq2))]) [7, 8, 9, 10, 0, 1, 2, 3, 4, 5, 6] (by decide) rfl
            have hK := hK.sub (tys' := [(cT, .byte), (cPk, .long), (cDa, .int), (cSz, .long), (cCo, .int), (cWr, .byte), (cLn, .int), (cCd, .int), (cSm, .int), (cSc, .int)]) [0, 1, 2, 3, 4, 5, 6, 7, 8, 9] rfl
            have jn_9 : ∀ (lb : Int) (H : Heap) (locs : List Loc) (ls : Array Slot), ((lb = 1 ∧ x_5 = 1) ∨ (lb = 0 ∧ ¬ x_5 = 1)) → va_P D zcl [(qm, .inr (8, [.ref qT, .int (iI len), .int (iI op), .int (iI fp), .int (iI bu), .int (iI ra), .int (iI en), .ref qMe, .ref qPk, .ref qSz, .ref qSu, .ref qDa, .ref qLo, .ref qLe, .ref qNa, .ref qNs, .ref qSt, .ref qSa, .ref qCo, .ref qWr, .int (iI t2), .int (iI nw), .int (iI b_3), .int (iI r_4), .ref qLn, .ref qSm, .ref qCd, .ref qSc, .int (iI sy2), .int (iI di2), .int (iI th)])), (qT, .inl (cT, 20000, .inl fT)), (qPk, .inl (cPk, 64, .inr (.inl (fun k => lI (fPk k))))), (qDa, .inl (cDa, 64, .inl (fun k => iI (fDa k)))), (qSz, .inl (cSz, 64, .inr (.inl fSz))), (qCo, .inl (cCo, 64, .inl (fun k => iI (fc2 k)))), (qWr, .inl (cWr, 40000, .inl fw2)), (qLn, .inl (cLn, 320, .inl (fun k => iI (fl2 k)))), (qCd, .inl (cCd, 320, .inl fk2)), (qSm, .inl (cSm, 19, .inl (fun k => iI (fs2 k)))), (qSc, .inl (cSc, 19, .inl fq2))] H → va_D A [(qm, .inr (8, [.ref qT, .int (iI len), .int (iI op), .int (iI fp), .int (iI bu), .int (iI ra), .int (iI en), .ref qMe, .ref qPk, .ref qSz, .ref qSu, .ref qDa, .ref qLo, .ref qLe, .ref qNa, .ref qNs, .ref qSt, .ref qSa, .ref qCo, .ref qWr, .int (iI t2), .int (iI nw), .int (iI b_3), .int (iI r_4), .ref qLn, .ref qSm, .ref qCd, .ref qSc, .int (iI sy2), .int (iI di2), .int (iI th)])), (qT, .inl (cT, 20000, .inl fT)), (qPk, .inl (cPk, 64, .inr (.inl (fun k => lI (fPk k))))), (qDa, .inl (cDa, 64, .inl (fun k => iI (fDa k)))), (qSz, .inl (cSz, 64, .inr (.inl fSz))), (qCo, .inl (cCo, 64, .inl (fun k => iI (fc2 k)))), (qWr, .inl (cWr, 40000, .inl fw2)), (qLn, .inl (cLn, 320, .inl (fun k => iI (fl2 k)))), (qCd, .inl (cCd, 320, .inl fk2)), (qSm, .inl (cSm, 19, .inl (fun k => iI (fs2 k)))), (qSc, .inl (cSc, 19, .inl fq2))] → va_S A s.heap H locs → lv_has ls 3 [(0, .ref qm), (1, .int (iI lb))] → W p l e { frames := 4, cells := 0, slots := 0, locals := 101 } s m [.ref qm].toArray below meth c H locs 0 0 (MQ below ((fun A => va_Qv (fun (u9 : Int × Int × Int × Int × Int × (Nat → Int) × (Nat → Int32) × (Nat → Int) × (Nat → Int) × (Nat → Int32) × (Nat → Int32)) => match u9 with | (b1, to1, r1, sy1, di1, fc1, fw1, fl1, fs1, fk1, fq1) => (∀ k : Nat, 0 ≤ fl1 k ∧ fl1 k ≤ 15) ∧ (∀ k : Nat, 0 ≤ fs1 k ∧ fs1 k ≤ 15) ∧ (∀ k : Nat, k ≠ nw.toNat → fc1 k = fCo k) ∧ (zRz (zunp fT (fDa nw.toNat + fPk nw.toNat).toNat bu.toNat ra.toNat (fPk nw.toNat).toNat (fSz nw.toNat) zfx 288 (fun _ => 5) 32 cs.toNat ((fPk nw.toNat).toNat * 8 + 1) (8 * fDa nw.toNat + bt).toNat (zOo to (fCo nw.toNat) cs fWr)) r1 (8 * fDa nw.toNat + b1) to1 (fc1 nw.toNat) cs fw1) ∧ (-2147483648 ≤ r1 ∧ r1 ≤ 2147483647) ∧ to ≤ to1 ∧ to1 ≤ 40000 ∧ fc1 nw.toNat - fCo nw.toNat = to1 - to ∧ bt ≤ b1 ∧ b1 ≤ 8 * fPk nw.toNat ∧ 0 ≤ r1 ∧ r1 ≤ 100) (fun u9 t => zB D ((fun (u9 : Int × Int × Int × Int × Int × (Nat → Int) × (Nat → Int32) × (Nat → Int) × (Nat → Int) × (Nat → Int32) × (Nat → Int32)) => match u9 with | (b1, to1, r1, sy1, di1, fc1, fw1, fl1, fs1, fk1, fq1) => [(qm, .inr (8, [.ref qT, .int (iI len), .int (iI op), .int (iI fp), .int (iI bu), .int (iI ra), .int (iI en), .ref qMe, .ref qPk, .ref qSz, .ref qSu, .ref qDa, .ref qLo, .ref qLe, .ref qNa, .ref qNs, .ref qSt, .ref qSa, .ref qCo, .ref qWr, .int (iI to1), .int (iI nw), .int (iI b1), .int (iI r1), .ref qLn, .ref qSm, .ref qCd, .ref qSc, .int (iI sy1), .int (iI di1), .int (iI th)])), (qT, .inl (cT, 20000, .inl fT)), (qPk, .inl (cPk, 64, .inr (.inl (fun k => lI (fPk k))))), (qDa, .inl (cDa, 64, .inl (fun k => iI (fDa k)))), (qSz, .inl (cSz, 64, .inr (.inl fSz))), (qCo, .inl (cCo, 64, .inl (fun k => iI (fc1 k)))), (qWr, .inl (cWr, 40000, .inl fw1)), (qLn, .inl (cLn, 320, .inl (fun k => iI (fl1 k)))), (qCd, .inl (cCd, 320, .inl fk1)), (qSm, .inl (cSm, 19, .inl (fun k => iI (fs1 k)))), (qSc, .inl (cSc, 19, .inl fq1))]) u9) ((fun (u9 : Int × Int × Int × Int × Int × (Nat → Int) × (Nat → Int32) × (Nat → Int) × (Nat → Int) × (Nat → Int32) × (Nat → Int32)) => match u9 with | (b1, to1, r1, sy1, di1, fc1, fw1, fl1, fs1, fk1, fq1) => [(cT, .byte), (cPk, .long), (cDa, .int), (cSz, .long), (cCo, .int), (cWr, .byte), (cLn, .int), (cCd, .int), (cSm, .int), (cSc, .int)]) u9) A t) A) A) [.ref qm].toArray s 0 0 A) (F0 m 28 ls []) := by
              intro lb H locs ls hlb hP hD hS hl
              refine lv_aload_n hx hb d_M_inflate_28 rfl (lv_at hl 0 rfl) ?_
              refine lv_iconst (v := iI 2) hx hb d_M_inflate_29 (by decide) ?_
              refine zji (wr := [(qSz, .inl (cSz, 64, .inr (.inl fSz))), (qCo, .inl (cCo, 64, .inl (fun k => iI (fc2 k)))), (qWr, .inl (cWr, 40000, .inl fw2)), (qLn, .inl (cLn, 320, .inl (fun k => iI (fl2 k)))), (qCd, .inl (cCd, 320, .inl fk2)), (qSm, .inl (cSm, 19, .inl (fun k => iI (fs2 k)))), (qSc, .inl (cSc, 19, .inl fq2))]) (va_runV (As := [.int (iI 2)]) (rest := []) ⟨hx, hb, hml, hown, ht⟩ (m_bits l D _ qm qT len op fp bu ra en qMe qPk qSz qSu qDa qLo qLe qNa qNs qSt qSa qCo qWr t2 nw b_3 r_4 qLn qSm qCd qSc sy2 di2 th cT fT cPk fPk cDa fDa 2 (by omega) (by omega) (by omega) (by omega) (by omega) (by omega)) (cwV 1 ht (zt_goodV zm_962 zm_963 zm_51 zm_79 zm_964) rfl rfl rfl (by decide +kernel) ⟨Nat.le_of_ble_eq_true rfl, Nat.le_of_ble_eq_true rfl⟩) (zpreV zBlind_t hK hP hD [0, 1, 2, 3] [0, 1, 2] rfl (by decide) rfl (fun _ _ _ => trivial) (va_recv (q := ("ZipGuardModel", F_M, 31)) hK hP rfl (q0 := 0) (ci := 8) rfl)) rfl rfl hl.1 rfl (lv_room (Nat.le_of_ble_eq_true rfl)) d_M_inflate_30 ⟨Nat.le_of_ble_eq_true rfl, Nat.le_of_ble_eq_true rfl⟩) hK hP hD hS hA [0, 1, 2, 3] [4, 5, 6, 7, 8, 9, 10] rfl rfl (by decide) (by decide) (fun r13 u9 H locs hp14 hP hD hK hS => ?_)
              obtain ⟨b_10, r_11, x_12⟩ := u9
              dsimp only at hp14 hP hD hK
              have hP : va_P D zcl [(qSz, .inl (cSz, 64, .inr (.inl fSz))), (qCo, .inl (cCo, 64, .inl (fun k => iI (fc2 k)))), (qWr, .inl (cWr, 40000, .inl fw2)), (qLn, .inl (cLn, 320, .inl (fun k => iI (fl2 k)))), (qCd, .inl (cCd, 320, .inl fk2)), (qSm, .inl (cSm, 19, .inl (fun k => iI (fs2 k)))), (qSc, .inl (cSc, 19, .inl fq2)), (qm, .inr (8, [.ref qT, .int (iI len), .int (iI op), .int (iI fp), .int (iI bu), .int (iI ra), .int (iI en), .ref qMe, .ref qPk, .ref qSz, .ref qSu, .ref qDa, .ref qLo, .ref qLe, .ref qNa, .ref qNs, .ref qSt, .ref qSa, .ref qCo, .ref qWr, .int (iI t2), .int (iI nw), .int (iI b_10), .int (iI r_11), .ref qLn, .ref qSm, .ref qCd, .ref qSc, .int (iI sy2), .int (iI di2), .int (iI th)])), (qT, .inl (cT, 20000, .inl fT)), (qPk, .inl (cPk, 64, .inr (.inl (fun k => lI (fPk k))))), (qDa, .inl (cDa, 64, .inl (fun k => iI (fDa k))))] H := hP
              have hD : va_D A [(qSz, .inl (cSz, 64, .inr (.inl fSz))), (qCo, .inl (cCo, 64, .inl (fun k => iI (fc2 k)))), (qWr, .inl (cWr, 40000, .inl fw2)), (qLn, .inl (cLn, 320, .inl (fun k => iI (fl2 k)))), (qCd, .inl (cCd, 320, .inl fk2)), (qSm, .inl (cSm, 19, .inl (fun k => iI (fs2 k)))), (qSc, .inl (cSc, 19, .inl fq2)), (qm, .inr (8, [.ref qT, .int (iI len), .int (iI op), .int (iI fp), .int (iI bu), .int (iI ra), .int (iI en), .ref qMe, .ref qPk, .ref qSz, .ref qSu, .ref qDa, .ref qLo, .ref qLe, .ref qNa, .ref qNs, .ref qSt, .ref qSa, .ref qCo, .ref qWr, .int (iI t2), .int (iI nw), .int (iI b_10), .int (iI r_11), .ref qLn, .ref qSm, .ref qCd, .ref qSc, .int (iI sy2), .int (iI di2), .int (iI th)])), (qT, .inl (cT, 20000, .inl fT)), (qPk, .inl (cPk, 64, .inr (.inl (fun k => lI (fPk k))))), (qDa, .inl (cDa, 64, .inl (fun k => iI (fDa k))))] := hD
              have hK : va_K D zcl [(cT, .byte), (cPk, .long), (cDa, .int), (cSz, .long), (cCo, .int), (cWr, .byte), (cLn, .int), (cCd, .int), (cSm, .int), (cSc, .int), (cT, .byte), (cPk, .long), (cDa, .int)] s := hK
              obtain ⟨he_15, hp14⟩ := hp14
              subst he_15
              have hP := hP.sub (ws' := [(qm, .inr (8, [.ref qT, .int (iI len), .int (iI op), .int (iI fp), .int (iI bu), .int (iI ra), .int (iI en), .ref qMe, .ref qPk, .ref qSz, .ref qSu, .ref qDa, .ref qLo, .ref qLe, .ref qNa, .ref qNs, .ref qSt, .ref qSa, .ref qCo, .ref qWr, .int (iI t2), .int (iI nw), .int (iI b_10), .int (iI r_11), .ref qLn, .ref qSm, .ref qCd, .ref qSc, .int (iI sy2), .int (iI di2), .int (iI th)])), (qT, .inl (cT, 20000, .inl fT)), (qPk, .inl (cPk, 64, .inr (.inl (fun k => lI (fPk k))))), (qDa, .inl (cDa, 64, .inl (fun k => iI (fDa k)))), (qSz, .inl (cSz, 64, .inr (.inl fSz))), (qCo, .inl (cCo, 64, .inl (fun k => iI (fc2 k)))), (qWr, .inl (cWr, 40000, .inl fw2)), (qLn, .inl (cLn, 320, .inl (fun k => iI (fl2 k)))), (qCd, .inl (cCd, 320, .inl fk2)), (qSm, .inl (cSm, 19, .inl (fun k => iI (fs2 k)))), (qSc, .inl (cSc, 19, .inl fq2))]) [7, 8, 9, 10, 0, 1, 2, 3, 4, 5, 6] rfl
              have hD := hD.sub (ws' := [(qm, .inr (8, [.ref qT, .int (iI len), .int (iI op), .int (iI fp), .int (iI bu), .int (iI ra), .int (iI en), .ref qMe, .ref qPk, .ref qSz, .ref qSu, .ref qDa, .ref qLo, .ref qLe, .ref qNa, .ref qNs, .ref qSt, .ref qSa, .ref qCo, .ref qWr, .int (iI t2), .int (iI nw), .int (iI b_10), .int (iI r_11), .ref qLn, .ref qSm, .ref qCd, .ref qSc, .int (iI sy2), .int (iI di2), .int (iI th)])), (qT, .inl (cT, 20000, .inl fT)), (qPk, .inl (cPk, 64, .inr (.inl (fun k => lI (fPk k))))), (qDa, .inl (cDa, 64, .inl (fun k => iI (fDa k)))), (qSz, .inl (cSz, 64, .inr (.inl fSz))), (qCo, .inl (cCo, 64, .inl (fun k => iI (fc2 k)))), (qWr, .inl (cWr, 40000, .inl fw2)), (qLn, .inl (cLn, 320, .inl (fun k => iI (fl2 k)))), (qCd, .inl (cCd, 320, .inl fk2)), (qSm, .inl (cSm, 19, .inl (fun k => iI (fs2 k)))), (qSc, .inl (cSc, 19, .inl fq2))]) [7, 8, 9, 10, 0, 1, 2, 3, 4, 5, 6] (by decide) rfl
              have hK := hK.sub (tys' := [(cT, .byte), (cPk, .long), (cDa, .int), (cSz, .long), (cCo, .int), (cWr, .byte), (cLn, .int), (cCd, .int), (cSm, .int), (cSc, .int)]) [0, 1, 2, 3, 4, 5, 6, 7, 8, 9] rfl
              have hu3 := zU3_mk (E := 8 * (fDa nw.toNat + fPk nw.toNat)) (q := 8 * fDa nw.toNat + b2) (q2 := 8 * fDa nw.toNat + b_10) (by omega) (by omega) hp7.1 hp14.1 (fun h9 => by omega) (fun h9 => by omega)
              refine lv_istore_n (lv' := [(2, .int (iI x_12)), (0, .ref qm), (1, .int (iI lb))]) hx hb d_M_inflate_33 rfl hl (by decide) rfl (fun ls hl => ?_)
              refine lv_aload_n hx hb d_M_inflate_34 rfl (lv_at hl 1 rfl) ?_
              refine va_get (ci := 8) (C := "ZipGuardModel") (T := F_M) (N := 31) hx hb ht zi_M hown hK hP 0 rfl rfl 23 (by decide) (ht _ zm_775) (fun _ h9 => h9) rfl d_M_inflate_35 ?_
              refine zv_if_eq (tgt := 42) hx hb d_M_inflate_38 (by decide) (by omega) (fun hc_16 => ?_) (fun hc_16 => ?_)
              · skip
                have jn_17 : ∀ (t5 : Int) (b5 : Int) (r5 : Int) (sy5 : Int) (di5 : Int) (fc5 : Nat → Int) (fw5 : Nat → Int32) (fl5 : Nat → Int) (fk5 : Nat → Int32) (fs5 : Nat → Int) (fq5 : Nat → Int32) (H : Heap) (locs : List Loc) (ls : Array Slot), (∀ k : Nat, 0 ≤ fl5 k ∧ fl5 k ≤ 15) → (∀ k : Nat, 0 ≤ fs5 k ∧ fs5 k ≤ 15) → (∀ k : Nat, k ≠ nw.toNat → fc5 k = fCo k) → (bt ≤ b5 ∧ b5 ≤ 8 * fPk nw.toNat) → (0 ≤ r5 ∧ r5 ≤ 100) → (to ≤ t5 ∧ t5 ≤ 40000 ∧ fc5 nw.toNat - fCo nw.toNat = t5 - to) → (b2 < b5) → (zUn fT (fDa nw.toNat + fPk nw.toNat).toNat bu.toNat ra.toNat (fPk nw.toNat).toNat (fSz nw.toNat) (zunp fT (fDa nw.toNat + fPk nw.toNat).toNat bu.toNat ra.toNat (fPk nw.toNat).toNat (fSz nw.toNat) zfx 288 (fun _ => 5) 32 cs.toNat ((fPk nw.toNat).toNat * 8 + 1) (8 * fDa nw.toNat + bt).toNat (zOo to (fCo nw.toNat) cs fWr)) lb r5 (8 * fDa nw.toNat + b5) t5 (fc5 nw.toNat) cs fw5) → va_P D zcl [(qm, .inr (8, [.ref qT, .int (iI len), .int (iI op), .int (iI fp), .int (iI bu), .int (iI ra), .int (iI en), .ref qMe, .ref qPk, .ref qSz, .ref qSu, .ref qDa, .ref qLo, .ref qLe, .ref qNa, .ref qNs, .ref qSt, .ref qSa, .ref qCo, .ref qWr, .int (iI t5), .int (iI nw), .int (iI b5), .int (iI r5), .ref qLn, .ref qSm, .ref qCd, .ref qSc, .int (iI sy5), .int (iI di5), .int (iI th)])), (qT, .inl (cT, 20000, .inl fT)), (qPk, .inl (cPk, 64, .inr (.inl (fun k => lI (fPk k))))), (qDa, .inl (cDa, 64, .inl (fun k => iI (fDa k)))), (qSz, .inl (cSz, 64, .inr (.inl fSz))), (qCo, .inl (cCo, 64, .inl (fun k => iI (fc5 k)))), (qWr, .inl (cWr, 40000, .inl fw5)), (qLn, .inl (cLn, 320, .inl (fun k => iI (fl5 k)))), (qCd, .inl (cCd, 320, .inl fk5)), (qSm, .inl (cSm, 19, .inl (fun k => iI (fs5 k)))), (qSc, .inl (cSc, 19, .inl fq5))] H → va_D A [(qm, .inr (8, [.ref qT, .int (iI len), .int (iI op), .int (iI fp), .int (iI bu), .int (iI ra), .int (iI en), .ref qMe, .ref qPk, .ref qSz, .ref qSu, .ref qDa, .ref qLo, .ref qLe, .ref qNa, .ref qNs, .ref qSt, .ref qSa, .ref qCo, .ref qWr, .int (iI t5), .int (iI nw), .int (iI b5), .int (iI r5), .ref qLn, .ref qSm, .ref qCd, .ref qSc, .int (iI sy5), .int (iI di5), .int (iI th)])), (qT, .inl (cT, 20000, .inl fT)), (qPk, .inl (cPk, 64, .inr (.inl (fun k => lI (fPk k))))), (qDa, .inl (cDa, 64, .inl (fun k => iI (fDa k)))), (qSz, .inl (cSz, 64, .inr (.inl fSz))), (qCo, .inl (cCo, 64, .inl (fun k => iI (fc5 k)))), (qWr, .inl (cWr, 40000, .inl fw5)), (qLn, .inl (cLn, 320, .inl (fun k => iI (fl5 k)))), (qCd, .inl (cCd, 320, .inl fk5)), (qSm, .inl (cSm, 19, .inl (fun k => iI (fs5 k)))), (qSc, .inl (cSc, 19, .inl fq5))] → va_S A s.heap H locs → lv_has ls 3 [(2, .int (iI x_12)), (0, .ref qm), (1, .int (iI lb))] → W p l e { frames := 4, cells := 0, slots := 0, locals := 101 } s m [.ref qm].toArray below meth c H locs 0 0 (MQ below ((fun A => va_Qv (fun (u9 : Int × Int × Int × Int × Int × (Nat → Int) × (Nat → Int32) × (Nat → Int) × (Nat → Int) × (Nat → Int32) × (Nat → Int32)) => match u9 with | (b1, to1, r1, sy1, di1, fc1, fw1, fl1, fs1, fk1, fq1) => (∀ k : Nat, 0 ≤ fl1 k ∧ fl1 k ≤ 15) ∧ (∀ k : Nat, 0 ≤ fs1 k ∧ fs1 k ≤ 15) ∧ (∀ k : Nat, k ≠ nw.toNat → fc1 k = fCo k) ∧ (zRz (zunp fT (fDa nw.toNat + fPk nw.toNat).toNat bu.toNat ra.toNat (fPk nw.toNat).toNat (fSz nw.toNat) zfx 288 (fun _ => 5) 32 cs.toNat ((fPk nw.toNat).toNat * 8 + 1) (8 * fDa nw.toNat + bt).toNat (zOo to (fCo nw.toNat) cs fWr)) r1 (8 * fDa nw.toNat + b1) to1 (fc1 nw.toNat) cs fw1) ∧ (-2147483648 ≤ r1 ∧ r1 ≤ 2147483647) ∧ to ≤ to1 ∧ to1 ≤ 40000 ∧ fc1 nw.toNat - fCo nw.toNat = to1 - to ∧ bt ≤ b1 ∧ b1 ≤ 8 * fPk nw.toNat ∧ 0 ≤ r1 ∧ r1 ≤ 100) (fun u9 t => zB D ((fun (u9 : Int × Int × Int × Int × Int × (Nat → Int) × (Nat → Int32) × (Nat → Int) × (Nat → Int) × (Nat → Int32) × (Nat → Int32)) => match u9 with | (b1, to1, r1, sy1, di1, fc1, fw1, fl1, fs1, fk1, fq1) => [(qm, .inr (8, [.ref qT, .int (iI len), .int (iI op), .int (iI fp), .int (iI bu), .int (iI ra), .int (iI en), .ref qMe, .ref qPk, .ref qSz, .ref qSu, .ref qDa, .ref qLo, .ref qLe, .ref qNa, .ref qNs, .ref qSt, .ref qSa, .ref qCo, .ref qWr, .int (iI to1), .int (iI nw), .int (iI b1), .int (iI r1), .ref qLn, .ref qSm, .ref qCd, .ref qSc, .int (iI sy1), .int (iI di1), .int (iI th)])), (qT, .inl (cT, 20000, .inl fT)), (qPk, .inl (cPk, 64, .inr (.inl (fun k => lI (fPk k))))), (qDa, .inl (cDa, 64, .inl (fun k => iI (fDa k)))), (qSz, .inl (cSz, 64, .inr (.inl fSz))), (qCo, .inl (cCo, 64, .inl (fun k => iI (fc1 k)))), (qWr, .inl (cWr, 40000, .inl fw1)), (qLn, .inl (cLn, 320, .inl (fun k => iI (fl1 k)))), (qCd, .inl (cCd, 320, .inl fk1)), (qSm, .inl (cSm, 19, .inl (fun k => iI (fs1 k)))), (qSc, .inl (cSc, 19, .inl fq1))]) u9) ((fun (u9 : Int × Int × Int × Int × Int × (Nat → Int) × (Nat → Int32) × (Nat → Int) × (Nat → Int) × (Nat → Int32) × (Nat → Int32)) => match u9 with | (b1, to1, r1, sy1, di1, fc1, fw1, fl1, fs1, fk1, fq1) => [(cT, .byte), (cPk, .long), (cDa, .int), (cSz, .long), (cCo, .int), (cWr, .byte), (cLn, .int), (cCd, .int), (cSm, .int), (cSc, .int)]) u9) A t) A) A) [.ref qm].toArray s 0 0 A) (F0 m 95 ls []) := by
                  intro t5 b5 r5 sy5 di5 fc5 fw5 fl5 fk5 fs5 fq5 H locs ls hA5 hB5 hw15 hC5 hD5 hE5 hlt5 hun5 hP hD hS hl
                  refine lv_goto (tgt := 2) hx hb d_M_inflate_95 (by decide) ?_
                  exact ih2 lb t5 b5 r5 sy5 di5 fc5 fw5 fl5 fk5 fs5 fq5 _ _ _ (by omega) hA5 hB5 hw15 (by omega) (by omega) (by omega) hun5 (by omega) hP hD hS (lv_sub hl [2, 1] rfl)
                refine lv_iload_n hx hb d_M_inflate_42 rfl (lv_at hl 0 rfl) ?_
                refine zv_if_ne (tgt := 53) hx hb d_M_inflate_43 (by decide) (by omega) (fun hc_18 => ?_) (fun hc_18 => ?_)
                · skip
                  refine lv_iload_n hx hb d_M_inflate_53 rfl (lv_at hl 0 rfl) ?_
                  refine lv_iconst (v := iI 3) hx hb d_M_inflate_54 (by decide) ?_
                  refine zv_icmp_ne (tgt := 68) hx hb d_M_inflate_55 (by decide) (by omega) (by omega) (fun hc_19 => ?_) (fun hc_19 => ?_)
                  · skip
                    refine lv_iload_n hx hb d_M_inflate_68 rfl (lv_at hl 0 rfl) ?_
                    refine lv_iconst (v := iI 1) hx hb d_M_inflate_69 (by decide) ?_
                    refine zv_icmp_ne (tgt := 80) hx hb d_M_inflate_70 (by decide) (by omega) (by omega) (fun hc_20 => ?_) (fun hc_20 => ?_)
                    · skip
                      refine lv_aload_n hx hb d_M_inflate_80 rfl (lv_at hl 1 rfl) ?_
                      refine zjv (wr := [(qSz, .inl (cSz, 64, .inr (.inl fSz))), (qCo, .inl (cCo, 64, .inl (fun k => iI (fc2 k)))), (qWr, .inl (cWr, 40000, .inl fw2))]) (va_runV (As := []) (rest := []) ⟨hx, hb, hml, hown, ht⟩ (m_read l D _ qm qT len op fp bu ra en qMe qPk qSz qSu qDa qLo qLe qNa qNs qSt qSa qCo qWr t2 nw b_10 r_11 qLn qSm qCd qSc sy2 di2 th cT fT cPk fPk cDa fDa cLn fl2 cSm fs2 cCd fk2 cSc fq2 (by omega) (by omega) (by omega) (by omega) (by omega) hA2 hB2 (by omega)) (cwV 0 ht (zt_goodV zm_984 zm_985 zm_57 zm_79 zm_986) rfl rfl rfl (by decide +kernel) ⟨Nat.le_of_ble_eq_true rfl, Nat.le_of_ble_eq_true rfl⟩) (zpreV zBlind_t hK hP hD [0, 1, 2, 3, 7, 9, 8, 10] [0, 1, 2, 6, 8, 7, 9] rfl (by decide) rfl (fun _ _ _ => trivial) (va_recv (q := ("ZipGuardModel", F_M, 31)) hK hP rfl (q0 := 0) (ci := 8) rfl)) rfl rfl hl.1 rfl (lv_room (Nat.le_of_ble_eq_true rfl)) d_M_inflate_81 ⟨Nat.le_of_ble_eq_true rfl, Nat.le_of_ble_eq_true rfl⟩) hK hP hD hS hA [0, 1, 2, 3, 7, 9, 8, 10] [4, 5, 6] rfl rfl (by decide) (by decide) (fun u9 H locs hp30 hP hD hK hS => ?_)
                      obtain ⟨b_21, r_22, s_23, d_24, f_25, f_26, f_27, f_28⟩ := u9
                      dsimp only at hp30 hP hD hK
                      have hP : va_P D zcl [(qSz, .inl (cSz, 64, .inr (.inl fSz))), (qCo, .inl (cCo, 64, .inl (fun k => iI (fc2 k)))), (qWr, .inl (cWr, 40000, .inl fw2)), (qm, .inr (8, [.ref qT, .int (iI len), .int (iI op), .int (iI fp), .int (iI bu), .int (iI ra), .int (iI en), .ref qMe, .ref qPk, .ref qSz, .ref qSu, .ref qDa, .ref qLo, .ref qLe, .ref qNa, .ref qNs, .ref qSt, .ref qSa, .ref qCo, .ref qWr, .int (iI t2), .int (iI nw), .int (iI b_21), .int (iI r_22), .ref qLn, .ref qSm, .ref qCd, .ref qSc, .int (iI s_23), .int (iI d_24), .int (iI th)])), (qT, .inl (cT, 20000, .inl fT)), (qPk, .inl (cPk, 64, .inr (.inl (fun k => lI (fPk k))))), (qDa, .inl (cDa, 64, .inl (fun k => iI (fDa k)))), (qLn, .inl (cLn, 320, .inl (fun k => iI (f_25 k)))), (qSm, .inl (cSm, 19, .inl (fun k => iI (f_26 k)))), (qCd, .inl (cCd, 320, .inl f_27)), (qSc, .inl (cSc, 19, .inl f_28))] H := hP
                      have hD : va_D A [(qSz, .inl (cSz, 64, .inr (.inl fSz))), (qCo, .inl (cCo, 64, .inl (fun k => iI (fc2 k)))), (qWr, .inl (cWr, 40000, .inl fw2)), (qm, .inr (8, [.ref qT, .int (iI len), .int (iI op), .int (iI fp), .int (iI bu), .int (iI ra), .int (iI en), .ref qMe, .ref qPk, .ref qSz, .ref qSu, .ref qDa, .ref qLo, .ref qLe, .ref qNa, .ref qNs, .ref qSt, .ref qSa, .ref qCo, .ref qWr, .int (iI t2), .int (iI nw), .int (iI b_21), .int (iI r_22), .ref qLn, .ref qSm, .ref qCd, .ref qSc, .int (iI s_23), .int (iI d_24), .int (iI th)])), (qT, .inl (cT, 20000, .inl fT)), (qPk, .inl (cPk, 64, .inr (.inl (fun k => lI (fPk k))))), (qDa, .inl (cDa, 64, .inl (fun k => iI (fDa k)))), (qLn, .inl (cLn, 320, .inl (fun k => iI (f_25 k)))), (qSm, .inl (cSm, 19, .inl (fun k => iI (f_26 k)))), (qCd, .inl (cCd, 320, .inl f_27)), (qSc, .inl (cSc, 19, .inl f_28))] := hD
                      have hK : va_K D zcl [(cT, .byte), (cPk, .long), (cDa, .int), (cSz, .long), (cCo, .int), (cWr, .byte), (cLn, .int), (cCd, .int), (cSm, .int), (cSc, .int), (cT, .byte), (cPk, .long), (cDa, .int), (cLn, .int), (cSm, .int), (cCd, .int), (cSc, .int)] s := hK
                      have hf_31 := hp30.1
                      have hf_32 := hp30.2.1
                      have hP := hP.sub (ws' := [(qm, .inr (8, [.ref qT, .int (iI len), .int (iI op), .int (iI fp), .int (iI bu), .int (iI ra), .int (iI en), .ref qMe, .ref qPk, .ref qSz, .ref qSu, .ref qDa, .ref qLo, .ref qLe, .ref qNa, .ref qNs, .ref qSt, .ref qSa, .ref qCo, .ref qWr, .int (iI t2), .int (iI nw), .int (iI b_21), .int (iI r_22), .ref qLn, .ref qSm, .ref qCd, .ref qSc, .int (iI s_23), .int (iI d_24), .int (iI th)])), (qT, .inl (cT, 20000, .inl fT)), (qPk, .inl (cPk, 64, .inr (.inl (fun k => lI (fPk k))))), (qDa, .inl (cDa, 64, .inl (fun k => iI (fDa k)))), (qSz, .inl (cSz, 64, .inr (.inl fSz))), (qCo, .inl (cCo, 64, .inl (fun k => iI (fc2 k)))), (qWr, .inl (cWr, 40000, .inl fw2)), (qLn, .inl (cLn, 320, .inl (fun k => iI (f_25 k)))), (qCd, .inl (cCd, 320, .inl f_27)), (qSm, .inl (cSm, 19, .inl (fun k => iI (f_26 k)))), (qSc, .inl (cSc, 19, .inl f_28))]) [3, 4, 5, 6, 0, 1, 2, 7, 9, 8, 10] rfl
                      have hD := hD.sub (ws' := [(qm, .inr (8, [.ref qT, .int (iI len), .int (iI op), .int (iI fp), .int (iI bu), .int (iI ra), .int (iI en), .ref qMe, .ref qPk, .ref qSz, .ref qSu, .ref qDa, .ref qLo, .ref qLe, .ref qNa, .ref qNs, .ref qSt, .ref qSa, .ref qCo, .ref qWr, .int (iI t2), .int (iI nw), .int (iI b_21), .int (iI r_22), .ref qLn, .ref qSm, .ref qCd, .ref qSc, .int (iI s_23), .int (iI d_24), .int (iI th)])), (qT, .inl (cT, 20000, .inl fT)), (qPk, .inl (cPk, 64, .inr (.inl (fun k => lI (fPk k))))), (qDa, .inl (cDa, 64, .inl (fun k => iI (fDa k)))), (qSz, .inl (cSz, 64, .inr (.inl fSz))), (qCo, .inl (cCo, 64, .inl (fun k => iI (fc2 k)))), (qWr, .inl (cWr, 40000, .inl fw2)), (qLn, .inl (cLn, 320, .inl (fun k => iI (f_25 k)))), (qCd, .inl (cCd, 320, .inl f_27)), (qSm, .inl (cSm, 19, .inl (fun k => iI (f_26 k)))), (qSc, .inl (cSc, 19, .inl f_28))]) [3, 4, 5, 6, 0, 1, 2, 7, 9, 8, 10] (by decide) rfl
                      have hK := hK.sub (tys' := [(cT, .byte), (cPk, .long), (cDa, .int), (cSz, .long), (cCo, .int), (cWr, .byte), (cLn, .int), (cCd, .int), (cSm, .int), (cSc, .int)]) [0, 1, 2, 3, 4, 5, 6, 7, 8, 9] rfl
                      refine lv_aload_n hx hb d_M_inflate_84 rfl (lv_at hl 1 rfl) ?_
                      refine va_get (ci := 8) (C := "ZipGuardModel") (T := F_M) (N := 31) hx hb ht zi_M hown hK hP 0 rfl rfl 23 (by decide) (ht _ zm_775) (fun _ h9 => h9) rfl d_M_inflate_85 ?_
                      refine zv_if_ne (tgt := 95) hx hb d_M_inflate_88 (by decide) (by omega) (fun hc_33 => ?_) (fun hc_33 => ?_)
                      · skip
                        exact jn_17 t2 b_21 r_22 s_23 d_24 fc2 fw2 f_25 f_27 f_26 f_28 _ _ _ hf_31 hf_32 hw12 (by omega) (by omega) (by omega) (by omega) (zUn_s hun (by omega) (by omega) (by omega) (by omega) (zK_2n (q := 8 * fDa nw.toNat + b_10) (by omega) (by omega) hp30.2.2.1 (by omega) (by omega)) (by omega) (by omega) (by omega)) hP hD hS hl
                      · skip
                        refine lv_aload_n hx hb d_M_inflate_91 rfl (lv_at hl 1 rfl) ?_
                        refine zjv (wr := [(qSm, .inl (cSm, 19, .inl (fun k => iI (f_26 k)))), (qSc, .inl (cSc, 19, .inl f_28))]) (va_runV (As := []) (rest := []) ⟨hx, hb, hml, hown, ht⟩ (m_block l D _ qm qT len op fp bu ra en qMe qPk qSz qSu qDa qLo qLe qNa qNs qSt qSa qCo qWr t2 nw b_21 r_22 qLn qSm qCd qSc s_23 d_24 th cT fT cPk fPk cDa fDa cSz fSz cCo fc2 cWr fw2 cLn f_25 cCd f_27 cs ((zowR fT (fDa nw.toNat + fPk nw.toNat).toNat (8 * fDa nw.toNat + b_10).toNat).2.2) (fun k => (zowR fT (fDa nw.toNat + fPk nw.toNat).toNat (8 * fDa nw.toNat + b_10).toNat).2.2 (zns fT (8 * fDa nw.toNat + b_10).toNat + k)) (by omega) (by omega) (by omega) (by omega) (by omega) (by omega) (by omega) (by omega) (by omega) hf_31 (by omega) (hp30.2.2.1.2 (by omega)).2.2.2.1 (hp30.2.2.1.2 (by omega)).2.2.2.2.1 (hp30.2.2.1.2 (by omega)).2.2.2.2.2.1 (hp30.2.2.1.2 (by omega)).2.2.2.2.2.2.1 (hp30.2.2.1.2 (by omega)).2.2.2.2.2.2.2.1 (hp30.2.2.1.2 (by omega)).2.2.2.2.2.2.2.2) (cwV 0 ht (zt_goodV zm_997 zm_998 zm_59 zm_79 zm_999) rfl rfl rfl (by decide +kernel) ⟨Nat.le_of_ble_eq_true rfl, Nat.le_of_ble_eq_true rfl⟩) (zpreV zBlind_t hK hP hD [0, 1, 2, 3, 4, 5, 6, 7, 8] [0, 1, 2, 3, 4, 5, 6, 7] rfl (by decide) rfl (fun _ _ _ => trivial) (va_recv (q := ("ZipGuardModel", F_M, 31)) hK hP rfl (q0 := 0) (ci := 8) rfl)) rfl rfl hl.1 rfl (lv_room (Nat.le_of_ble_eq_true rfl)) d_M_inflate_92 ⟨Nat.le_of_ble_eq_true rfl, Nat.le_of_ble_eq_true rfl⟩) hK hP hD hS hA [0, 1, 2, 3, 4, 5, 6, 7, 8] [9, 10] rfl rfl (by decide) (by decide) (fun u9 H locs hp40 hP hD hK hS => ?_)
                        obtain ⟨b_34, t_35, r_36, f_37, f_38⟩ := u9
                        dsimp only at hp40 hP hD hK
                        have hP : va_P D zcl [(qSm, .inl (cSm, 19, .inl (fun k => iI (f_26 k)))), (qSc, .inl (cSc, 19, .inl f_28)), (qm, .inr (8, [.ref qT, .int (iI len), .int (iI op), .int (iI fp), .int (iI bu), .int (iI ra), .int (iI en), .ref qMe, .ref qPk, .ref qSz, .ref qSu, .ref qDa, .ref qLo, .ref qLe, .ref qNa, .ref qNs, .ref qSt, .ref qSa, .ref qCo, .ref qWr, .int (iI t_35), .int (iI nw), .int (iI b_34), .int (iI r_36), .ref qLn, .ref qSm, .ref qCd, .ref qSc, .int (iI s_23), .int (iI d_24), .int (iI th)])), (qT, .inl (cT, 20000, .inl fT)), (qPk, .inl (cPk, 64, .inr (.inl (fun k => lI (fPk k))))), (qDa, .inl (cDa, 64, .inl (fun k => iI (fDa k)))), (qSz, .inl (cSz, 64, .inr (.inl fSz))), (qCo, .inl (cCo, 64, .inl (fun k => iI (f_37 k)))), (qWr, .inl (cWr, 40000, .inl f_38)), (qLn, .inl (cLn, 320, .inl (fun k => iI (f_25 k)))), (qCd, .inl (cCd, 320, .inl f_27))] H := hP
                        have hD : va_D A [(qSm, .inl (cSm, 19, .inl (fun k => iI (f_26 k)))), (qSc, .inl (cSc, 19, .inl f_28)), (qm, .inr (8, [.ref qT, .int (iI len), .int (iI op), .int (iI fp), .int (iI bu), .int (iI ra), .int (iI en), .ref qMe, .ref qPk, .ref qSz, .ref qSu, .ref qDa, .ref qLo, .ref qLe, .ref qNa, .ref qNs, .ref qSt, .ref qSa, .ref qCo, .ref qWr, .int (iI t_35), .int (iI nw), .int (iI b_34), .int (iI r_36), .ref qLn, .ref qSm, .ref qCd, .ref qSc, .int (iI s_23), .int (iI d_24), .int (iI th)])), (qT, .inl (cT, 20000, .inl fT)), (qPk, .inl (cPk, 64, .inr (.inl (fun k => lI (fPk k))))), (qDa, .inl (cDa, 64, .inl (fun k => iI (fDa k)))), (qSz, .inl (cSz, 64, .inr (.inl fSz))), (qCo, .inl (cCo, 64, .inl (fun k => iI (f_37 k)))), (qWr, .inl (cWr, 40000, .inl f_38)), (qLn, .inl (cLn, 320, .inl (fun k => iI (f_25 k)))), (qCd, .inl (cCd, 320, .inl f_27))] := hD
                        have hK : va_K D zcl [(cT, .byte), (cPk, .long), (cDa, .int), (cSz, .long), (cCo, .int), (cWr, .byte), (cLn, .int), (cCd, .int), (cSm, .int), (cSc, .int), (cT, .byte), (cPk, .long), (cDa, .int), (cSz, .long), (cCo, .int), (cWr, .byte), (cLn, .int), (cCd, .int)] s := hK
                        have hP := hP.sub (ws' := [(qm, .inr (8, [.ref qT, .int (iI len), .int (iI op), .int (iI fp), .int (iI bu), .int (iI ra), .int (iI en), .ref qMe, .ref qPk, .ref qSz, .ref qSu, .ref qDa, .ref qLo, .ref qLe, .ref qNa, .ref qNs, .ref qSt, .ref qSa, .ref qCo, .ref qWr, .int (iI t_35), .int (iI nw), .int (iI b_34), .int (iI r_36), .ref qLn, .ref qSm, .ref qCd, .ref qSc, .int (iI s_23), .int (iI d_24), .int (iI th)])), (qT, .inl (cT, 20000, .inl fT)), (qPk, .inl (cPk, 64, .inr (.inl (fun k => lI (fPk k))))), (qDa, .inl (cDa, 64, .inl (fun k => iI (fDa k)))), (qSz, .inl (cSz, 64, .inr (.inl fSz))), (qCo, .inl (cCo, 64, .inl (fun k => iI (f_37 k)))), (qWr, .inl (cWr, 40000, .inl f_38)), (qLn, .inl (cLn, 320, .inl (fun k => iI (f_25 k)))), (qCd, .inl (cCd, 320, .inl f_27)), (qSm, .inl (cSm, 19, .inl (fun k => iI (f_26 k)))), (qSc, .inl (cSc, 19, .inl f_28))]) [2, 3, 4, 5, 6, 7, 8, 9, 10, 0, 1] rfl
                        have hD := hD.sub (ws' := [(qm, .inr (8, [.ref qT, .int (iI len), .int (iI op), .int (iI fp), .int (iI bu), .int (iI ra), .int (iI en), .ref qMe, .ref qPk, .ref qSz, .ref qSu, .ref qDa, .ref qLo, .ref qLe, .ref qNa, .ref qNs, .ref qSt, .ref qSa, .ref qCo, .ref qWr, .int (iI t_35), .int (iI nw), .int (iI b_34), .int (iI r_36), .ref qLn, .ref qSm, .ref qCd, .ref qSc, .int (iI s_23), .int (iI d_24), .int (iI th)])), (qT, .inl (cT, 20000, .inl fT)), (qPk, .inl (cPk, 64, .inr (.inl (fun k => lI (fPk k))))), (qDa, .inl (cDa, 64, .inl (fun k => iI (fDa k)))), (qSz, .inl (cSz, 64, .inr (.inl fSz))), (qCo, .inl (cCo, 64, .inl (fun k => iI (f_37 k)))), (qWr, .inl (cWr, 40000, .inl f_38)), (qLn, .inl (cLn, 320, .inl (fun k => iI (f_25 k)))), (qCd, .inl (cCd, 320, .inl f_27)), (qSm, .inl (cSm, 19, .inl (fun k => iI (f_26 k)))), (qSc, .inl (cSc, 19, .inl f_28))]) [2, 3, 4, 5, 6, 7, 8, 9, 10, 0, 1] (by decide) rfl
                        have hK := hK.sub (tys' := [(cT, .byte), (cPk, .long), (cDa, .int), (cSz, .long), (cCo, .int), (cWr, .byte), (cLn, .int), (cCd, .int), (cSm, .int), (cSc, .int)]) [0, 1, 2, 3, 4, 5, 6, 7, 8, 9] rfl
                        have ho_41 := fun k hk => (hp40.1 k hk).trans (hw12 k hk)
                        exact jn_17 t_35 b_34 r_36 s_23 d_24 f_37 f_38 f_25 f_27 f_26 f_28 _ _ _ hf_31 hf_32 ho_41 (by omega) (by omega) (by omega) (by omega) (zUn_s hun (by omega) (by omega) (by omega) (by omega) (zK_2 (q := 8 * fDa nw.toNat + b_10) (by omega) (by omega) hp30.2.2.1 (by omega) hp40.2.1) (by omega) (by omega) (by omega)) hP hD hS hl
                    · skip
                      refine lv_aload_n hx hb d_M_inflate_73 rfl (lv_at hl 1 rfl) ?_
                      refine zjv (wr := [(qT, .inl (cT, 20000, .inl fT)), (qPk, .inl (cPk, 64, .inr (.inl (fun k => lI (fPk k))))), (qDa, .inl (cDa, 64, .inl (fun k => iI (fDa k)))), (qSz, .inl (cSz, 64, .inr (.inl fSz))), (qCo, .inl (cCo, 64, .inl (fun k => iI (fc2 k)))), (qWr, .inl (cWr, 40000, .inl fw2)), (qSm, .inl (cSm, 19, .inl (fun k => iI (fs2 k)))), (qSc, .inl (cSc, 19, .inl fq2))]) (va_runV (As := []) (rest := []) ⟨hx, hb, hml, hown, ht⟩ (m_plain l D _ qm qT len op fp bu ra en qMe qPk qSz qSu qDa qLo qLe qNa qNs qSt qSa qCo qWr t2 nw b_10 r_11 qLn qSm qCd qSc sy2 di2 th cLn fl2 cCd fk2 hA2) (cwV 0 ht (zt_goodV zm_975 zm_976 zm_55 zm_79 zm_977) rfl rfl rfl (by decide +kernel) ⟨Nat.le_of_ble_eq_true rfl, Nat.le_of_ble_eq_true rfl⟩) (zpreV zBlind_t hK hP hD [0, 7, 8] [6, 7] rfl (by decide) rfl (fun _ _ _ => trivial) (va_recv (q := ("ZipGuardModel", F_M, 31)) hK hP rfl (q0 := 0) (ci := 8) rfl)) rfl rfl hl.1 rfl (lv_room (Nat.le_of_ble_eq_true rfl)) d_M_inflate_74 ⟨Nat.le_of_ble_eq_true rfl, Nat.le_of_ble_eq_true rfl⟩) hK hP hD hS hA [0, 7, 8] [1, 2, 3, 4, 5, 6, 9, 10] rfl rfl (by decide) (by decide) (fun u9 H locs hp45 hP hD hK hS => ?_)
                      obtain ⟨f_42, f_43⟩ := u9
                      dsimp only at hp45 hP hD hK
                      have hP : va_P D zcl [(qT, .inl (cT, 20000, .inl fT)), (qPk, .inl (cPk, 64, .inr (.inl (fun k => lI (fPk k))))), (qDa, .inl (cDa, 64, .inl (fun k => iI (fDa k)))), (qSz, .inl (cSz, 64, .inr (.inl fSz))), (qCo, .inl (cCo, 64, .inl (fun k => iI (fc2 k)))), (qWr, .inl (cWr, 40000, .inl fw2)), (qSm, .inl (cSm, 19, .inl (fun k => iI (fs2 k)))), (qSc, .inl (cSc, 19, .inl fq2)), (qm, .inr (8, [.ref qT, .int (iI len), .int (iI op), .int (iI fp), .int (iI bu), .int (iI ra), .int (iI en), .ref qMe, .ref qPk, .ref qSz, .ref qSu, .ref qDa, .ref qLo, .ref qLe, .ref qNa, .ref qNs, .ref qSt, .ref qSa, .ref qCo, .ref qWr, .int (iI t2), .int (iI nw), .int (iI b_10), .int (iI r_11), .ref qLn, .ref qSm, .ref qCd, .ref qSc, .int (iI 288), .int (iI 32), .int (iI th)])), (qLn, .inl (cLn, 320, .inl (fun k => iI (f_42 k)))), (qCd, .inl (cCd, 320, .inl f_43))] H := hP
                      have hD : va_D A [(qT, .inl (cT, 20000, .inl fT)), (qPk, .inl (cPk, 64, .inr (.inl (fun k => lI (fPk k))))), (qDa, .inl (cDa, 64, .inl (fun k => iI (fDa k)))), (qSz, .inl (cSz, 64, .inr (.inl fSz))), (qCo, .inl (cCo, 64, .inl (fun k => iI (fc2 k)))), (qWr, .inl (cWr, 40000, .inl fw2)), (qSm, .inl (cSm, 19, .inl (fun k => iI (fs2 k)))), (qSc, .inl (cSc, 19, .inl fq2)), (qm, .inr (8, [.ref qT, .int (iI len), .int (iI op), .int (iI fp), .int (iI bu), .int (iI ra), .int (iI en), .ref qMe, .ref qPk, .ref qSz, .ref qSu, .ref qDa, .ref qLo, .ref qLe, .ref qNa, .ref qNs, .ref qSt, .ref qSa, .ref qCo, .ref qWr, .int (iI t2), .int (iI nw), .int (iI b_10), .int (iI r_11), .ref qLn, .ref qSm, .ref qCd, .ref qSc, .int (iI 288), .int (iI 32), .int (iI th)])), (qLn, .inl (cLn, 320, .inl (fun k => iI (f_42 k)))), (qCd, .inl (cCd, 320, .inl f_43))] := hD
                      have hK : va_K D zcl [(cT, .byte), (cPk, .long), (cDa, .int), (cSz, .long), (cCo, .int), (cWr, .byte), (cLn, .int), (cCd, .int), (cSm, .int), (cSc, .int), (cLn, .int), (cCd, .int)] s := hK
                      have hf_46 := hp45.1
                      have hP := hP.sub (ws' := [(qm, .inr (8, [.ref qT, .int (iI len), .int (iI op), .int (iI fp), .int (iI bu), .int (iI ra), .int (iI en), .ref qMe, .ref qPk, .ref qSz, .ref qSu, .ref qDa, .ref qLo, .ref qLe, .ref qNa, .ref qNs, .ref qSt, .ref qSa, .ref qCo, .ref qWr, .int (iI t2), .int (iI nw), .int (iI b_10), .int (iI r_11), .ref qLn, .ref qSm, .ref qCd, .ref qSc, .int (iI 288), .int (iI 32), .int (iI th)])), (qT, .inl (cT, 20000, .inl fT)), (qPk, .inl (cPk, 64, .inr (.inl (fun k => lI (fPk k))))), (qDa, .inl (cDa, 64, .inl (fun k => iI (fDa k)))), (qSz, .inl (cSz, 64, .inr (.inl fSz))), (qCo, .inl (cCo, 64, .inl (fun k => iI (fc2 k)))), (qWr, .inl (cWr, 40000, .inl fw2)), (qLn, .inl (cLn, 320, .inl (fun k => iI (f_42 k)))), (qCd, .inl (cCd, 320, .inl f_43)), (qSm, .inl (cSm, 19, .inl (fun k => iI (fs2 k)))), (qSc, .inl (cSc, 19, .inl fq2))]) [8, 0, 1, 2, 3, 4, 5, 9, 10, 6, 7] rfl
                      have hD := hD.sub (ws' := [(qm, .inr (8, [.ref qT, .int (iI len), .int (iI op), .int (iI fp), .int (iI bu), .int (iI ra), .int (iI en), .ref qMe, .ref qPk, .ref qSz, .ref qSu, .ref qDa, .ref qLo, .ref qLe, .ref qNa, .ref qNs, .ref qSt, .ref qSa, .ref qCo, .ref qWr, .int (iI t2), .int (iI nw), .int (iI b_10), .int (iI r_11), .ref qLn, .ref qSm, .ref qCd, .ref qSc, .int (iI 288), .int (iI 32), .int (iI th)])), (qT, .inl (cT, 20000, .inl fT)), (qPk, .inl (cPk, 64, .inr (.inl (fun k => lI (fPk k))))), (qDa, .inl (cDa, 64, .inl (fun k => iI (fDa k)))), (qSz, .inl (cSz, 64, .inr (.inl fSz))), (qCo, .inl (cCo, 64, .inl (fun k => iI (fc2 k)))), (qWr, .inl (cWr, 40000, .inl fw2)), (qLn, .inl (cLn, 320, .inl (fun k => iI (f_42 k)))), (qCd, .inl (cCd, 320, .inl f_43)), (qSm, .inl (cSm, 19, .inl (fun k => iI (fs2 k)))), (qSc, .inl (cSc, 19, .inl fq2))]) [8, 0, 1, 2, 3, 4, 5, 9, 10, 6, 7] (by decide) rfl
                      have hK := hK.sub (tys' := [(cT, .byte), (cPk, .long), (cDa, .int), (cSz, .long), (cCo, .int), (cWr, .byte), (cLn, .int), (cCd, .int), (cSm, .int), (cSc, .int)]) [0, 1, 2, 3, 4, 5, 6, 7, 8, 9] rfl
                      refine lv_goto (tgt := 84) hx hb d_M_inflate_77 (by decide) ?_
                      refine lv_aload_n hx hb d_M_inflate_84 rfl (lv_at hl 1 rfl) ?_
                      refine va_get (ci := 8) (C := "ZipGuardModel") (T := F_M) (N := 31) hx hb ht zi_M hown hK hP 0 rfl rfl 23 (by decide) (ht _ zm_775) (fun _ h9 => h9) rfl d_M_inflate_85 ?_
                      refine zv_if_ne (tgt := 95) hx hb d_M_inflate_88 (by decide) (by omega) (fun hc_47 => ?_) (fun hc_47 => ?_)
                      · skip
                        exact jn_17 t2 b_10 r_11 288 32 fc2 fw2 f_42 f_43 fs2 fq2 _ _ _ hf_46 hB2 hw12 (by omega) (by omega) (by omega) (by omega) (by exfalso; omega) hP hD hS hl
                      · skip
                        refine lv_aload_n hx hb d_M_inflate_91 rfl (lv_at hl 1 rfl) ?_
                        refine zjv (wr := [(qSm, .inl (cSm, 19, .inl (fun k => iI (fs2 k)))), (qSc, .inl (cSc, 19, .inl fq2))]) (va_runV (As := []) (rest := []) ⟨hx, hb, hml, hown, ht⟩ (m_block l D _ qm qT len op fp bu ra en qMe qPk qSz qSu qDa qLo qLe qNa qNs qSt qSa qCo qWr t2 nw b_10 r_11 qLn qSm qCd qSc 288 32 th cT fT cPk fPk cDa fDa cSz fSz cCo fc2 cWr fw2 cLn f_42 cCd f_43 cs zfx (fun _ => 5) (by omega) (by omega) (by omega) (by omega) (by omega) (by omega) (by omega) (by omega) (by omega) hf_46 (by omega) (fun k h1 h2 => by rw [Int.zero_add]; exact hp45.2.1 k h1 h2) (fun k h1 h2 => by rw [Int.add_comm 288 k]; exact hp45.2.2.1 k h1 h2) hp45.2.2.2.1 hp45.2.2.2.2 zGd_fx zGd_f5) (cwV 0 ht (zt_goodV zm_997 zm_998 zm_59 zm_79 zm_999) rfl rfl rfl (by decide +kernel) ⟨Nat.le_of_ble_eq_true rfl, Nat.le_of_ble_eq_true rfl⟩) (zpreV zBlind_t hK hP hD [0, 1, 2, 3, 4, 5, 6, 7, 8] [0, 1, 2, 3, 4, 5, 6, 7] rfl (by decide) rfl (fun _ _ _ => trivial) (va_recv (q := ("ZipGuardModel", F_M, 31)) hK hP rfl (q0 := 0) (ci := 8) rfl)) rfl rfl hl.1 rfl (lv_room (Nat.le_of_ble_eq_true rfl)) d_M_inflate_92 ⟨Nat.le_of_ble_eq_true rfl, Nat.le_of_ble_eq_true rfl⟩) hK hP hD hS hA [0, 1, 2, 3, 4, 5, 6, 7, 8] [9, 10] rfl rfl (by decide) (by decide) (fun u9 H locs hp54 hP hD hK hS => ?_)
                        obtain ⟨b_48, t_49, r_50, f_51, f_52⟩ := u9
                        dsimp only at hp54 hP hD hK
                        have hP : va_P D zcl [(qSm, .inl (cSm, 19, .inl (fun k => iI (fs2 k)))), (qSc, .inl (cSc, 19, .inl fq2)), (qm, .inr (8, [.ref qT, .int (iI len), .int (iI op), .int (iI fp), .int (iI bu), .int (iI ra), .int (iI en), .ref qMe, .ref qPk, .ref qSz, .ref qSu, .ref qDa, .ref qLo, .ref qLe, .ref qNa, .ref qNs, .ref qSt, .ref qSa, .ref qCo, .ref qWr, .int (iI t_49), .int (iI nw), .int (iI b_48), .int (iI r_50), .ref qLn, .ref qSm, .ref qCd, .ref qSc, .int (iI 288), .int (iI 32), .int (iI th)])), (qT, .inl (cT, 20000, .inl fT)), (qPk, .inl (cPk, 64, .inr (.inl (fun k => lI (fPk k))))), (qDa, .inl (cDa, 64, .inl (fun k => iI (fDa k)))), (qSz, .inl (cSz, 64, .inr (.inl fSz))), (qCo, .inl (cCo, 64, .inl (fun k => iI (f_51 k)))), (qWr, .inl (cWr, 40000, .inl f_52)), (qLn, .inl (cLn, 320, .inl (fun k => iI (f_42 k)))), (qCd, .inl (cCd, 320, .inl f_43))] H := hP
                        have hD : va_D A [(qSm, .inl (cSm, 19, .inl (fun k => iI (fs2 k)))), (qSc, .inl (cSc, 19, .inl fq2)), (qm, .inr (8, [.ref qT, .int (iI len), .int (iI op), .int (iI fp), .int (iI bu), .int (iI ra), .int (iI en), .ref qMe, .ref qPk, .ref qSz, .ref qSu, .ref qDa, .ref qLo, .ref qLe, .ref qNa, .ref qNs, .ref qSt, .ref qSa, .ref qCo, .ref qWr, .int (iI t_49), .int (iI nw), .int (iI b_48), .int (iI r_50), .ref qLn, .ref qSm, .ref qCd, .ref qSc, .int (iI 288), .int (iI 32), .int (iI th)])), (qT, .inl (cT, 20000, .inl fT)), (qPk, .inl (cPk, 64, .inr (.inl (fun k => lI (fPk k))))), (qDa, .inl (cDa, 64, .inl (fun k => iI (fDa k)))), (qSz, .inl (cSz, 64, .inr (.inl fSz))), (qCo, .inl (cCo, 64, .inl (fun k => iI (f_51 k)))), (qWr, .inl (cWr, 40000, .inl f_52)), (qLn, .inl (cLn, 320, .inl (fun k => iI (f_42 k)))), (qCd, .inl (cCd, 320, .inl f_43))] := hD
                        have hK : va_K D zcl [(cT, .byte), (cPk, .long), (cDa, .int), (cSz, .long), (cCo, .int), (cWr, .byte), (cLn, .int), (cCd, .int), (cSm, .int), (cSc, .int), (cT, .byte), (cPk, .long), (cDa, .int), (cSz, .long), (cCo, .int), (cWr, .byte), (cLn, .int), (cCd, .int)] s := hK
                        have hP := hP.sub (ws' := [(qm, .inr (8, [.ref qT, .int (iI len), .int (iI op), .int (iI fp), .int (iI bu), .int (iI ra), .int (iI en), .ref qMe, .ref qPk, .ref qSz, .ref qSu, .ref qDa, .ref qLo, .ref qLe, .ref qNa, .ref qNs, .ref qSt, .ref qSa, .ref qCo, .ref qWr, .int (iI t_49), .int (iI nw), .int (iI b_48), .int (iI r_50), .ref qLn, .ref qSm, .ref qCd, .ref qSc, .int (iI 288), .int (iI 32), .int (iI th)])), (qT, .inl (cT, 20000, .inl fT)), (qPk, .inl (cPk, 64, .inr (.inl (fun k => lI (fPk k))))), (qDa, .inl (cDa, 64, .inl (fun k => iI (fDa k)))), (qSz, .inl (cSz, 64, .inr (.inl fSz))), (qCo, .inl (cCo, 64, .inl (fun k => iI (f_51 k)))), (qWr, .inl (cWr, 40000, .inl f_52)), (qLn, .inl (cLn, 320, .inl (fun k => iI (f_42 k)))), (qCd, .inl (cCd, 320, .inl f_43)), (qSm, .inl (cSm, 19, .inl (fun k => iI (fs2 k)))), (qSc, .inl (cSc, 19, .inl fq2))]) [2, 3, 4, 5, 6, 7, 8, 9, 10, 0, 1] rfl
                        have hD := hD.sub (ws' := [(qm, .inr (8, [.ref qT, .int (iI len), .int (iI op), .int (iI fp), .int (iI bu), .int (iI ra), .int (iI en), .ref qMe, .ref qPk, .ref qSz, .ref qSu, .ref qDa, .ref qLo, .ref qLe, .ref qNa, .ref qNs, .ref qSt, .ref qSa, .ref qCo, .ref qWr, .int (iI t_49), .int (iI nw), .int (iI b_48), .int (iI r_50), .ref qLn, .ref qSm, .ref qCd, .ref qSc, .int (iI 288), .int (iI 32), .int (iI th)])), (qT, .inl (cT, 20000, .inl fT)), (qPk, .inl (cPk, 64, .inr (.inl (fun k => lI (fPk k))))), (qDa, .inl (cDa, 64, .inl (fun k => iI (fDa k)))), (qSz, .inl (cSz, 64, .inr (.inl fSz))), (qCo, .inl (cCo, 64, .inl (fun k => iI (f_51 k)))), (qWr, .inl (cWr, 40000, .inl f_52)), (qLn, .inl (cLn, 320, .inl (fun k => iI (f_42 k)))), (qCd, .inl (cCd, 320, .inl f_43)), (qSm, .inl (cSm, 19, .inl (fun k => iI (fs2 k)))), (qSc, .inl (cSc, 19, .inl fq2))]) [2, 3, 4, 5, 6, 7, 8, 9, 10, 0, 1] (by decide) rfl
                        have hK := hK.sub (tys' := [(cT, .byte), (cPk, .long), (cDa, .int), (cSz, .long), (cCo, .int), (cWr, .byte), (cLn, .int), (cCd, .int), (cSm, .int), (cSc, .int)]) [0, 1, 2, 3, 4, 5, 6, 7, 8, 9] rfl
                        have ho_55 := fun k hk => (hp54.1 k hk).trans (hw12 k hk)
                        exact jn_17 t_49 b_48 r_50 288 32 f_51 f_52 f_42 f_43 fs2 fq2 _ _ _ hf_46 hB2 ho_55 (by omega) (by omega) (by omega) (by omega) (zUn_s hun (by omega) (by omega) (by omega) (by omega) (zK_1 (q := 8 * fDa nw.toNat + b_10) (by omega) (by omega) hp54.2.1) (by omega) (by omega) (by omega)) hP hD hS hl
                  · skip
                    refine lv_aload_n hx hb d_M_inflate_58 rfl (lv_at hl 1 rfl) ?_
                    refine lv_bipush (v := iI 37) hx hb d_M_inflate_59 (by decide) ?_
                    refine zji (wr := [(qT, .inl (cT, 20000, .inl fT)), (qPk, .inl (cPk, 64, .inr (.inl (fun k => lI (fPk k))))), (qDa, .inl (cDa, 64, .inl (fun k => iI (fDa k)))), (qSz, .inl (cSz, 64, .inr (.inl fSz))), (qCo, .inl (cCo, 64, .inl (fun k => iI (fc2 k)))), (qWr, .inl (cWr, 40000, .inl fw2)), (qLn, .inl (cLn, 320, .inl (fun k => iI (fl2 k)))), (qCd, .inl (cCd, 320, .inl fk2)), (qSm, .inl (cSm, 19, .inl (fun k => iI (fs2 k)))), (qSc, .inl (cSc, 19, .inl fq2))]) (va_runV (As := [.int (iI 37)]) (rest := []) ⟨hx, hb, hml, hown, ht⟩ (m_refuse l D _ qm qT len op fp bu ra en qMe qPk qSz qSu qDa qLo qLe qNa qNs qSt qSa qCo qWr t2 nw b_10 r_11 qLn qSm qCd qSc sy2 di2 th 37 (by omega)) (cwV 1 ht (zt_goodV zm_965 zm_966 zm_52 zm_79 zm_967) rfl rfl rfl (by decide +kernel) ⟨Nat.le_of_ble_eq_true rfl, Nat.le_of_ble_eq_true rfl⟩) (zpreV zBlind_t hK hP hD [0] [] rfl (by decide) rfl (fun _ _ _ => trivial) (va_recv (q := ("ZipGuardModel", F_M, 31)) hK hP rfl (q0 := 0) (ci := 8) rfl)) rfl rfl hl.1 rfl (lv_room (Nat.le_of_ble_eq_true rfl)) d_M_inflate_61 ⟨Nat.le_of_ble_eq_true rfl, Nat.le_of_ble_eq_true rfl⟩) hK hP hD hS hA [0] [1, 2, 3, 4, 5, 6, 7, 8, 9, 10] rfl rfl (by decide) (by decide) (fun r57 u9 H locs hp58 hP hD hK hS => ?_)
                    obtain ⟨r_56, rfl⟩ : ∃ z, z = u9 := ⟨u9, rfl⟩
                    dsimp only at hp58 hP hD hK
                    have hP : va_P D zcl [(qT, .inl (cT, 20000, .inl fT)), (qPk, .inl (cPk, 64, .inr (.inl (fun k => lI (fPk k))))), (qDa, .inl (cDa, 64, .inl (fun k => iI (fDa k)))), (qSz, .inl (cSz, 64, .inr (.inl fSz))), (qCo, .inl (cCo, 64, .inl (fun k => iI (fc2 k)))), (qWr, .inl (cWr, 40000, .inl fw2)), (qLn, .inl (cLn, 320, .inl (fun k => iI (fl2 k)))), (qCd, .inl (cCd, 320, .inl fk2)), (qSm, .inl (cSm, 19, .inl (fun k => iI (fs2 k)))), (qSc, .inl (cSc, 19, .inl fq2)), (qm, .inr (8, [.ref qT, .int (iI len), .int (iI op), .int (iI fp), .int (iI bu), .int (iI ra), .int (iI en), .ref qMe, .ref qPk, .ref qSz, .ref qSu, .ref qDa, .ref qLo, .ref qLe, .ref qNa, .ref qNs, .ref qSt, .ref qSa, .ref qCo, .ref qWr, .int (iI t2), .int (iI nw), .int (iI b_10), .int (iI r_56), .ref qLn, .ref qSm, .ref qCd, .ref qSc, .int (iI sy2), .int (iI di2), .int (iI th)]))] H := hP
                    have hD : va_D A [(qT, .inl (cT, 20000, .inl fT)), (qPk, .inl (cPk, 64, .inr (.inl (fun k => lI (fPk k))))), (qDa, .inl (cDa, 64, .inl (fun k => iI (fDa k)))), (qSz, .inl (cSz, 64, .inr (.inl fSz))), (qCo, .inl (cCo, 64, .inl (fun k => iI (fc2 k)))), (qWr, .inl (cWr, 40000, .inl fw2)), (qLn, .inl (cLn, 320, .inl (fun k => iI (fl2 k)))), (qCd, .inl (cCd, 320, .inl fk2)), (qSm, .inl (cSm, 19, .inl (fun k => iI (fs2 k)))), (qSc, .inl (cSc, 19, .inl fq2)), (qm, .inr (8, [.ref qT, .int (iI len), .int (iI op), .int (iI fp), .int (iI bu), .int (iI ra), .int (iI en), .ref qMe, .ref qPk, .ref qSz, .ref qSu, .ref qDa, .ref qLo, .ref qLe, .ref qNa, .ref qNs, .ref qSt, .ref qSa, .ref qCo, .ref qWr, .int (iI t2), .int (iI nw), .int (iI b_10), .int (iI r_56), .ref qLn, .ref qSm, .ref qCd, .ref qSc, .int (iI sy2), .int (iI di2), .int (iI th)]))] := hD
                    have hK : va_K D zcl [(cT, .byte), (cPk, .long), (cDa, .int), (cSz, .long), (cCo, .int), (cWr, .byte), (cLn, .int), (cCd, .int), (cSm, .int), (cSc, .int)] s := hK
                    obtain ⟨he_59, hp58⟩ := hp58
                    subst he_59
                    have hP := hP.sub (ws' := [(qm, .inr (8, [.ref qT, .int (iI len), .int (iI op), .int (iI fp), .int (iI bu), .int (iI ra), .int (iI en), .ref qMe, .ref qPk, .ref qSz, .ref qSu, .ref qDa, .ref qLo, .ref qLe, .ref qNa, .ref qNs, .ref qSt, .ref qSa, .ref qCo, .ref qWr, .int (iI t2), .int (iI nw), .int (iI b_10), .int (iI r_56), .ref qLn, .ref qSm, .ref qCd, .ref qSc, .int (iI sy2), .int (iI di2), .int (iI th)])), (qT, .inl (cT, 20000, .inl fT)), (qPk, .inl (cPk, 64, .inr (.inl (fun k => lI (fPk k))))), (qDa, .inl (cDa, 64, .inl (fun k => iI (fDa k)))), (qSz, .inl (cSz, 64, .inr (.inl fSz))), (qCo, .inl (cCo, 64, .inl (fun k => iI (fc2 k)))), (qWr, .inl (cWr, 40000, .inl fw2)), (qLn, .inl (cLn, 320, .inl (fun k => iI (fl2 k)))), (qCd, .inl (cCd, 320, .inl fk2)), (qSm, .inl (cSm, 19, .inl (fun k => iI (fs2 k)))), (qSc, .inl (cSc, 19, .inl fq2))]) [10, 0, 1, 2, 3, 4, 5, 6, 7, 8, 9] rfl
                    have hD := hD.sub (ws' := [(qm, .inr (8, [.ref qT, .int (iI len), .int (iI op), .int (iI fp), .int (iI bu), .int (iI ra), .int (iI en), .ref qMe, .ref qPk, .ref qSz, .ref qSu, .ref qDa, .ref qLo, .ref qLe, .ref qNa, .ref qNs, .ref qSt, .ref qSa, .ref qCo, .ref qWr, .int (iI t2), .int (iI nw), .int (iI b_10), .int (iI r_56), .ref qLn, .ref qSm, .ref qCd, .ref qSc, .int (iI sy2), .int (iI di2), .int (iI th)])), (qT, .inl (cT, 20000, .inl fT)), (qPk, .inl (cPk, 64, .inr (.inl (fun k => lI (fPk k))))), (qDa, .inl (cDa, 64, .inl (fun k => iI (fDa k)))), (qSz, .inl (cSz, 64, .inr (.inl fSz))), (qCo, .inl (cCo, 64, .inl (fun k => iI (fc2 k)))), (qWr, .inl (cWr, 40000, .inl fw2)), (qLn, .inl (cLn, 320, .inl (fun k => iI (fl2 k)))), (qCd, .inl (cCd, 320, .inl fk2)), (qSm, .inl (cSm, 19, .inl (fun k => iI (fs2 k)))), (qSc, .inl (cSc, 19, .inl fq2))]) [10, 0, 1, 2, 3, 4, 5, 6, 7, 8, 9] (by decide) rfl
                    have hK := hK.sub (tys' := [(cT, .byte), (cPk, .long), (cDa, .int), (cSz, .long), (cCo, .int), (cWr, .byte), (cLn, .int), (cCd, .int), (cSm, .int), (cSc, .int)]) [0, 1, 2, 3, 4, 5, 6, 7, 8, 9] rfl
                    refine lv_pop hx hb d_M_inflate_64 rfl ?_
                    refine lv_goto (tgt := 95) hx hb d_M_inflate_65 (by decide) ?_
                    exact jn_17 t2 b_10 r_56 sy2 di2 fc2 fw2 fl2 fk2 fs2 fq2 _ _ _ hA2 hB2 hw12 (by omega) (by omega) (by omega) (by omega) (zUn_s hun (by omega) (by omega) (by omega) (by omega) (zK_3 (by omega) (by omega)) (by omega) (by omega) (by omega)) hP hD hS hl
                · skip
                  refine lv_aload_n hx hb d_M_inflate_46 rfl (lv_at hl 1 rfl) ?_
                  refine zjv (wr := [(qLn, .inl (cLn, 320, .inl (fun k => iI (fl2 k)))), (qCd, .inl (cCd, 320, .inl fk2)), (qSm, .inl (cSm, 19, .inl (fun k => iI (fs2 k)))), (qSc, .inl (cSc, 19, .inl fq2))]) (va_runV (As := []) (rest := []) ⟨hx, hb, hml, hown, ht⟩ (m_pblock l D _ qm qT len op fp bu ra en qMe qPk qSz qSu qDa qLo qLe qNa qNs qSt qSa qCo qWr t2 nw b_10 r_11 qLn qSm qCd qSc sy2 di2 th cT fT cPk fPk cDa fDa cSz fSz cCo fc2 cWr fw2 cs (by omega) (by omega) (by omega) (by omega) (by omega) (by omega) (by omega) (by omega) (by omega)) (cwV 0 ht (zt_goodV zm_968 zm_969 zm_53 zm_79 zm_970) rfl rfl rfl (by decide +kernel) ⟨Nat.le_of_ble_eq_true rfl, Nat.le_of_ble_eq_true rfl⟩) (zpreV zBlind_t hK hP hD [0, 1, 2, 3, 4, 5, 6] [0, 1, 2, 3, 4, 5] rfl (by decide) rfl (fun _ _ _ => trivial) (va_recv (q := ("ZipGuardModel", F_M, 31)) hK hP rfl (q0 := 0) (ci := 8) rfl)) rfl rfl hl.1 rfl (lv_room (Nat.le_of_ble_eq_true rfl)) d_M_inflate_47 ⟨Nat.le_of_ble_eq_true rfl, Nat.le_of_ble_eq_true rfl⟩) hK hP hD hS hA [0, 1, 2, 3, 4, 5, 6] [7, 8, 9, 10] rfl rfl (by decide) (by decide) (fun u9 H locs hp66 hP hD hK hS => ?_)
                  obtain ⟨b_60, t_61, r_62, f_63, f_64⟩ := u9
                  dsimp only at hp66 hP hD hK
                  have hP : va_P D zcl [(qLn, .inl (cLn, 320, .inl (fun k => iI (fl2 k)))), (qCd, .inl (cCd, 320, .inl fk2)), (qSm, .inl (cSm, 19, .inl (fun k => iI (fs2 k)))), (qSc, .inl (cSc, 19, .inl fq2)), (qm, .inr (8, [.ref qT, .int (iI len), .int (iI op), .int (iI fp), .int (iI bu), .int (iI ra), .int (iI en), .ref qMe, .ref qPk, .ref qSz, .ref qSu, .ref qDa, .ref qLo, .ref qLe, .ref qNa, .ref qNs, .ref qSt, .ref qSa, .ref qCo, .ref qWr, .int (iI t_61), .int (iI nw), .int (iI b_60), .int (iI r_62), .ref qLn, .ref qSm, .ref qCd, .ref qSc, .int (iI sy2), .int (iI di2), .int (iI th)])), (qT, .inl (cT, 20000, .inl fT)), (qPk, .inl (cPk, 64, .inr (.inl (fun k => lI (fPk k))))), (qDa, .inl (cDa, 64, .inl (fun k => iI (fDa k)))), (qSz, .inl (cSz, 64, .inr (.inl fSz))), (qCo, .inl (cCo, 64, .inl (fun k => iI (f_63 k)))), (qWr, .inl (cWr, 40000, .inl f_64))] H := hP
                  have hD : va_D A [(qLn, .inl (cLn, 320, .inl (fun k => iI (fl2 k)))), (qCd, .inl (cCd, 320, .inl fk2)), (qSm, .inl (cSm, 19, .inl (fun k => iI (fs2 k)))), (qSc, .inl (cSc, 19, .inl fq2)), (qm, .inr (8, [.ref qT, .int (iI len), .int (iI op), .int (iI fp), .int (iI bu), .int (iI ra), .int (iI en), .ref qMe, .ref qPk, .ref qSz, .ref qSu, .ref qDa, .ref qLo, .ref qLe, .ref qNa, .ref qNs, .ref qSt, .ref qSa, .ref qCo, .ref qWr, .int (iI t_61), .int (iI nw), .int (iI b_60), .int (iI r_62), .ref qLn, .ref qSm, .ref qCd, .ref qSc, .int (iI sy2), .int (iI di2), .int (iI th)])), (qT, .inl (cT, 20000, .inl fT)), (qPk, .inl (cPk, 64, .inr (.inl (fun k => lI (fPk k))))), (qDa, .inl (cDa, 64, .inl (fun k => iI (fDa k)))), (qSz, .inl (cSz, 64, .inr (.inl fSz))), (qCo, .inl (cCo, 64, .inl (fun k => iI (f_63 k)))), (qWr, .inl (cWr, 40000, .inl f_64))] := hD
                  have hK : va_K D zcl [(cT, .byte), (cPk, .long), (cDa, .int), (cSz, .long), (cCo, .int), (cWr, .byte), (cLn, .int), (cCd, .int), (cSm, .int), (cSc, .int), (cT, .byte), (cPk, .long), (cDa, .int), (cSz, .long), (cCo, .int), (cWr, .byte)] s := hK
                  have hP := hP.sub (ws' := [(qm, .inr (8, [.ref qT, .int (iI len), .int (iI op), .int (iI fp), .int (iI bu), .int (iI ra), .int (iI en), .ref qMe, .ref qPk, .ref qSz, .ref qSu, .ref qDa, .ref qLo, .ref qLe, .ref qNa, .ref qNs, .ref qSt, .ref qSa, .ref qCo, .ref qWr, .int (iI t_61), .int (iI nw), .int (iI b_60), .int (iI r_62), .ref qLn, .ref qSm, .ref qCd, .ref qSc, .int (iI sy2), .int (iI di2), .int (iI th)])), (qT, .inl (cT, 20000, .inl fT)), (qPk, .inl (cPk, 64, .inr (.inl (fun k => lI (fPk k))))), (qDa, .inl (cDa, 64, .inl (fun k => iI (fDa k)))), (qSz, .inl (cSz, 64, .inr (.inl fSz))), (qCo, .inl (cCo, 64, .inl (fun k => iI (f_63 k)))), (qWr, .inl (cWr, 40000, .inl f_64)), (qLn, .inl (cLn, 320, .inl (fun k => iI (fl2 k)))), (qCd, .inl (cCd, 320, .inl fk2)), (qSm, .inl (cSm, 19, .inl (fun k => iI (fs2 k)))), (qSc, .inl (cSc, 19, .inl fq2))]) [4, 5, 6, 7, 8, 9, 10, 0, 1, 2, 3] rfl
                  have hD := hD.sub (ws' := [(qm, .inr (8, [.ref qT, .int (iI len), .int (iI op), .int (iI fp), .int (iI bu), .int (iI ra), .int (iI en), .ref qMe, .ref qPk, .ref qSz, .ref qSu, .ref qDa, .ref qLo, .ref qLe, .ref qNa, .ref qNs, .ref qSt, .ref qSa, .ref qCo, .ref qWr, .int (iI t_61), .int (iI nw), .int (iI b_60), .int (iI r_62), .ref qLn, .ref qSm, .ref qCd, .ref qSc, .int (iI sy2), .int (iI di2), .int (iI th)])), (qT, .inl (cT, 20000, .inl fT)), (qPk, .inl (cPk, 64, .inr (.inl (fun k => lI (fPk k))))), (qDa, .inl (cDa, 64, .inl (fun k => iI (fDa k)))), (qSz, .inl (cSz, 64, .inr (.inl fSz))), (qCo, .inl (cCo, 64, .inl (fun k => iI (f_63 k)))), (qWr, .inl (cWr, 40000, .inl f_64)), (qLn, .inl (cLn, 320, .inl (fun k => iI (fl2 k)))), (qCd, .inl (cCd, 320, .inl fk2)), (qSm, .inl (cSm, 19, .inl (fun k => iI (fs2 k)))), (qSc, .inl (cSc, 19, .inl fq2))]) [4, 5, 6, 7, 8, 9, 10, 0, 1, 2, 3] (by decide) rfl
                  have hK := hK.sub (tys' := [(cT, .byte), (cPk, .long), (cDa, .int), (cSz, .long), (cCo, .int), (cWr, .byte), (cLn, .int), (cCd, .int), (cSm, .int), (cSc, .int)]) [0, 1, 2, 3, 4, 5, 6, 7, 8, 9] rfl
                  have ho_67 := fun k hk => (hp66.1 k hk).trans (hw12 k hk)
                  refine lv_goto (tgt := 95) hx hb d_M_inflate_50 (by decide) ?_
                  exact jn_17 t_61 b_60 r_62 sy2 di2 f_63 f_64 fl2 fk2 fs2 fq2 _ _ _ hA2 hB2 ho_67 (by omega) (by omega) (by omega) (by omega) (zUn_s hun (by omega) (by omega) (by omega) (by omega) (zK_0 (q := 8 * fDa nw.toNat + b_10) (by omega) (by omega) hp66.2.1) (by omega) (by omega) (by omega)) hP hD hS hl
              · skip
                exact zretv hx hb hr hlk hK hP hD hS (b_10, t2, r_11, sy2, di2, fc2, fw2, fl2, fs2, fk2, fq2) [0, 1, 2, 3, 4, 5, 6, 7, 8, 9, 10] [0, 1, 2, 3, 4, 5, 6, 7, 8, 9] rfl (by decide) rfl (⟨hA2, hB2, hw12, zUn_no hun (by omega) (by omega) (by omega) (by omega) (by omega), by omega⟩) (Nat.le_of_ble_eq_true rfl) (Nat.le_of_ble_eq_true rfl) d_M_inflate_41
            refine lv_iconst (v := iI 1) hx hb d_M_inflate_18 (by decide) ?_
            refine zv_icmp_ne (tgt := 26) hx hb d_M_inflate_19 (by decide) (by omega) (by omega) (fun hc_68 => ?_) (fun hc_68 => ?_)
            · skip
              refine lv_iconst (v := iI 0) hx hb d_M_inflate_26 (by decide) ?_
              refine lv_istore_n (lv' := [(1, .int (iI 0)), (0, .ref qm)]) hx hb d_M_inflate_27 rfl hl (by decide) rfl (fun ls hl => ?_)
              exact jn_9 0 _ _ _ (by omega) hP hD hS (lv_sub hl [1, 0] rfl)
            · skip
              refine lv_iconst (v := iI 1) hx hb d_M_inflate_22 (by decide) ?_
              refine lv_goto (tgt := 27) hx hb d_M_inflate_23 (by decide) ?_
              refine lv_istore_n (lv' := [(1, .int (iI 1)), (0, .ref qm)]) hx hb d_M_inflate_27 rfl hl (by decide) rfl (fun ls hl => ?_)
              exact jn_9 1 _ _ _ (by omega) hP hD hS (lv_sub hl [1, 0] rfl)
    exact lp2 ((8 * fPk nw.toNat - bt + 1 : Int)).toNat 0 to bt rf sy di fCo fWr fLn fCd fSm fSc _ _ _ (by omega) hLn hSm (fun _ _ => rfl) (by omega) (by omega) (by omega) (zUn_0 (by omega) rfl (by omega)) (by omega) hP hD hS hl)
