/-! how full a set of codes is, symbol by symbol -/
def zks (d : Nat → Nat) : Nat → Nat
  | 0 => 0
  | k + 1 => zks d k + if d k = 0 then 0 else 2 ^ (15 - d k)
theorem zkf_s (d : Nat → Nat) (n : Nat) : ∀ m, zkf d (n + 1) m = zkf d n m + if 1 ≤ d n ∧ d n < m then 2 ^ (15 - d n) else 0
  | 0 => by simp [zkf]
  | m + 1 => by
    have ih := zkf_s d n m
    show zkf d (n + 1) m + (if m = 0 then 0 else zcn d (n + 1) m * 2 ^ (15 - m)) = zkf d n m + (if m = 0 then 0 else zcn d n m * 2 ^ (15 - m)) + _
    rw [ih]
    by_cases h0 : m = 0
    · subst h0
      rw [if_pos rfl, if_pos rfl, if_neg (by omega), if_neg (by omega)]
    · rw [if_neg h0, if_neg h0]
      have e1 : zcn d (n + 1) m = zcn d n m + if d n = m then 1 else 0 := rfl
      rw [e1, Nat.add_mul]
      by_cases c : d n = m
      · rw [if_pos c, if_neg (by omega), if_pos (by omega), Nat.one_mul, c]
        omega
      · rw [if_neg c, Nat.zero_mul]
        by_cases c2 : 1 ≤ d n ∧ d n < m
        · rw [if_pos c2, if_pos (by omega)]
          omega
        · rw [if_neg c2, if_neg (by omega)]
          omega
theorem zkf_0 (d : Nat → Nat) : ∀ m, zkf d 0 m = 0
  | 0 => rfl
  | m + 1 => by
    show zkf d 0 m + (if m = 0 then 0 else 0 * 2 ^ (15 - m)) = 0
    rw [zkf_0 d m]
    simp
theorem zks_eq {d : Nat → Nat} : ∀ n, (∀ k, k < n → d k ≤ 15) → zkf d n 16 = zks d n
  | 0, _ => zkf_0 d 16
  | n + 1, h1 => by
    rw [zkf_s, zks_eq n (fun k hk => h1 k (by omega))]
    have h2 := h1 n (by omega)
    show _ = zks d n + if d n = 0 then 0 else 2 ^ (15 - d n)
    by_cases c : d n = 0
    · rw [if_neg (by omega), if_pos c]
    · rw [if_pos (by omega), if_neg c]
theorem zks_le (d : Nat → Nat) (n : Nat) : zks d n ≤ 16384 * n := by
  induction n with
  | zero => exact Nat.zero_le _
  | succ n ih =>
    have h1 : zks d (n + 1) = zks d n + if d n = 0 then 0 else 2 ^ (15 - d n) := rfl
    rw [h1]
    by_cases c : d n = 0
    · rw [if_pos c]; omega
    · rw [if_neg c]
      have h2 : 2 ^ (15 - d n) ≤ 2 ^ 14 := Nat.pow_le_pow_right (by decide) (by omega)
      have h3 : (2 : Nat) ^ 14 = 16384 := by decide
      omega
theorem zks_t {d : Nat → Nat} {k : Int} (h0 : 0 ≤ k) : ((zks d (k + 1).toNat : Nat) : Int) = (zks d k.toNat : Int) + if d k.toNat = 0 then 0 else zp (15 - (d k.toNat : Int)) := by
  rw [show (k + 1).toNat = k.toNat + 1 by omega]
  show ((zks d k.toNat + (if d k.toNat = 0 then 0 else 2 ^ (15 - d k.toNat)) : Nat) : Int) = _
  by_cases c : d k.toNat = 0
  · rw [if_pos c, if_pos c]; omega
  · rw [if_neg c, if_neg c, zp_nat, show (15 - (d k.toNat : Int)).toNat = 15 - d k.toNat by omega]
    push_cast
    rfl
theorem zst_i {d : Nat → Nat} {k : Int} (h0 : 0 ≤ k) : zst d (k + 1).toNat 16 = zst d k.toNat 16 + if 1 ≤ d k.toNat ∧ d k.toNat < 16 then 1 else 0 := by
  rw [show (k + 1).toNat = k.toNat + 1 by omega, zst_s]
theorem zcn_i {d : Nat → Nat} {k : Int} (l : Nat) (h0 : 0 ≤ k) : zcn d (k + 1).toNat l = zcn d k.toNat l + if d k.toNat = l then 1 else 0 := by
  rw [show (k + 1).toNat = k.toNat + 1 by omega]
  rfl
/-- what isRight asks -/
def zRt (d : Nat → Nat) (N : Nat) (fw : Int) : Prop := (zks d N : Int) = 32768 ∨ (¬ fw = 0 ∧ ((zst d N 16 : Int) = 0 ∨ ((zst d N 16 : Int) = 1 ∧ (zcn d N 1 : Int) = 1)))
/-- where the k-th small length belongs -/
def zSo (k : Int) : Int := (zN ztab_1 k.toNat : Int)
theorem zso_t : ∀ k, k < 19 → zN ztab_1 k = if k < 3 then 16 + k else if k = 3 then 0 else if k % 2 = 0 then 8 + (k - 3) / 2 else 8 - (k - 3) / 2 := by decide +kernel
theorem zSo_t {k : Int} (h : 0 ≤ k ∧ k < 19) : zSo k = if k < 3 then 16 + k else if k = 3 then 0 else if k % 2 = 0 then 8 + (k - 3) / 2 else 8 - (k - 3) / 2 := by
  unfold zSo
  rw [zso_t k.toNat (by omega)]
  by_cases c1 : k < 3
  · rw [if_pos c1, if_pos (by omega)]; omega
  · rw [if_neg c1, if_neg (by omega)]
    by_cases c2 : k = 3
    · rw [if_pos c2, if_pos (by omega)]; rfl
    · rw [if_neg c2, if_neg (by omega)]
      by_cases c3 : k % 2 = 0
      · rw [if_pos c3, if_pos (by omega)]; omega
      · rw [if_neg c3, if_neg (by omega)]; omega
/-! bytes as they are kept, and their sum -/
theorem zcb_b : ∀ b, b < 256 → zcb ((b : Nat) : Int) &&& 255 = iI ((b : Nat) : Int) := by decide +kernel
theorem zcb_i {b : Int} (h : 0 ≤ b ∧ b ≤ 255) : zcb b &&& 255 = iI b := by
  have h1 := zcb_b b.toNat (by omega)
  rw [Int.toNat_of_nonneg h.1] at h1
  exact h1
theorem zt8 (v : Int32) : (v &&& 255).toInt8 = v.toInt8 := by
  apply Int8.toBitVec_inj.mp
  rw [Int32.toBitVec_toInt8, Int32.toBitVec_toInt8, Int32.toBitVec_and]
  apply BitVec.eq_of_getLsbD_eq
  intro i hi
  rw [BitVec.getLsbD_signExtend, BitVec.getLsbD_signExtend, BitVec.getLsbD_and]
  have h : i = 0 ∨ i = 1 ∨ i = 2 ∨ i = 3 ∨ i = 4 ∨ i = 5 ∨ i = 6 ∨ i = 7 := by omega
  rcases h with rfl | rfl | rfl | rfl | rfl | rfl | rfl | rfl <;> simp <;> decide
theorem zcb_s {x : Int} {v : Int32} (h : v = iI x) : zcb (v &&& 255).toInt = zcb x := by
  unfold zcb iI
  rw [Int32.ofInt_toInt, zt8, h]
  rfl
/-- the sum of n bytes from a on -/
def zsB (f : Nat → Int32) (a : Nat) : Nat → Int32
  | 0 => -1
  | k + 1 => zcrc (zsB f a k) (f (a + k) &&& 255)
theorem zsB_up {f : Nat → Int32} {a i : Nat} {v : Int32} : ∀ n, a + n ≤ i → zsB (upd f i v) a n = zsB f a n
  | 0, _ => rfl
  | n + 1, h1 => by
    show zcrc (zsB (upd f i v) a n) (upd f i v (a + n) &&& 255) = zcrc (zsB f a n) (f (a + n) &&& 255)
    rw [zsB_up n (by omega), zud_ne (by omega)]
/-- one byte more -/
theorem zsB_s {f : Nat → Int32} {a n : Nat} {b : Int} (h : 0 ≤ b ∧ b ≤ 255) : zsB (upd f (a + n) (zcb b)) a (n + 1) = zcrc (zsB f a n) (iI b) := by
  show zcrc (zsB (upd f (a + n) (zcb b)) a n) (upd f (a + n) (zcb b) (a + n) &&& 255) = _
  rw [zsB_up n (by omega), zud_at, zcb_i h]
/-! the sum, bit by bit and half byte by half byte -/
def zs1 (x : BitVec 32) : BitVec 32 := (x >>> 1) ^^^ (if x.getLsbD 0 then 0xedb88320#32 else 0#32)
theorem zxl (a b c : BitVec 32) : a ^^^ (b ^^^ c) = b ^^^ (a ^^^ c) := by rw [← BitVec.xor_assoc, BitVec.xor_comm a b, BitVec.xor_assoc]
theorem zs1_x (x y : BitVec 32) : zs1 (x ^^^ y) = zs1 x ^^^ zs1 y := by
  unfold zs1
  rw [BitVec.ushiftRight_xor_distrib, BitVec.getLsbD_xor]
  generalize x >>> 1 = a
  generalize y >>> 1 = b
  generalize 0xedb88320#32 = q
  cases x.getLsbD 0 <;> cases y.getLsbD 0
  · simp
  · simp [BitVec.xor_assoc]
  · simp only [Bool.true_xor, Bool.not_false, if_true, Bool.false_eq_true, if_false, BitVec.xor_zero]
    rw [BitVec.xor_assoc, BitVec.xor_assoc, BitVec.xor_comm b q]
  · simp only [Bool.xor_self, Bool.false_eq_true, if_false, if_true, BitVec.xor_zero]
    rw [BitVec.xor_assoc, zxl q b q, BitVec.xor_self, BitVec.xor_zero]
theorem zs1_0 {x : BitVec 32} (h : x.getLsbD 0 = false) : zs1 x = x >>> 1 := by
  unfold zs1
  rw [h]
  simp
def zs4 (x : BitVec 32) : BitVec 32 := zs1 (zs1 (zs1 (zs1 x)))
theorem zs4_x (x y : BitVec 32) : zs4 (x ^^^ y) = zs4 x ^^^ zs4 y := by
  unfold zs4
  rw [zs1_x, zs1_x, zs1_x, zs1_x]
theorem zs4_hi (x : BitVec 32) : zs4 (x &&& ~~~15#32) = x >>> 4 := by
  have key : ∀ i, i < 4 → (x &&& ~~~15#32).getLsbD i = false := fun i hi => by
    have h : i = 0 ∨ i = 1 ∨ i = 2 ∨ i = 3 := by omega
    rcases h with rfl | rfl | rfl | rfl <;> simp
  have k1 := zs1_0 (x := x &&& ~~~15#32) (key 0 (by omega))
  have k2 := zs1_0 (x := (x &&& ~~~15#32) >>> 1) (by rw [BitVec.getLsbD_ushiftRight]; exact key 1 (by omega))
  have k3 := zs1_0 (x := (x &&& ~~~15#32) >>> 1 >>> 1) (by rw [BitVec.getLsbD_ushiftRight, BitVec.getLsbD_ushiftRight]; exact key 2 (by omega))
  have k4 := zs1_0 (x := (x &&& ~~~15#32) >>> 1 >>> 1 >>> 1) (by rw [BitVec.getLsbD_ushiftRight, BitVec.getLsbD_ushiftRight, BitVec.getLsbD_ushiftRight]; exact key 3 (by omega))
  unfold zs4
  rw [k1, k2, k3, k4]
  apply BitVec.eq_of_getLsbD_eq
  intro i hi
  simp only [BitVec.getLsbD_ushiftRight]
  rw [show 1 + (1 + (1 + (1 + i))) = 4 + i by omega]
  by_cases c : 4 + i < 32
  · rw [BitVec.getLsbD_and]
    have h2 : (~~~15#32).getLsbD (4 + i) = true := by
      have h : i = 0 ∨ i = 1 ∨ i = 2 ∨ i = 3 ∨ i = 4 ∨ i = 5 ∨ i = 6 ∨ i = 7 ∨ i = 8 ∨ i = 9 ∨ i = 10 ∨ i = 11 ∨ i = 12 ∨ i = 13 ∨ i = 14 ∨ i = 15 ∨ i = 16 ∨ i = 17 ∨ i = 18 ∨ i = 19 ∨ i = 20 ∨ i = 21 ∨ i = 22 ∨ i = 23 ∨ i = 24 ∨ i = 25 ∨ i = 26 ∨ i = 27 := by omega
      rcases h with rfl | rfl | rfl | rfl | rfl | rfl | rfl | rfl | rfl | rfl | rfl | rfl | rfl | rfl | rfl | rfl | rfl | rfl | rfl | rfl | rfl | rfl | rfl | rfl | rfl | rfl | rfl | rfl <;> decide
    rw [h2, Bool.and_true]
  · rw [BitVec.getLsbD_of_ge _ _ (by omega), BitVec.getLsbD_of_ge _ _ (by omega)]
theorem zs4_split (x : BitVec 32) : zs4 x = (x >>> 4) ^^^ zs4 (x &&& 15#32) := by
  have e : x = (x &&& ~~~15#32) ^^^ (x &&& 15#32) := by
    apply BitVec.eq_of_getLsbD_eq
    intro i hi
    rw [BitVec.getLsbD_xor, BitVec.getLsbD_and, BitVec.getLsbD_and, BitVec.getLsbD_not]
    cases x.getLsbD i <;> cases (15#32).getLsbD i <;> simp [hi]
  conv => lhs; rw [e]
  rw [zs4_x, zs4_hi]
theorem zus (x : Int32) {k : Nat} (hk : k < 32) : (x.toUInt32 >>> ((nI k).toUInt32 &&& Int32.toUInt32 31)).toInt32.toBitVec = x.toBitVec >>> k := by
  have h1 : ∀ k, k < 32 → ((nI k).toUInt32 &&& Int32.toUInt32 31).toBitVec.toNat % 32 = k := by decide +kernel
  have h2 := h1 k hk
  show (x.toUInt32 >>> ((nI k).toUInt32 &&& Int32.toUInt32 31)).toBitVec = _
  rw [UInt32.toBitVec_shiftRight]
  have h3 : (((nI k).toUInt32 &&& Int32.toUInt32 31).toBitVec % 32#32).toNat = k := by
    rw [BitVec.toNat_umod]
    exact h2
  show x.toBitVec >>> (((nI k).toUInt32 &&& Int32.toUInt32 31).toBitVec % 32#32) = x.toBitVec >>> k
  rw [BitVec.ushiftRight_eq', h3]
theorem zs4_t : ∀ r, r < 16 → (ztab_0.getD r 0).toBitVec = zs4 (BitVec.ofNat 32 r) := by decide +kernel
theorem zhalf_v (x : Int32) : (zhalf x).toBitVec = zs4 x.toBitVec := by
  have hlt : (x &&& 15).toBitVec.toNat < 16 := by
    rw [Int32.toBitVec_and, BitVec.toNat_and]
    exact Nat.lt_of_le_of_lt Nat.and_le_right (by decide)
  have e1 : (x &&& 15).toNatClampNeg = (x &&& 15).toBitVec.toNat := by
    obtain ⟨k, hk, e⟩ := zofI (x &&& 15)
    rw [e] at hlt ⊢
    have h3 : (nI k).toBitVec.toNat = k := by
      show (BitVec.ofNat 32 k).toNat = k
      rw [BitVec.toNat_ofNat]
      omega
    rw [h3] at hlt ⊢
    have h4 : ∀ k, k < 16 → (nI k).toNatClampNeg = k := by decide +kernel
    exact h4 k hlt
  unfold zhalf
  rw [zs4_split, e1, Int32.toBitVec_xor, zs4_t _ hlt, BitVec.ofNat_toNat, BitVec.setWidth_eq]
  congr 1
/-- one step of the reference's sum -/
def zr1 (c : Int32) : Int32 := if c &&& 1 = 1 then (c.toUInt32 >>> ((iI 1).toUInt32 &&& Int32.toUInt32 31)).toInt32 ^^^ iI (-306674912) else (c.toUInt32 >>> ((iI 1).toUInt32 &&& Int32.toUInt32 31)).toInt32
theorem zr1_v (c : Int32) : (zr1 c).toBitVec = zs1 c.toBitVec := by
  have h1 : (c &&& 1 = 1) ↔ c.toBitVec.getLsbD 0 = true := by
    rw [← Int32.toBitVec_inj, Int32.toBitVec_and]
    show c.toBitVec &&& 1#32 = 1#32 ↔ _
    constructor
    · intro h
      have h2 := congrArg (fun v : BitVec 32 => v.getLsbD 0) h
      simpa using h2
    · intro h
      apply BitVec.eq_of_getLsbD_eq
      intro i hi
      rw [BitVec.getLsbD_and]
      by_cases c0 : i = 0
      · subst c0; rw [h]; decide
      · have h3 : (1#32).getLsbD i = false := by
          rw [BitVec.getLsbD_one]
          simp [c0]
        rw [h3, Bool.and_false]
  unfold zr1 zs1
  rw [show iI 1 = nI 1 by decide]
  by_cases d : c &&& 1 = 1
  · rw [if_pos d, if_pos (h1.mp d), Int32.toBitVec_xor, zus c (by decide)]
    rfl
  · rw [if_neg d, if_neg (mt h1.mpr d), zus c (by decide), BitVec.xor_zero]
def zr (c : Int32) : Nat → Int32
  | 0 => c
  | k + 1 => zr1 (zr c k)
theorem zcrc_r (k b : Int32) : zcrc k b = zr (k ^^^ b) 8 := by
  apply Int32.toBitVec_inj.mp
  unfold zcrc
  rw [zhalf_v, zhalf_v]
  unfold zs4
  simp only [zr, zr1_v]
theorem zsB_r {f : Nat → Int32} {a : Nat} {k x t : Int} (hx : x = zB1 f t) (ht : t.toNat = a + k.toNat) (hk : 0 ≤ k) : zr (zsB f a k.toNat ^^^ iI x) 8 = zsB f a (k + 1).toNat := by
  rw [show (k + 1).toNat = k.toNat + 1 by omega]
  show _ = zcrc (zsB f a k.toNat) (f (a + k.toNat) &&& 255)
  rw [zcrc_r, hx, ← zB1_eq, ht, show iI 255 = 255 by decide]
theorem zr_s {c v : Int32} {k : Int} (hc : v = zr c k.toNat) (hk : 0 ≤ k) : zr1 v = zr c (k + 1).toNat := by
  rw [show (k + 1).toNat = k.toNat + 1 by omega, hc]
  rfl
set_option maxRecDepth 100000 in
theorem zm_34 : Jvm.Cond.selects "ZipGuardModel" ({ cls := "ZipGuardModel", name := "isMark", desc := "(JII)Z" } : Jvm.MethodName) ({ cls := "ZipGuardModel", name := "isMark", desc := "(JII)Z" } : Jvm.MethodName) ∈ zt := zt_mp (List.mem_of_getElem? (i := 34) rfl)
set_option maxRecDepth 100000 in
theorem zm_35 : Jvm.Cond.selects "ZipGuardModel" ({ cls := "ZipGuardModel", name := "at", desc := "(J)I" } : Jvm.MethodName) ({ cls := "ZipGuardModel", name := "at", desc := "(J)I" } : Jvm.MethodName) ∈ zt := zt_mp (List.mem_of_getElem? (i := 35) rfl)
set_option maxRecDepth 100000 in
theorem zm_36 : Jvm.Cond.selects "ZipGuardModel" ({ cls := "ZipGuardModel", name := "two", desc := "(J)I" } : Jvm.MethodName) ({ cls := "ZipGuardModel", name := "two", desc := "(J)I" } : Jvm.MethodName) ∈ zt := zt_mp (List.mem_of_getElem? (i := 36) rfl)
set_option maxRecDepth 100000 in
theorem zm_38 : Jvm.Cond.selects "ZipGuardModel" ({ cls := "ZipGuardModel", name := "four", desc := "(J)J" } : Jvm.MethodName) ({ cls := "ZipGuardModel", name := "four", desc := "(J)J" } : Jvm.MethodName) ∈ zt := zt_mp (List.mem_of_getElem? (i := 38) rfl)
set_option maxRecDepth 100000 in
theorem zm_42 : Jvm.Cond.selects "ZipGuardModel" ({ cls := "ZipGuardModel", name := "isIn", desc := "(IIZ)Z" } : Jvm.MethodName) ({ cls := "ZipGuardModel", name := "isIn", desc := "(IIZ)Z" } : Jvm.MethodName) ∈ zt := zt_mp (List.mem_of_getElem? (i := 42) rfl)
set_option maxRecDepth 100000 in
theorem zm_43 : Jvm.Cond.selects "ZipGuardModel" ({ cls := "ZipGuardModel", name := "bareSize", desc := "(I)I" } : Jvm.MethodName) ({ cls := "ZipGuardModel", name := "bareSize", desc := "(I)I" } : Jvm.MethodName) ∈ zt := zt_mp (List.mem_of_getElem? (i := 43) rfl)
set_option maxRecDepth 100000 in
theorem zm_44 : Jvm.Cond.selects "ZipGuardModel" ({ cls := "ZipGuardModel", name := "isFolder", desc := "(I)Z" } : Jvm.MethodName) ({ cls := "ZipGuardModel", name := "isFolder", desc := "(I)Z" } : Jvm.MethodName) ∈ zt := zt_mp (List.mem_of_getElem? (i := 44) rfl)
set_option maxRecDepth 100000 in
theorem zm_45 : Jvm.Cond.selects "ZipGuardModel" ({ cls := "ZipGuardModel", name := "nameByte", desc := "(II)I" } : Jvm.MethodName) ({ cls := "ZipGuardModel", name := "nameByte", desc := "(II)I" } : Jvm.MethodName) ∈ zt := zt_mp (List.mem_of_getElem? (i := 45) rfl)
set_option maxRecDepth 100000 in
theorem zm_79 : Jvm.Cond.initialized "ZipGuardModel" ∈ zt := zt_m1 (List.mem_of_getElem? (i := 15) rfl)
set_option maxRecDepth 100000 in
theorem zm_752 : Jvm.Cond.fieldLink "ZipGuardModel" (7 : Nat) "ZipGuardModel" "tape" "[B" ∈ zt := zt_m5 (List.mem_of_getElem? (i := 22) rfl)
set_option maxRecDepth 100000 in
theorem zm_753 : Jvm.Cond.fieldLink "ZipGuardModel" (90 : Nat) "ZipGuardModel" "length" "I" ∈ zt := zt_m5 (List.mem_of_getElem? (i := 23) rfl)
set_option maxRecDepth 100000 in
theorem zm_758 : Jvm.Cond.fieldLink "ZipGuardModel" (84 : Nat) "ZipGuardModel" "entries" "I" ∈ zt := zt_m5 (List.mem_of_getElem? (i := 28) rfl)
set_option maxRecDepth 100000 in
theorem zm_764 : Jvm.Cond.fieldLink "ZipGuardModel" (40 : Nat) "ZipGuardModel" "locals" "[I" ∈ zt := zt_m5 (List.mem_of_getElem? (i := 34) rfl)
set_option maxRecDepth 100000 in
theorem zm_765 : Jvm.Cond.fieldLink "ZipGuardModel" (43 : Nat) "ZipGuardModel" "localEnds" "[I" ∈ zt := zt_m5 (List.mem_of_getElem? (i := 35) rfl)
set_option maxRecDepth 100000 in
theorem zm_766 : Jvm.Cond.fieldLink "ZipGuardModel" (46 : Nat) "ZipGuardModel" "names" "[B" ∈ zt := zt_m5 (List.mem_of_getElem? (i := 36) rfl)
set_option maxRecDepth 100000 in
theorem zm_767 : Jvm.Cond.fieldLink "ZipGuardModel" (49 : Nat) "ZipGuardModel" "nameSizes" "[I" ∈ zt := zt_m5 (List.mem_of_getElem? (i := 37) rfl)
set_option maxRecDepth 100000 in
theorem zm_769 : Jvm.Cond.fieldLink "ZipGuardModel" (55 : Nat) "ZipGuardModel" "starts" "[I" ∈ zt := zt_m5 (List.mem_of_getElem? (i := 39) rfl)
set_option maxRecDepth 100000 in
theorem zm_770 : Jvm.Cond.fieldLink "ZipGuardModel" (58 : Nat) "ZipGuardModel" "counts" "[I" ∈ zt := zt_m5 (List.mem_of_getElem? (i := 40) rfl)
set_option maxRecDepth 100000 in
theorem zm_771 : Jvm.Cond.fieldLink "ZipGuardModel" (62 : Nat) "ZipGuardModel" "written" "[B" ∈ zt := zt_m5 (List.mem_of_getElem? (i := 41) rfl)
set_option maxRecDepth 100000 in
theorem zm_782 : Jvm.Cond.fieldLink "ZipGuardModel" (77 : Nat) "ZipGuardModel" "thrown" "I" ∈ zt := zt_m5 (List.mem_of_getElem? (i := 52) rfl)
set_option maxRecDepth 100000 in
theorem zm_879 : Jvm.Cond.methodLink "ZipGuardModel" (111 : Nat) ({ cls := "ZipGuardModel", name := "isMark", desc := "(JII)Z" } : Jvm.MethodName) ∈ zt := zt_m5 (List.mem_of_getElem? (i := 149) rfl)
set_option maxRecDepth 100000 in
theorem zm_880 : Jvm.Cond.instanceMethod ({ cls := "ZipGuardModel", name := "isMark", desc := "(JII)Z" } : Jvm.MethodName) ∈ zt := zt_m5 (List.mem_of_getElem? (i := 150) rfl)
set_option maxRecDepth 100000 in
theorem zm_881 : Jvm.Cond.code ({ cls := "ZipGuardModel", name := "isMark", desc := "(JII)Z" } : Jvm.MethodName) prog_10_method_11_code (5 : Nat) (Option.some Jvm.ClassFile.FieldType.boolean) ∈ zt := zt_m5 (List.mem_of_getElem? (i := 151) rfl)
set_option maxRecDepth 100000 in
theorem zm_882 : Jvm.Cond.methodLink "ZipGuardModel" (100 : Nat) ({ cls := "ZipGuardModel", name := "at", desc := "(J)I" } : Jvm.MethodName) ∈ zt := zt_m5 (List.mem_of_getElem? (i := 152) rfl)
set_option maxRecDepth 100000 in
theorem zm_883 : Jvm.Cond.instanceMethod ({ cls := "ZipGuardModel", name := "at", desc := "(J)I" } : Jvm.MethodName) ∈ zt := zt_m5 (List.mem_of_getElem? (i := 153) rfl)
set_option maxRecDepth 100000 in
theorem zm_884 : Jvm.Cond.code ({ cls := "ZipGuardModel", name := "at", desc := "(J)I" } : Jvm.MethodName) prog_10_method_8_code (3 : Nat) (Option.some Jvm.ClassFile.FieldType.int) ∈ zt := zt_m5 (List.mem_of_getElem? (i := 154) rfl)
set_option maxRecDepth 100000 in
theorem zm_885 : Jvm.Cond.constantLong "ZipGuardModel" (107 : Nat) (2 : Int64) ∈ zt := zt_m5 (List.mem_of_getElem? (i := 155) rfl)
set_option maxRecDepth 100000 in
theorem zm_886 : Jvm.Cond.constantLong "ZipGuardModel" (109 : Nat) (3 : Int64) ∈ zt := zt_m5 (List.mem_of_getElem? (i := 156) rfl)
set_option maxRecDepth 100000 in
theorem zm_887 : Jvm.Cond.methodLink "ZipGuardModel" (104 : Nat) ({ cls := "ZipGuardModel", name := "two", desc := "(J)I" } : Jvm.MethodName) ∈ zt := zt_m5 (List.mem_of_getElem? (i := 157) rfl)
set_option maxRecDepth 100000 in
theorem zm_888 : Jvm.Cond.instanceMethod ({ cls := "ZipGuardModel", name := "two", desc := "(J)I" } : Jvm.MethodName) ∈ zt := zt_m5 (List.mem_of_getElem? (i := 158) rfl)
set_option maxRecDepth 100000 in
theorem zm_889 : Jvm.Cond.code ({ cls := "ZipGuardModel", name := "two", desc := "(J)I" } : Jvm.MethodName) prog_10_method_9_code (3 : Nat) (Option.some Jvm.ClassFile.FieldType.int) ∈ zt := zt_m5 (List.mem_of_getElem? (i := 159) rfl)
set_option maxRecDepth 100000 in
theorem zm_893 : Jvm.Cond.methodLink "ZipGuardModel" (129 : Nat) ({ cls := "ZipGuardModel", name := "four", desc := "(J)J" } : Jvm.MethodName) ∈ zt := zt_m5 (List.mem_of_getElem? (i := 163) rfl)
set_option maxRecDepth 100000 in
theorem zm_894 : Jvm.Cond.instanceMethod ({ cls := "ZipGuardModel", name := "four", desc := "(J)J" } : Jvm.MethodName) ∈ zt := zt_m5 (List.mem_of_getElem? (i := 164) rfl)
set_option maxRecDepth 100000 in
theorem zm_895 : Jvm.Cond.code ({ cls := "ZipGuardModel", name := "four", desc := "(J)J" } : Jvm.MethodName) prog_10_method_10_code (3 : Nat) (Option.some Jvm.ClassFile.FieldType.long) ∈ zt := zt_m5 (List.mem_of_getElem? (i := 165) rfl)
set_option maxRecDepth 100000 in
theorem zm_897 : Jvm.Cond.constantLong "ZipGuardModel" (123 : Nat) (28 : Int64) ∈ zt := zt_m5 (List.mem_of_getElem? (i := 167) rfl)
set_option maxRecDepth 100000 in
theorem zm_903 : Jvm.Cond.constantLong "ZipGuardModel" (115 : Nat) (6 : Int64) ∈ zt := zt_m5 (List.mem_of_getElem? (i := 173) rfl)
set_option maxRecDepth 100000 in
theorem zm_904 : Jvm.Cond.constantLong "ZipGuardModel" (117 : Nat) (8 : Int64) ∈ zt := zt_m5 (List.mem_of_getElem? (i := 174) rfl)
set_option maxRecDepth 100000 in
theorem zm_905 : Jvm.Cond.constantLong "ZipGuardModel" (119 : Nat) (10 : Int64) ∈ zt := zt_m5 (List.mem_of_getElem? (i := 175) rfl)
set_option maxRecDepth 100000 in
theorem zm_906 : Jvm.Cond.constantLong "ZipGuardModel" (121 : Nat) (34 : Int64) ∈ zt := zt_m5 (List.mem_of_getElem? (i := 176) rfl)
set_option maxRecDepth 100000 in
theorem zm_907 : Jvm.Cond.constantLong "ZipGuardModel" (125 : Nat) (45 : Int64) ∈ zt := zt_m5 (List.mem_of_getElem? (i := 177) rfl)
set_option maxRecDepth 100000 in
theorem zm_908 : Jvm.Cond.constantLong "ZipGuardModel" (127 : Nat) (20 : Int64) ∈ zt := zt_m5 (List.mem_of_getElem? (i := 178) rfl)
set_option maxRecDepth 100000 in
theorem zm_909 : Jvm.Cond.constantLong "ZipGuardModel" (133 : Nat) (24 : Int64) ∈ zt := zt_m5 (List.mem_of_getElem? (i := 179) rfl)
set_option maxRecDepth 100000 in
theorem zm_913 : Jvm.Cond.methodLink "ZipGuardModel" (135 : Nat) ({ cls := "ZipGuardModel", name := "isPlain", desc := "(I)Z" } : Jvm.MethodName) ∈ zt := zt_m5 (List.mem_of_getElem? (i := 183) rfl)
set_option maxRecDepth 100000 in
theorem zm_914 : Jvm.Cond.static ({ cls := "ZipGuardModel", name := "isPlain", desc := "(I)Z" } : Jvm.MethodName) ∈ zt := zt_m5 (List.mem_of_getElem? (i := 184) rfl)
set_option maxRecDepth 100000 in
theorem zm_915 : Jvm.Cond.code ({ cls := "ZipGuardModel", name := "isPlain", desc := "(I)Z" } : Jvm.MethodName) prog_10_method_15_code (1 : Nat) (Option.some Jvm.ClassFile.FieldType.boolean) ∈ zt := zt_m5 (List.mem_of_getElem? (i := 185) rfl)
set_option maxRecDepth 100000 in
theorem zm_919 : Jvm.Cond.methodLink "ZipGuardModel" (150 : Nat) ({ cls := "ZipGuardModel", name := "isIn", desc := "(IIZ)Z" } : Jvm.MethodName) ∈ zt := zt_m5 (List.mem_of_getElem? (i := 189) rfl)
set_option maxRecDepth 100000 in
theorem zm_920 : Jvm.Cond.instanceMethod ({ cls := "ZipGuardModel", name := "isIn", desc := "(IIZ)Z" } : Jvm.MethodName) ∈ zt := zt_m5 (List.mem_of_getElem? (i := 190) rfl)
set_option maxRecDepth 100000 in
theorem zm_921 : Jvm.Cond.code ({ cls := "ZipGuardModel", name := "isIn", desc := "(IIZ)Z" } : Jvm.MethodName) prog_10_method_20_code (6 : Nat) (Option.some Jvm.ClassFile.FieldType.boolean) ∈ zt := zt_m5 (List.mem_of_getElem? (i := 191) rfl)
set_option maxRecDepth 100000 in
theorem zm_922 : Jvm.Cond.methodLink "ZipGuardModel" (146 : Nat) ({ cls := "ZipGuardModel", name := "bareSize", desc := "(I)I" } : Jvm.MethodName) ∈ zt := zt_m5 (List.mem_of_getElem? (i := 192) rfl)
set_option maxRecDepth 100000 in
theorem zm_923 : Jvm.Cond.instanceMethod ({ cls := "ZipGuardModel", name := "bareSize", desc := "(I)I" } : Jvm.MethodName) ∈ zt := zt_m5 (List.mem_of_getElem? (i := 193) rfl)
set_option maxRecDepth 100000 in
theorem zm_924 : Jvm.Cond.code ({ cls := "ZipGuardModel", name := "bareSize", desc := "(I)I" } : Jvm.MethodName) prog_10_method_19_code (2 : Nat) (Option.some Jvm.ClassFile.FieldType.int) ∈ zt := zt_m5 (List.mem_of_getElem? (i := 194) rfl)
set_option maxRecDepth 100000 in
theorem zm_925 : Jvm.Cond.methodLink "ZipGuardModel" (143 : Nat) ({ cls := "ZipGuardModel", name := "isFolder", desc := "(I)Z" } : Jvm.MethodName) ∈ zt := zt_m5 (List.mem_of_getElem? (i := 195) rfl)
set_option maxRecDepth 100000 in
theorem zm_926 : Jvm.Cond.instanceMethod ({ cls := "ZipGuardModel", name := "isFolder", desc := "(I)Z" } : Jvm.MethodName) ∈ zt := zt_m5 (List.mem_of_getElem? (i := 196) rfl)
set_option maxRecDepth 100000 in
theorem zm_927 : Jvm.Cond.code ({ cls := "ZipGuardModel", name := "isFolder", desc := "(I)Z" } : Jvm.MethodName) prog_10_method_18_code (2 : Nat) (Option.some Jvm.ClassFile.FieldType.boolean) ∈ zt := zt_m5 (List.mem_of_getElem? (i := 197) rfl)
set_option maxRecDepth 100000 in
theorem zm_928 : Jvm.Cond.methodLink "ZipGuardModel" (139 : Nat) ({ cls := "ZipGuardModel", name := "nameByte", desc := "(II)I" } : Jvm.MethodName) ∈ zt := zt_m5 (List.mem_of_getElem? (i := 198) rfl)
set_option maxRecDepth 100000 in
theorem zm_929 : Jvm.Cond.instanceMethod ({ cls := "ZipGuardModel", name := "nameByte", desc := "(II)I" } : Jvm.MethodName) ∈ zt := zt_m5 (List.mem_of_getElem? (i := 199) rfl)
set_option maxRecDepth 100000 in
theorem zm_930 : Jvm.Cond.code ({ cls := "ZipGuardModel", name := "nameByte", desc := "(II)I" } : Jvm.MethodName) prog_10_method_17_code (3 : Nat) (Option.some Jvm.ClassFile.FieldType.int) ∈ zt := zt_m5 (List.mem_of_getElem? (i := 200) rfl)
set_option maxRecDepth 100000 in
theorem zm_993 : Jvm.Cond.constantLong "ZipGuardModel" (211 : Nat) (32768 : Int64) ∈ zt := zt_m6 (List.mem_of_getElem? (i := 41) rfl)
set_option maxRecDepth 100000 in
theorem zm_1012 : Jvm.Cond.constant "ZipGuardModel" (263 : Nat) (-306674912 : Int32) ∈ zt := zt_m6 (List.mem_of_getElem? (i := 60) rfl)
theorem d_M_at_0 : decode prog_10_method_8_code 0 = .ok (.aload_n 0, 1) := by decide +kernel
theorem d_M_at_1 : decode prog_10_method_8_code 1 = .ok (.getfield 7, 3) := by decide +kernel
theorem d_M_at_4 : decode prog_10_method_8_code 4 = .ok (.lload_n 1, 1) := by decide +kernel
theorem d_M_at_5 : decode prog_10_method_8_code 5 = .ok (.l2i, 1) := by decide +kernel
theorem d_M_at_6 : decode prog_10_method_8_code 6 = .ok (.baload, 1) := by decide +kernel
theorem d_M_at_7 : decode prog_10_method_8_code 7 = .ok (.sipush 255, 3) := by decide +kernel
theorem d_M_at_10 : decode prog_10_method_8_code 10 = .ok (.iand, 1) := by decide +kernel
theorem d_M_at_11 : decode prog_10_method_8_code 11 = .ok (.ireturn, 1) := by decide +kernel
theorem d_M_bareSize_0 : decode prog_10_method_19_code 0 = .ok (.aload_n 0, 1) := by decide +kernel
theorem d_M_bareSize_1 : decode prog_10_method_19_code 1 = .ok (.getfield 49, 3) := by decide +kernel
theorem d_M_bareSize_4 : decode prog_10_method_19_code 4 = .ok (.iload_n 1, 1) := by decide +kernel
theorem d_M_bareSize_5 : decode prog_10_method_19_code 5 = .ok (.iaload, 1) := by decide +kernel
theorem d_M_bareSize_6 : decode prog_10_method_19_code 6 = .ok (.aload_n 0, 1) := by decide +kernel
theorem d_M_bareSize_7 : decode prog_10_method_19_code 7 = .ok (.iload_n 1, 1) := by decide +kernel
theorem d_M_bareSize_8 : decode prog_10_method_19_code 8 = .ok (.invokevirtual 143, 3) := by decide +kernel
theorem d_M_bareSize_11 : decode prog_10_method_19_code 11 = .ok (.ifCond .eq 7, 3) := by decide +kernel
theorem d_M_bareSize_14 : decode prog_10_method_19_code 14 = .ok (.iconst 1, 1) := by decide +kernel
theorem d_M_bareSize_15 : decode prog_10_method_19_code 15 = .ok (.goto 4, 3) := by decide +kernel
theorem d_M_bareSize_18 : decode prog_10_method_19_code 18 = .ok (.iconst 0, 1) := by decide +kernel
theorem d_M_bareSize_19 : decode prog_10_method_19_code 19 = .ok (.isub, 1) := by decide +kernel
theorem d_M_bareSize_20 : decode prog_10_method_19_code 20 = .ok (.ireturn, 1) := by decide +kernel
theorem d_M_findEnd_0 : decode prog_10_method_13_code 0 = .ok (.aload_n 0, 1) := by decide +kernel
theorem d_M_findEnd_1 : decode prog_10_method_13_code 1 = .ok (.getfield 90, 3) := by decide +kernel
theorem d_M_findEnd_4 : decode prog_10_method_13_code 4 = .ok (.bipush 22, 2) := by decide +kernel
theorem d_M_findEnd_6 : decode prog_10_method_13_code 6 = .ok (.isub, 1) := by decide +kernel
theorem d_M_findEnd_7 : decode prog_10_method_13_code 7 = .ok (.istore_n 1, 1) := by decide +kernel
theorem d_M_findEnd_8 : decode prog_10_method_13_code 8 = .ok (.iload_n 1, 1) := by decide +kernel
theorem d_M_findEnd_9 : decode prog_10_method_13_code 9 = .ok (.ifCond .lt 44, 3) := by decide +kernel
theorem d_M_findEnd_12 : decode prog_10_method_13_code 12 = .ok (.aload_n 0, 1) := by decide +kernel
theorem d_M_findEnd_13 : decode prog_10_method_13_code 13 = .ok (.iload_n 1, 1) := by decide +kernel
theorem d_M_findEnd_14 : decode prog_10_method_13_code 14 = .ok (.i2l, 1) := by decide +kernel
theorem d_M_findEnd_15 : decode prog_10_method_13_code 15 = .ok (.iconst 5, 1) := by decide +kernel
theorem d_M_findEnd_16 : decode prog_10_method_13_code 16 = .ok (.bipush 6, 2) := by decide +kernel
theorem d_M_findEnd_18 : decode prog_10_method_13_code 18 = .ok (.invokevirtual 111, 3) := by decide +kernel
theorem d_M_findEnd_21 : decode prog_10_method_13_code 21 = .ok (.ifCond .eq 26, 3) := by decide +kernel
theorem d_M_findEnd_24 : decode prog_10_method_13_code 24 = .ok (.iload_n 1, 1) := by decide +kernel
theorem d_M_findEnd_25 : decode prog_10_method_13_code 25 = .ok (.bipush 22, 2) := by decide +kernel
theorem d_M_findEnd_27 : decode prog_10_method_13_code 27 = .ok (.iadd, 1) := by decide +kernel
theorem d_M_findEnd_28 : decode prog_10_method_13_code 28 = .ok (.aload_n 0, 1) := by decide +kernel
theorem d_M_findEnd_29 : decode prog_10_method_13_code 29 = .ok (.iload_n 1, 1) := by decide +kernel
theorem d_M_findEnd_30 : decode prog_10_method_13_code 30 = .ok (.bipush 20, 2) := by decide +kernel
theorem d_M_findEnd_32 : decode prog_10_method_13_code 32 = .ok (.iadd, 1) := by decide +kernel
theorem d_M_findEnd_33 : decode prog_10_method_13_code 33 = .ok (.i2l, 1) := by decide +kernel
theorem d_M_findEnd_34 : decode prog_10_method_13_code 34 = .ok (.invokevirtual 104, 3) := by decide +kernel
theorem d_M_findEnd_37 : decode prog_10_method_13_code 37 = .ok (.iadd, 1) := by decide +kernel
theorem d_M_findEnd_38 : decode prog_10_method_13_code 38 = .ok (.aload_n 0, 1) := by decide +kernel
theorem d_M_findEnd_39 : decode prog_10_method_13_code 39 = .ok (.getfield 90, 3) := by decide +kernel
theorem d_M_findEnd_42 : decode prog_10_method_13_code 42 = .ok (.if_icmp .ne 5, 3) := by decide +kernel
theorem d_M_findEnd_45 : decode prog_10_method_13_code 45 = .ok (.iload_n 1, 1) := by decide +kernel
theorem d_M_findEnd_46 : decode prog_10_method_13_code 46 = .ok (.ireturn, 1) := by decide +kernel
theorem d_M_findEnd_47 : decode prog_10_method_13_code 47 = .ok (.iinc 1 (-1), 3) := by decide +kernel
theorem d_M_findEnd_50 : decode prog_10_method_13_code 50 = .ok (.goto (-42), 3) := by decide +kernel
theorem d_M_findEnd_53 : decode prog_10_method_13_code 53 = .ok (.iconst (-1), 1) := by decide +kernel
theorem d_M_findEnd_54 : decode prog_10_method_13_code 54 = .ok (.ireturn, 1) := by decide +kernel
theorem d_M_four_0 : decode prog_10_method_10_code 0 = .ok (.aload_n 0, 1) := by decide +kernel
theorem d_M_four_1 : decode prog_10_method_10_code 1 = .ok (.lload_n 1, 1) := by decide +kernel
theorem d_M_four_2 : decode prog_10_method_10_code 2 = .ok (.invokevirtual 104, 3) := by decide +kernel
theorem d_M_four_5 : decode prog_10_method_10_code 5 = .ok (.i2l, 1) := by decide +kernel
theorem d_M_four_6 : decode prog_10_method_10_code 6 = .ok (.aload_n 0, 1) := by decide +kernel
theorem d_M_four_7 : decode prog_10_method_10_code 7 = .ok (.lload_n 1, 1) := by decide +kernel
theorem d_M_four_8 : decode prog_10_method_10_code 8 = .ok (.ldc2_w 107, 3) := by decide +kernel
theorem d_M_four_11 : decode prog_10_method_10_code 11 = .ok (.ladd, 1) := by decide +kernel
theorem d_M_four_12 : decode prog_10_method_10_code 12 = .ok (.invokevirtual 104, 3) := by decide +kernel
theorem d_M_four_15 : decode prog_10_method_10_code 15 = .ok (.i2l, 1) := by decide +kernel
theorem d_M_four_16 : decode prog_10_method_10_code 16 = .ok (.bipush 16, 2) := by decide +kernel
theorem d_M_four_18 : decode prog_10_method_10_code 18 = .ok (.lshl, 1) := by decide +kernel
theorem d_M_four_19 : decode prog_10_method_10_code 19 = .ok (.lor, 1) := by decide +kernel
theorem d_M_four_20 : decode prog_10_method_10_code 20 = .ok (.lreturn, 1) := by decide +kernel
theorem d_M_isFolder_0 : decode prog_10_method_18_code 0 = .ok (.aload_n 0, 1) := by decide +kernel
theorem d_M_isFolder_1 : decode prog_10_method_18_code 1 = .ok (.iload_n 1, 1) := by decide +kernel
theorem d_M_isFolder_2 : decode prog_10_method_18_code 2 = .ok (.aload_n 0, 1) := by decide +kernel
theorem d_M_isFolder_3 : decode prog_10_method_18_code 3 = .ok (.getfield 49, 3) := by decide +kernel
theorem d_M_isFolder_6 : decode prog_10_method_18_code 6 = .ok (.iload_n 1, 1) := by decide +kernel
theorem d_M_isFolder_7 : decode prog_10_method_18_code 7 = .ok (.iaload, 1) := by decide +kernel
theorem d_M_isFolder_8 : decode prog_10_method_18_code 8 = .ok (.iconst 1, 1) := by decide +kernel
theorem d_M_isFolder_9 : decode prog_10_method_18_code 9 = .ok (.isub, 1) := by decide +kernel
theorem d_M_isFolder_10 : decode prog_10_method_18_code 10 = .ok (.invokevirtual 139, 3) := by decide +kernel
theorem d_M_isFolder_13 : decode prog_10_method_18_code 13 = .ok (.bipush 47, 2) := by decide +kernel
theorem d_M_isFolder_15 : decode prog_10_method_18_code 15 = .ok (.if_icmp .ne 7, 3) := by decide +kernel
theorem d_M_isFolder_18 : decode prog_10_method_18_code 18 = .ok (.iconst 1, 1) := by decide +kernel
theorem d_M_isFolder_19 : decode prog_10_method_18_code 19 = .ok (.goto 4, 3) := by decide +kernel
theorem d_M_isFolder_22 : decode prog_10_method_18_code 22 = .ok (.iconst 0, 1) := by decide +kernel
theorem d_M_isFolder_23 : decode prog_10_method_18_code 23 = .ok (.ireturn, 1) := by decide +kernel
theorem d_M_isIn_0 : decode prog_10_method_20_code 0 = .ok (.aload_n 0, 1) := by decide +kernel
theorem d_M_isIn_1 : decode prog_10_method_20_code 1 = .ok (.iload_n 2, 1) := by decide +kernel
theorem d_M_isIn_2 : decode prog_10_method_20_code 2 = .ok (.invokevirtual 146, 3) := by decide +kernel
theorem d_M_isIn_5 : decode prog_10_method_20_code 5 = .ok (.istore 4, 2) := by decide +kernel
theorem d_M_isIn_7 : decode prog_10_method_20_code 7 = .ok (.aload_n 0, 1) := by decide +kernel
theorem d_M_isIn_8 : decode prog_10_method_20_code 8 = .ok (.iload_n 1, 1) := by decide +kernel
theorem d_M_isIn_9 : decode prog_10_method_20_code 9 = .ok (.invokevirtual 146, 3) := by decide +kernel
theorem d_M_isIn_12 : decode prog_10_method_20_code 12 = .ok (.iload 4, 2) := by decide +kernel
theorem d_M_isIn_14 : decode prog_10_method_20_code 14 = .ok (.if_icmp .lt 43, 3) := by decide +kernel
theorem d_M_isIn_17 : decode prog_10_method_20_code 17 = .ok (.iload_n 3, 1) := by decide +kernel
theorem d_M_isIn_18 : decode prog_10_method_20_code 18 = .ok (.ifCond .eq 13, 3) := by decide +kernel
theorem d_M_isIn_21 : decode prog_10_method_20_code 21 = .ok (.aload_n 0, 1) := by decide +kernel
theorem d_M_isIn_22 : decode prog_10_method_20_code 22 = .ok (.iload_n 1, 1) := by decide +kernel
theorem d_M_isIn_23 : decode prog_10_method_20_code 23 = .ok (.invokevirtual 146, 3) := by decide +kernel
theorem d_M_isIn_26 : decode prog_10_method_20_code 26 = .ok (.iload 4, 2) := by decide +kernel
theorem d_M_isIn_28 : decode prog_10_method_20_code 28 = .ok (.if_icmp .ne 29, 3) := by decide +kernel
theorem d_M_isIn_31 : decode prog_10_method_20_code 31 = .ok (.iload_n 3, 1) := by decide +kernel
theorem d_M_isIn_32 : decode prog_10_method_20_code 32 = .ok (.ifCond .ne 27, 3) := by decide +kernel
theorem d_M_isIn_35 : decode prog_10_method_20_code 35 = .ok (.aload_n 0, 1) := by decide +kernel
theorem d_M_isIn_36 : decode prog_10_method_20_code 36 = .ok (.iload_n 1, 1) := by decide +kernel
theorem d_M_isIn_37 : decode prog_10_method_20_code 37 = .ok (.invokevirtual 146, 3) := by decide +kernel
theorem d_M_isIn_40 : decode prog_10_method_20_code 40 = .ok (.iload 4, 2) := by decide +kernel
theorem d_M_isIn_42 : decode prog_10_method_20_code 42 = .ok (.if_icmp .eq 15, 3) := by decide +kernel
theorem d_M_isIn_45 : decode prog_10_method_20_code 45 = .ok (.aload_n 0, 1) := by decide +kernel
theorem d_M_isIn_46 : decode prog_10_method_20_code 46 = .ok (.iload_n 1, 1) := by decide +kernel
theorem d_M_isIn_47 : decode prog_10_method_20_code 47 = .ok (.iload 4, 2) := by decide +kernel
theorem d_M_isIn_49 : decode prog_10_method_20_code 49 = .ok (.invokevirtual 139, 3) := by decide +kernel
theorem d_M_isIn_52 : decode prog_10_method_20_code 52 = .ok (.bipush 47, 2) := by decide +kernel
theorem d_M_isIn_54 : decode prog_10_method_20_code 54 = .ok (.if_icmp .eq 5, 3) := by decide +kernel
theorem d_M_isIn_57 : decode prog_10_method_20_code 57 = .ok (.iconst 0, 1) := by decide +kernel
theorem d_M_isIn_58 : decode prog_10_method_20_code 58 = .ok (.ireturn, 1) := by decide +kernel
theorem d_M_isIn_59 : decode prog_10_method_20_code 59 = .ok (.iconst 0, 1) := by decide +kernel
theorem d_M_isIn_60 : decode prog_10_method_20_code 60 = .ok (.istore 5, 2) := by decide +kernel
theorem d_M_isIn_62 : decode prog_10_method_20_code 62 = .ok (.iload 5, 2) := by decide +kernel
theorem d_M_isIn_64 : decode prog_10_method_20_code 64 = .ok (.iload 4, 2) := by decide +kernel
theorem d_M_isIn_66 : decode prog_10_method_20_code 66 = .ok (.if_icmp .ge 28, 3) := by decide +kernel
theorem d_M_isIn_69 : decode prog_10_method_20_code 69 = .ok (.aload_n 0, 1) := by decide +kernel
theorem d_M_isIn_70 : decode prog_10_method_20_code 70 = .ok (.iload_n 1, 1) := by decide +kernel
theorem d_M_isIn_71 : decode prog_10_method_20_code 71 = .ok (.iload 5, 2) := by decide +kernel
theorem d_M_isIn_73 : decode prog_10_method_20_code 73 = .ok (.invokevirtual 139, 3) := by decide +kernel
theorem d_M_isIn_76 : decode prog_10_method_20_code 76 = .ok (.aload_n 0, 1) := by decide +kernel
theorem d_M_isIn_77 : decode prog_10_method_20_code 77 = .ok (.iload_n 2, 1) := by decide +kernel
theorem d_M_isIn_78 : decode prog_10_method_20_code 78 = .ok (.iload 5, 2) := by decide +kernel
theorem d_M_isIn_80 : decode prog_10_method_20_code 80 = .ok (.invokevirtual 139, 3) := by decide +kernel
theorem d_M_isIn_83 : decode prog_10_method_20_code 83 = .ok (.if_icmp .eq 5, 3) := by decide +kernel
theorem d_M_isIn_86 : decode prog_10_method_20_code 86 = .ok (.iconst 0, 1) := by decide +kernel
theorem d_M_isIn_87 : decode prog_10_method_20_code 87 = .ok (.ireturn, 1) := by decide +kernel
theorem d_M_isIn_88 : decode prog_10_method_20_code 88 = .ok (.iinc 5 1, 3) := by decide +kernel
theorem d_M_isIn_91 : decode prog_10_method_20_code 91 = .ok (.goto (-29), 3) := by decide +kernel
theorem d_M_isIn_94 : decode prog_10_method_20_code 94 = .ok (.iconst 1, 1) := by decide +kernel
theorem d_M_isIn_95 : decode prog_10_method_20_code 95 = .ok (.ireturn, 1) := by decide +kernel
theorem d_M_isMark_0 : decode prog_10_method_11_code 0 = .ok (.aload_n 0, 1) := by decide +kernel
theorem d_M_isMark_1 : decode prog_10_method_11_code 1 = .ok (.lload_n 1, 1) := by decide +kernel
theorem d_M_isMark_2 : decode prog_10_method_11_code 2 = .ok (.invokevirtual 100, 3) := by decide +kernel
theorem d_M_isMark_5 : decode prog_10_method_11_code 5 = .ok (.bipush 80, 2) := by decide +kernel
theorem d_M_isMark_7 : decode prog_10_method_11_code 7 = .ok (.if_icmp .ne 46, 3) := by decide +kernel
theorem d_M_isMark_10 : decode prog_10_method_11_code 10 = .ok (.aload_n 0, 1) := by decide +kernel
theorem d_M_isMark_11 : decode prog_10_method_11_code 11 = .ok (.lload_n 1, 1) := by decide +kernel
theorem d_M_isMark_12 : decode prog_10_method_11_code 12 = .ok (.lconst 1, 1) := by decide +kernel
theorem d_M_isMark_13 : decode prog_10_method_11_code 13 = .ok (.ladd, 1) := by decide +kernel
theorem d_M_isMark_14 : decode prog_10_method_11_code 14 = .ok (.invokevirtual 100, 3) := by decide +kernel
theorem d_M_isMark_17 : decode prog_10_method_11_code 17 = .ok (.bipush 75, 2) := by decide +kernel
theorem d_M_isMark_19 : decode prog_10_method_11_code 19 = .ok (.if_icmp .ne 34, 3) := by decide +kernel
theorem d_M_isMark_22 : decode prog_10_method_11_code 22 = .ok (.aload_n 0, 1) := by decide +kernel
theorem d_M_isMark_23 : decode prog_10_method_11_code 23 = .ok (.lload_n 1, 1) := by decide +kernel
theorem d_M_isMark_24 : decode prog_10_method_11_code 24 = .ok (.ldc2_w 107, 3) := by decide +kernel
theorem d_M_isMark_27 : decode prog_10_method_11_code 27 = .ok (.ladd, 1) := by decide +kernel
theorem d_M_isMark_28 : decode prog_10_method_11_code 28 = .ok (.invokevirtual 100, 3) := by decide +kernel
theorem d_M_isMark_31 : decode prog_10_method_11_code 31 = .ok (.iload_n 3, 1) := by decide +kernel
theorem d_M_isMark_32 : decode prog_10_method_11_code 32 = .ok (.if_icmp .ne 21, 3) := by decide +kernel
theorem d_M_isMark_35 : decode prog_10_method_11_code 35 = .ok (.aload_n 0, 1) := by decide +kernel
theorem d_M_isMark_36 : decode prog_10_method_11_code 36 = .ok (.lload_n 1, 1) := by decide +kernel
theorem d_M_isMark_37 : decode prog_10_method_11_code 37 = .ok (.ldc2_w 109, 3) := by decide +kernel
theorem d_M_isMark_40 : decode prog_10_method_11_code 40 = .ok (.ladd, 1) := by decide +kernel
theorem d_M_isMark_41 : decode prog_10_method_11_code 41 = .ok (.invokevirtual 100, 3) := by decide +kernel
theorem d_M_isMark_44 : decode prog_10_method_11_code 44 = .ok (.iload 4, 2) := by decide +kernel
theorem d_M_isMark_46 : decode prog_10_method_11_code 46 = .ok (.if_icmp .ne 7, 3) := by decide +kernel
theorem d_M_isMark_49 : decode prog_10_method_11_code 49 = .ok (.iconst 1, 1) := by decide +kernel
theorem d_M_isMark_50 : decode prog_10_method_11_code 50 = .ok (.goto 4, 3) := by decide +kernel
theorem d_M_isMark_53 : decode prog_10_method_11_code 53 = .ok (.iconst 0, 1) := by decide +kernel
theorem d_M_isMark_54 : decode prog_10_method_11_code 54 = .ok (.ireturn, 1) := by decide +kernel
theorem d_M_isName_0 : decode prog_10_method_16_code 0 = .ok (.iload_n 3, 1) := by decide +kernel
theorem d_M_isName_1 : decode prog_10_method_16_code 1 = .ok (.iconst 1, 1) := by decide +kernel
theorem d_M_isName_2 : decode prog_10_method_16_code 2 = .ok (.if_icmp .lt 9, 3) := by decide +kernel
theorem d_M_isName_5 : decode prog_10_method_16_code 5 = .ok (.iload_n 3, 1) := by decide +kernel
theorem d_M_isName_6 : decode prog_10_method_16_code 6 = .ok (.bipush 60, 2) := by decide +kernel
theorem d_M_isName_8 : decode prog_10_method_16_code 8 = .ok (.if_icmp .le 5, 3) := by decide +kernel
theorem d_M_isName_11 : decode prog_10_method_16_code 11 = .ok (.iconst 0, 1) := by decide +kernel
theorem d_M_isName_12 : decode prog_10_method_16_code 12 = .ok (.ireturn, 1) := by decide +kernel
theorem d_M_isName_13 : decode prog_10_method_16_code 13 = .ok (.iconst 0, 1) := by decide +kernel
theorem d_M_isName_14 : decode prog_10_method_16_code 14 = .ok (.istore 4, 2) := by decide +kernel
theorem d_M_isName_16 : decode prog_10_method_16_code 16 = .ok (.iconst 0, 1) := by decide +kernel
theorem d_M_isName_17 : decode prog_10_method_16_code 17 = .ok (.istore 5, 2) := by decide +kernel
theorem d_M_isName_19 : decode prog_10_method_16_code 19 = .ok (.iconst 0, 1) := by decide +kernel
theorem d_M_isName_20 : decode prog_10_method_16_code 20 = .ok (.istore 6, 2) := by decide +kernel
theorem d_M_isName_22 : decode prog_10_method_16_code 22 = .ok (.iload 6, 2) := by decide +kernel
theorem d_M_isName_24 : decode prog_10_method_16_code 24 = .ok (.iload_n 3, 1) := by decide +kernel
theorem d_M_isName_25 : decode prog_10_method_16_code 25 = .ok (.if_icmp .gt 165, 3) := by decide +kernel
theorem d_M_isName_28 : decode prog_10_method_16_code 28 = .ok (.iload 6, 2) := by decide +kernel
theorem d_M_isName_30 : decode prog_10_method_16_code 30 = .ok (.iload_n 3, 1) := by decide +kernel
theorem d_M_isName_31 : decode prog_10_method_16_code 31 = .ok (.if_icmp .ge 15, 3) := by decide +kernel
theorem d_M_isName_34 : decode prog_10_method_16_code 34 = .ok (.aload_n 0, 1) := by decide +kernel
theorem d_M_isName_35 : decode prog_10_method_16_code 35 = .ok (.lload_n 1, 1) := by decide +kernel
theorem d_M_isName_36 : decode prog_10_method_16_code 36 = .ok (.iload 6, 2) := by decide +kernel
theorem d_M_isName_38 : decode prog_10_method_16_code 38 = .ok (.i2l, 1) := by decide +kernel
theorem d_M_isName_39 : decode prog_10_method_16_code 39 = .ok (.ladd, 1) := by decide +kernel
theorem d_M_isName_40 : decode prog_10_method_16_code 40 = .ok (.invokevirtual 100, 3) := by decide +kernel
theorem d_M_isName_43 : decode prog_10_method_16_code 43 = .ok (.goto 5, 3) := by decide +kernel
theorem d_M_isName_46 : decode prog_10_method_16_code 46 = .ok (.bipush 47, 2) := by decide +kernel
theorem d_M_isName_48 : decode prog_10_method_16_code 48 = .ok (.istore 7, 2) := by decide +kernel
theorem d_M_isName_50 : decode prog_10_method_16_code 50 = .ok (.iload 7, 2) := by decide +kernel
theorem d_M_isName_52 : decode prog_10_method_16_code 52 = .ok (.invokestatic 135, 3) := by decide +kernel
theorem d_M_isName_55 : decode prog_10_method_16_code 55 = .ok (.ifCond .ne 5, 3) := by decide +kernel
theorem d_M_isName_58 : decode prog_10_method_16_code 58 = .ok (.iconst 0, 1) := by decide +kernel
theorem d_M_isName_59 : decode prog_10_method_16_code 59 = .ok (.ireturn, 1) := by decide +kernel
theorem d_M_isName_60 : decode prog_10_method_16_code 60 = .ok (.iload 7, 2) := by decide +kernel
theorem d_M_isName_62 : decode prog_10_method_16_code 62 = .ok (.bipush 47, 2) := by decide +kernel
theorem d_M_isName_64 : decode prog_10_method_16_code 64 = .ok (.if_icmp .eq 6, 3) := by decide +kernel
theorem d_M_isName_67 : decode prog_10_method_16_code 67 = .ok (.goto 117, 3) := by decide +kernel
theorem d_M_isName_70 : decode prog_10_method_16_code 70 = .ok (.iload 6, 2) := by decide +kernel
theorem d_M_isName_72 : decode prog_10_method_16_code 72 = .ok (.iload 5, 2) := by decide +kernel
theorem d_M_isName_74 : decode prog_10_method_16_code 74 = .ok (.isub, 1) := by decide +kernel
theorem d_M_isName_75 : decode prog_10_method_16_code 75 = .ok (.istore 8, 2) := by decide +kernel
theorem d_M_isName_77 : decode prog_10_method_16_code 77 = .ok (.iload 8, 2) := by decide +kernel
theorem d_M_isName_79 : decode prog_10_method_16_code 79 = .ok (.iconst 1, 1) := by decide +kernel
theorem d_M_isName_80 : decode prog_10_method_16_code 80 = .ok (.if_icmp .ne 17, 3) := by decide +kernel
theorem d_M_isName_83 : decode prog_10_method_16_code 83 = .ok (.aload_n 0, 1) := by decide +kernel
theorem d_M_isName_84 : decode prog_10_method_16_code 84 = .ok (.lload_n 1, 1) := by decide +kernel
theorem d_M_isName_85 : decode prog_10_method_16_code 85 = .ok (.iload 5, 2) := by decide +kernel
theorem d_M_isName_87 : decode prog_10_method_16_code 87 = .ok (.i2l, 1) := by decide +kernel
theorem d_M_isName_88 : decode prog_10_method_16_code 88 = .ok (.ladd, 1) := by decide +kernel
theorem d_M_isName_89 : decode prog_10_method_16_code 89 = .ok (.invokevirtual 100, 3) := by decide +kernel
theorem d_M_isName_92 : decode prog_10_method_16_code 92 = .ok (.bipush 46, 2) := by decide +kernel
theorem d_M_isName_94 : decode prog_10_method_16_code 94 = .ok (.if_icmp .eq 39, 3) := by decide +kernel
theorem d_M_isName_97 : decode prog_10_method_16_code 97 = .ok (.iload 8, 2) := by decide +kernel
theorem d_M_isName_99 : decode prog_10_method_16_code 99 = .ok (.iconst 2, 1) := by decide +kernel
theorem d_M_isName_100 : decode prog_10_method_16_code 100 = .ok (.if_icmp .ne 37, 3) := by decide +kernel
theorem d_M_isName_103 : decode prog_10_method_16_code 103 = .ok (.aload_n 0, 1) := by decide +kernel
theorem d_M_isName_104 : decode prog_10_method_16_code 104 = .ok (.lload_n 1, 1) := by decide +kernel
theorem d_M_isName_105 : decode prog_10_method_16_code 105 = .ok (.iload 5, 2) := by decide +kernel
theorem d_M_isName_107 : decode prog_10_method_16_code 107 = .ok (.i2l, 1) := by decide +kernel
theorem d_M_isName_108 : decode prog_10_method_16_code 108 = .ok (.ladd, 1) := by decide +kernel
theorem d_M_isName_109 : decode prog_10_method_16_code 109 = .ok (.invokevirtual 100, 3) := by decide +kernel
theorem d_M_isName_112 : decode prog_10_method_16_code 112 = .ok (.bipush 46, 2) := by decide +kernel
theorem d_M_isName_114 : decode prog_10_method_16_code 114 = .ok (.if_icmp .ne 23, 3) := by decide +kernel
theorem d_M_isName_117 : decode prog_10_method_16_code 117 = .ok (.aload_n 0, 1) := by decide +kernel
theorem d_M_isName_118 : decode prog_10_method_16_code 118 = .ok (.lload_n 1, 1) := by decide +kernel
theorem d_M_isName_119 : decode prog_10_method_16_code 119 = .ok (.iload 5, 2) := by decide +kernel
theorem d_M_isName_121 : decode prog_10_method_16_code 121 = .ok (.i2l, 1) := by decide +kernel
theorem d_M_isName_122 : decode prog_10_method_16_code 122 = .ok (.ladd, 1) := by decide +kernel
theorem d_M_isName_123 : decode prog_10_method_16_code 123 = .ok (.lconst 1, 1) := by decide +kernel
theorem d_M_isName_124 : decode prog_10_method_16_code 124 = .ok (.ladd, 1) := by decide +kernel
theorem d_M_isName_125 : decode prog_10_method_16_code 125 = .ok (.invokevirtual 100, 3) := by decide +kernel
theorem d_M_isName_128 : decode prog_10_method_16_code 128 = .ok (.bipush 46, 2) := by decide +kernel
theorem d_M_isName_130 : decode prog_10_method_16_code 130 = .ok (.if_icmp .ne 7, 3) := by decide +kernel
theorem d_M_isName_133 : decode prog_10_method_16_code 133 = .ok (.iconst 1, 1) := by decide +kernel
theorem d_M_isName_134 : decode prog_10_method_16_code 134 = .ok (.goto 4, 3) := by decide +kernel
theorem d_M_isName_137 : decode prog_10_method_16_code 137 = .ok (.iconst 0, 1) := by decide +kernel
theorem d_M_isName_138 : decode prog_10_method_16_code 138 = .ok (.istore 9, 2) := by decide +kernel
theorem d_M_isName_140 : decode prog_10_method_16_code 140 = .ok (.iload 8, 2) := by decide +kernel
theorem d_M_isName_142 : decode prog_10_method_16_code 142 = .ok (.ifCond .ne 14, 3) := by decide +kernel
theorem d_M_isName_145 : decode prog_10_method_16_code 145 = .ok (.iload 6, 2) := by decide +kernel
theorem d_M_isName_147 : decode prog_10_method_16_code 147 = .ok (.iload_n 3, 1) := by decide +kernel
theorem d_M_isName_148 : decode prog_10_method_16_code 148 = .ok (.if_icmp .lt 13, 3) := by decide +kernel
theorem d_M_isName_151 : decode prog_10_method_16_code 151 = .ok (.iload 6, 2) := by decide +kernel
theorem d_M_isName_153 : decode prog_10_method_16_code 153 = .ok (.ifCond .eq 8, 3) := by decide +kernel
theorem d_M_isName_156 : decode prog_10_method_16_code 156 = .ok (.iload 9, 2) := by decide +kernel
theorem d_M_isName_158 : decode prog_10_method_16_code 158 = .ok (.ifCond .eq 5, 3) := by decide +kernel
theorem d_M_isName_161 : decode prog_10_method_16_code 161 = .ok (.iconst 0, 1) := by decide +kernel
theorem d_M_isName_162 : decode prog_10_method_16_code 162 = .ok (.ireturn, 1) := by decide +kernel
theorem d_M_isName_163 : decode prog_10_method_16_code 163 = .ok (.iload 4, 2) := by decide +kernel
theorem d_M_isName_165 : decode prog_10_method_16_code 165 = .ok (.iload 8, 2) := by decide +kernel
theorem d_M_isName_167 : decode prog_10_method_16_code 167 = .ok (.ifCond .le 7, 3) := by decide +kernel
theorem d_M_isName_170 : decode prog_10_method_16_code 170 = .ok (.iconst 1, 1) := by decide +kernel
theorem d_M_isName_171 : decode prog_10_method_16_code 171 = .ok (.goto 4, 3) := by decide +kernel
theorem d_M_isName_174 : decode prog_10_method_16_code 174 = .ok (.iconst 0, 1) := by decide +kernel
theorem d_M_isName_175 : decode prog_10_method_16_code 175 = .ok (.iadd, 1) := by decide +kernel
theorem d_M_isName_176 : decode prog_10_method_16_code 176 = .ok (.istore 4, 2) := by decide +kernel
theorem d_M_isName_178 : decode prog_10_method_16_code 178 = .ok (.iload 6, 2) := by decide +kernel
theorem d_M_isName_180 : decode prog_10_method_16_code 180 = .ok (.iconst 1, 1) := by decide +kernel
theorem d_M_isName_181 : decode prog_10_method_16_code 181 = .ok (.iadd, 1) := by decide +kernel
theorem d_M_isName_182 : decode prog_10_method_16_code 182 = .ok (.istore 5, 2) := by decide +kernel
theorem d_M_isName_184 : decode prog_10_method_16_code 184 = .ok (.iinc 6 1, 3) := by decide +kernel
theorem d_M_isName_187 : decode prog_10_method_16_code 187 = .ok (.goto (-165), 3) := by decide +kernel
theorem d_M_isName_190 : decode prog_10_method_16_code 190 = .ok (.iload 4, 2) := by decide +kernel
theorem d_M_isName_192 : decode prog_10_method_16_code 192 = .ok (.bipush 8, 2) := by decide +kernel
theorem d_M_isName_194 : decode prog_10_method_16_code 194 = .ok (.if_icmp .gt 7, 3) := by decide +kernel
theorem d_M_isName_197 : decode prog_10_method_16_code 197 = .ok (.iconst 1, 1) := by decide +kernel
theorem d_M_isName_198 : decode prog_10_method_16_code 198 = .ok (.goto 4, 3) := by decide +kernel
theorem d_M_isName_201 : decode prog_10_method_16_code 201 = .ok (.iconst 0, 1) := by decide +kernel
theorem d_M_isName_202 : decode prog_10_method_16_code 202 = .ok (.ireturn, 1) := by decide +kernel
theorem d_M_isOver_0 : decode prog_10_method_23_code 0 = .ok (.iconst 0, 1) := by decide +kernel
theorem d_M_isOver_1 : decode prog_10_method_23_code 1 = .ok (.istore_n 2, 1) := by decide +kernel
theorem d_M_isOver_2 : decode prog_10_method_23_code 2 = .ok (.iload_n 2, 1) := by decide +kernel
theorem d_M_isOver_3 : decode prog_10_method_23_code 3 = .ok (.iload_n 1, 1) := by decide +kernel
theorem d_M_isOver_4 : decode prog_10_method_23_code 4 = .ok (.if_icmp .ge 41, 3) := by decide +kernel
theorem d_M_isOver_7 : decode prog_10_method_23_code 7 = .ok (.aload_n 0, 1) := by decide +kernel
theorem d_M_isOver_8 : decode prog_10_method_23_code 8 = .ok (.getfield 40, 3) := by decide +kernel
theorem d_M_isOver_11 : decode prog_10_method_23_code 11 = .ok (.iload_n 1, 1) := by decide +kernel
theorem d_M_isOver_12 : decode prog_10_method_23_code 12 = .ok (.iaload, 1) := by decide +kernel
theorem d_M_isOver_13 : decode prog_10_method_23_code 13 = .ok (.aload_n 0, 1) := by decide +kernel
theorem d_M_isOver_14 : decode prog_10_method_23_code 14 = .ok (.getfield 43, 3) := by decide +kernel
theorem d_M_isOver_17 : decode prog_10_method_23_code 17 = .ok (.iload_n 2, 1) := by decide +kernel
theorem d_M_isOver_18 : decode prog_10_method_23_code 18 = .ok (.iaload, 1) := by decide +kernel
theorem d_M_isOver_19 : decode prog_10_method_23_code 19 = .ok (.if_icmp .ge 20, 3) := by decide +kernel
theorem d_M_isOver_22 : decode prog_10_method_23_code 22 = .ok (.aload_n 0, 1) := by decide +kernel
theorem d_M_isOver_23 : decode prog_10_method_23_code 23 = .ok (.getfield 40, 3) := by decide +kernel
theorem d_M_isOver_26 : decode prog_10_method_23_code 26 = .ok (.iload_n 2, 1) := by decide +kernel
theorem d_M_isOver_27 : decode prog_10_method_23_code 27 = .ok (.iaload, 1) := by decide +kernel
theorem d_M_isOver_28 : decode prog_10_method_23_code 28 = .ok (.aload_n 0, 1) := by decide +kernel
theorem d_M_isOver_29 : decode prog_10_method_23_code 29 = .ok (.getfield 43, 3) := by decide +kernel
theorem d_M_isOver_32 : decode prog_10_method_23_code 32 = .ok (.iload_n 1, 1) := by decide +kernel
theorem d_M_isOver_33 : decode prog_10_method_23_code 33 = .ok (.iaload, 1) := by decide +kernel
theorem d_M_isOver_34 : decode prog_10_method_23_code 34 = .ok (.if_icmp .ge 5, 3) := by decide +kernel
theorem d_M_isOver_37 : decode prog_10_method_23_code 37 = .ok (.iconst 1, 1) := by decide +kernel
theorem d_M_isOver_38 : decode prog_10_method_23_code 38 = .ok (.ireturn, 1) := by decide +kernel
theorem d_M_isOver_39 : decode prog_10_method_23_code 39 = .ok (.iinc 2 1, 3) := by decide +kernel
theorem d_M_isOver_42 : decode prog_10_method_23_code 42 = .ok (.goto (-40), 3) := by decide +kernel
theorem d_M_isOver_45 : decode prog_10_method_23_code 45 = .ok (.iconst 0, 1) := by decide +kernel
theorem d_M_isOver_46 : decode prog_10_method_23_code 46 = .ok (.ireturn, 1) := by decide +kernel
theorem d_M_isPlain_0 : decode prog_10_method_15_code 0 = .ok (.iload_n 0, 1) := by decide +kernel
theorem d_M_isPlain_1 : decode prog_10_method_15_code 1 = .ok (.bipush 32, 2) := by decide +kernel
theorem d_M_isPlain_3 : decode prog_10_method_15_code 3 = .ok (.if_icmp .lt 9, 3) := by decide +kernel
theorem d_M_isPlain_6 : decode prog_10_method_15_code 6 = .ok (.iload_n 0, 1) := by decide +kernel
theorem d_M_isPlain_7 : decode prog_10_method_15_code 7 = .ok (.bipush 126, 2) := by decide +kernel
theorem d_M_isPlain_9 : decode prog_10_method_15_code 9 = .ok (.if_icmp .le 5, 3) := by decide +kernel
theorem d_M_isPlain_12 : decode prog_10_method_15_code 12 = .ok (.iconst 0, 1) := by decide +kernel
theorem d_M_isPlain_13 : decode prog_10_method_15_code 13 = .ok (.ireturn, 1) := by decide +kernel
theorem d_M_isPlain_14 : decode prog_10_method_15_code 14 = .ok (.iload_n 0, 1) := by decide +kernel
theorem d_M_isPlain_15 : decode prog_10_method_15_code 15 = .ok (.bipush 92, 2) := by decide +kernel
theorem d_M_isPlain_17 : decode prog_10_method_15_code 17 = .ok (.if_icmp .eq 49, 3) := by decide +kernel
theorem d_M_isPlain_20 : decode prog_10_method_15_code 20 = .ok (.iload_n 0, 1) := by decide +kernel
theorem d_M_isPlain_21 : decode prog_10_method_15_code 21 = .ok (.bipush 58, 2) := by decide +kernel
theorem d_M_isPlain_23 : decode prog_10_method_15_code 23 = .ok (.if_icmp .eq 43, 3) := by decide +kernel
theorem d_M_isPlain_26 : decode prog_10_method_15_code 26 = .ok (.iload_n 0, 1) := by decide +kernel
theorem d_M_isPlain_27 : decode prog_10_method_15_code 27 = .ok (.bipush 42, 2) := by decide +kernel
theorem d_M_isPlain_29 : decode prog_10_method_15_code 29 = .ok (.if_icmp .eq 37, 3) := by decide +kernel
theorem d_M_isPlain_32 : decode prog_10_method_15_code 32 = .ok (.iload_n 0, 1) := by decide +kernel
theorem d_M_isPlain_33 : decode prog_10_method_15_code 33 = .ok (.bipush 63, 2) := by decide +kernel
theorem d_M_isPlain_35 : decode prog_10_method_15_code 35 = .ok (.if_icmp .eq 31, 3) := by decide +kernel
theorem d_M_isPlain_38 : decode prog_10_method_15_code 38 = .ok (.iload_n 0, 1) := by decide +kernel
theorem d_M_isPlain_39 : decode prog_10_method_15_code 39 = .ok (.bipush 34, 2) := by decide +kernel
theorem d_M_isPlain_41 : decode prog_10_method_15_code 41 = .ok (.if_icmp .eq 25, 3) := by decide +kernel
theorem d_M_isPlain_44 : decode prog_10_method_15_code 44 = .ok (.iload_n 0, 1) := by decide +kernel
theorem d_M_isPlain_45 : decode prog_10_method_15_code 45 = .ok (.bipush 60, 2) := by decide +kernel
theorem d_M_isPlain_47 : decode prog_10_method_15_code 47 = .ok (.if_icmp .eq 19, 3) := by decide +kernel
theorem d_M_isPlain_50 : decode prog_10_method_15_code 50 = .ok (.iload_n 0, 1) := by decide +kernel
theorem d_M_isPlain_51 : decode prog_10_method_15_code 51 = .ok (.bipush 62, 2) := by decide +kernel
theorem d_M_isPlain_53 : decode prog_10_method_15_code 53 = .ok (.if_icmp .eq 13, 3) := by decide +kernel
theorem d_M_isPlain_56 : decode prog_10_method_15_code 56 = .ok (.iload_n 0, 1) := by decide +kernel
theorem d_M_isPlain_57 : decode prog_10_method_15_code 57 = .ok (.bipush 124, 2) := by decide +kernel
theorem d_M_isPlain_59 : decode prog_10_method_15_code 59 = .ok (.if_icmp .eq 7, 3) := by decide +kernel
theorem d_M_isPlain_62 : decode prog_10_method_15_code 62 = .ok (.iconst 1, 1) := by decide +kernel
theorem d_M_isPlain_63 : decode prog_10_method_15_code 63 = .ok (.goto 4, 3) := by decide +kernel
theorem d_M_isPlain_66 : decode prog_10_method_15_code 66 = .ok (.iconst 0, 1) := by decide +kernel
theorem d_M_isPlain_67 : decode prog_10_method_15_code 67 = .ok (.ireturn, 1) := by decide +kernel
theorem d_M_isRight_0 : decode prog_10_method_33_code 0 = .ok (.lconst 0, 1) := by decide +kernel
theorem d_M_isRight_1 : decode prog_10_method_33_code 1 = .ok (.lstore 4, 2) := by decide +kernel
theorem d_M_isRight_3 : decode prog_10_method_33_code 3 = .ok (.iconst 0, 1) := by decide +kernel
theorem d_M_isRight_4 : decode prog_10_method_33_code 4 = .ok (.istore 6, 2) := by decide +kernel
theorem d_M_isRight_6 : decode prog_10_method_33_code 6 = .ok (.iconst 0, 1) := by decide +kernel
theorem d_M_isRight_7 : decode prog_10_method_33_code 7 = .ok (.istore 7, 2) := by decide +kernel
theorem d_M_isRight_9 : decode prog_10_method_33_code 9 = .ok (.iconst 0, 1) := by decide +kernel
theorem d_M_isRight_10 : decode prog_10_method_33_code 10 = .ok (.istore 8, 2) := by decide +kernel
theorem d_M_isRight_12 : decode prog_10_method_33_code 12 = .ok (.iload 8, 2) := by decide +kernel
theorem d_M_isRight_14 : decode prog_10_method_33_code 14 = .ok (.iload_n 2, 1) := by decide +kernel
theorem d_M_isRight_15 : decode prog_10_method_33_code 15 = .ok (.if_icmp .ge 56, 3) := by decide +kernel
theorem d_M_isRight_18 : decode prog_10_method_33_code 18 = .ok (.aload_n 0, 1) := by decide +kernel
theorem d_M_isRight_19 : decode prog_10_method_33_code 19 = .ok (.iload_n 1, 1) := by decide +kernel
theorem d_M_isRight_20 : decode prog_10_method_33_code 20 = .ok (.iload 8, 2) := by decide +kernel
theorem d_M_isRight_22 : decode prog_10_method_33_code 22 = .ok (.iadd, 1) := by decide +kernel
theorem d_M_isRight_23 : decode prog_10_method_33_code 23 = .ok (.iaload, 1) := by decide +kernel
theorem d_M_isRight_24 : decode prog_10_method_33_code 24 = .ok (.istore 9, 2) := by decide +kernel
theorem d_M_isRight_26 : decode prog_10_method_33_code 26 = .ok (.iload 9, 2) := by decide +kernel
theorem d_M_isRight_28 : decode prog_10_method_33_code 28 = .ok (.ifCond .ne 6, 3) := by decide +kernel
theorem d_M_isRight_31 : decode prog_10_method_33_code 31 = .ok (.goto 34, 3) := by decide +kernel
theorem d_M_isRight_34 : decode prog_10_method_33_code 34 = .ok (.lload 4, 2) := by decide +kernel
theorem d_M_isRight_36 : decode prog_10_method_33_code 36 = .ok (.lconst 1, 1) := by decide +kernel
theorem d_M_isRight_37 : decode prog_10_method_33_code 37 = .ok (.bipush 15, 2) := by decide +kernel
theorem d_M_isRight_39 : decode prog_10_method_33_code 39 = .ok (.iload 9, 2) := by decide +kernel
theorem d_M_isRight_41 : decode prog_10_method_33_code 41 = .ok (.isub, 1) := by decide +kernel
theorem d_M_isRight_42 : decode prog_10_method_33_code 42 = .ok (.lshl, 1) := by decide +kernel
theorem d_M_isRight_43 : decode prog_10_method_33_code 43 = .ok (.ladd, 1) := by decide +kernel
theorem d_M_isRight_44 : decode prog_10_method_33_code 44 = .ok (.lstore 4, 2) := by decide +kernel
theorem d_M_isRight_46 : decode prog_10_method_33_code 46 = .ok (.iinc 6 1, 3) := by decide +kernel
theorem d_M_isRight_49 : decode prog_10_method_33_code 49 = .ok (.iload 7, 2) := by decide +kernel
theorem d_M_isRight_51 : decode prog_10_method_33_code 51 = .ok (.iload 9, 2) := by decide +kernel
theorem d_M_isRight_53 : decode prog_10_method_33_code 53 = .ok (.iconst 1, 1) := by decide +kernel
theorem d_M_isRight_54 : decode prog_10_method_33_code 54 = .ok (.if_icmp .ne 7, 3) := by decide +kernel
theorem d_M_isRight_57 : decode prog_10_method_33_code 57 = .ok (.iconst 1, 1) := by decide +kernel
theorem d_M_isRight_58 : decode prog_10_method_33_code 58 = .ok (.goto 4, 3) := by decide +kernel
theorem d_M_isRight_61 : decode prog_10_method_33_code 61 = .ok (.iconst 0, 1) := by decide +kernel
theorem d_M_isRight_62 : decode prog_10_method_33_code 62 = .ok (.iadd, 1) := by decide +kernel
theorem d_M_isRight_63 : decode prog_10_method_33_code 63 = .ok (.istore 7, 2) := by decide +kernel
theorem d_M_isRight_65 : decode prog_10_method_33_code 65 = .ok (.iinc 8 1, 3) := by decide +kernel
theorem d_M_isRight_68 : decode prog_10_method_33_code 68 = .ok (.goto (-56), 3) := by decide +kernel
theorem d_M_isRight_71 : decode prog_10_method_33_code 71 = .ok (.lload 4, 2) := by decide +kernel
theorem d_M_isRight_73 : decode prog_10_method_33_code 73 = .ok (.ldc2_w 211, 3) := by decide +kernel
theorem d_M_isRight_76 : decode prog_10_method_33_code 76 = .ok (.lcmp, 1) := by decide +kernel
theorem d_M_isRight_77 : decode prog_10_method_33_code 77 = .ok (.ifCond .eq 24, 3) := by decide +kernel
theorem d_M_isRight_80 : decode prog_10_method_33_code 80 = .ok (.iload_n 3, 1) := by decide +kernel
theorem d_M_isRight_81 : decode prog_10_method_33_code 81 = .ok (.ifCond .eq 24, 3) := by decide +kernel
theorem d_M_isRight_84 : decode prog_10_method_33_code 84 = .ok (.iload 6, 2) := by decide +kernel
theorem d_M_isRight_86 : decode prog_10_method_33_code 86 = .ok (.ifCond .eq 15, 3) := by decide +kernel
theorem d_M_isRight_89 : decode prog_10_method_33_code 89 = .ok (.iload 6, 2) := by decide +kernel
theorem d_M_isRight_91 : decode prog_10_method_33_code 91 = .ok (.iconst 1, 1) := by decide +kernel
theorem d_M_isRight_92 : decode prog_10_method_33_code 92 = .ok (.if_icmp .ne 13, 3) := by decide +kernel
theorem d_M_isRight_95 : decode prog_10_method_33_code 95 = .ok (.iload 7, 2) := by decide +kernel
theorem d_M_isRight_97 : decode prog_10_method_33_code 97 = .ok (.iconst 1, 1) := by decide +kernel
theorem d_M_isRight_98 : decode prog_10_method_33_code 98 = .ok (.if_icmp .ne 7, 3) := by decide +kernel
theorem d_M_isRight_101 : decode prog_10_method_33_code 101 = .ok (.iconst 1, 1) := by decide +kernel
theorem d_M_isRight_102 : decode prog_10_method_33_code 102 = .ok (.goto 4, 3) := by decide +kernel
theorem d_M_isRight_105 : decode prog_10_method_33_code 105 = .ok (.iconst 0, 1) := by decide +kernel
theorem d_M_isRight_106 : decode prog_10_method_33_code 106 = .ok (.ireturn, 1) := by decide +kernel
theorem d_M_isThere_0 : decode prog_10_method_46_code 0 = .ok (.iload_n 1, 1) := by decide +kernel
theorem d_M_isThere_1 : decode prog_10_method_46_code 1 = .ok (.ifCond .lt 15, 3) := by decide +kernel
theorem d_M_isThere_4 : decode prog_10_method_46_code 4 = .ok (.iload_n 1, 1) := by decide +kernel
theorem d_M_isThere_5 : decode prog_10_method_46_code 5 = .ok (.aload_n 0, 1) := by decide +kernel
theorem d_M_isThere_6 : decode prog_10_method_46_code 6 = .ok (.getfield 84, 3) := by decide +kernel
theorem d_M_isThere_9 : decode prog_10_method_46_code 9 = .ok (.if_icmp .ge 7, 3) := by decide +kernel
theorem d_M_isThere_12 : decode prog_10_method_46_code 12 = .ok (.iconst 1, 1) := by decide +kernel
theorem d_M_isThere_13 : decode prog_10_method_46_code 13 = .ok (.goto 4, 3) := by decide +kernel
theorem d_M_isThere_16 : decode prog_10_method_46_code 16 = .ok (.iconst 0, 1) := by decide +kernel
theorem d_M_isThere_17 : decode prog_10_method_46_code 17 = .ok (.ireturn, 1) := by decide +kernel
theorem d_M_isTwice_0 : decode prog_10_method_21_code 0 = .ok (.iconst 0, 1) := by decide +kernel
theorem d_M_isTwice_1 : decode prog_10_method_21_code 1 = .ok (.istore_n 2, 1) := by decide +kernel
theorem d_M_isTwice_2 : decode prog_10_method_21_code 2 = .ok (.iload_n 2, 1) := by decide +kernel
theorem d_M_isTwice_3 : decode prog_10_method_21_code 3 = .ok (.iload_n 1, 1) := by decide +kernel
theorem d_M_isTwice_4 : decode prog_10_method_21_code 4 = .ok (.if_icmp .ge 57, 3) := by decide +kernel
theorem d_M_isTwice_7 : decode prog_10_method_21_code 7 = .ok (.aload_n 0, 1) := by decide +kernel
theorem d_M_isTwice_8 : decode prog_10_method_21_code 8 = .ok (.iload_n 1, 1) := by decide +kernel
theorem d_M_isTwice_9 : decode prog_10_method_21_code 9 = .ok (.iload_n 2, 1) := by decide +kernel
theorem d_M_isTwice_10 : decode prog_10_method_21_code 10 = .ok (.iconst 1, 1) := by decide +kernel
theorem d_M_isTwice_11 : decode prog_10_method_21_code 11 = .ok (.invokevirtual 150, 3) := by decide +kernel
theorem d_M_isTwice_14 : decode prog_10_method_21_code 14 = .ok (.ifCond .ne 39, 3) := by decide +kernel
theorem d_M_isTwice_17 : decode prog_10_method_21_code 17 = .ok (.aload_n 0, 1) := by decide +kernel
theorem d_M_isTwice_18 : decode prog_10_method_21_code 18 = .ok (.iload_n 2, 1) := by decide +kernel
theorem d_M_isTwice_19 : decode prog_10_method_21_code 19 = .ok (.invokevirtual 143, 3) := by decide +kernel
theorem d_M_isTwice_22 : decode prog_10_method_21_code 22 = .ok (.ifCond .ne 13, 3) := by decide +kernel
theorem d_M_isTwice_25 : decode prog_10_method_21_code 25 = .ok (.aload_n 0, 1) := by decide +kernel
theorem d_M_isTwice_26 : decode prog_10_method_21_code 26 = .ok (.iload_n 1, 1) := by decide +kernel
theorem d_M_isTwice_27 : decode prog_10_method_21_code 27 = .ok (.iload_n 2, 1) := by decide +kernel
theorem d_M_isTwice_28 : decode prog_10_method_21_code 28 = .ok (.iconst 0, 1) := by decide +kernel
theorem d_M_isTwice_29 : decode prog_10_method_21_code 29 = .ok (.invokevirtual 150, 3) := by decide +kernel
theorem d_M_isTwice_32 : decode prog_10_method_21_code 32 = .ok (.ifCond .ne 21, 3) := by decide +kernel
theorem d_M_isTwice_35 : decode prog_10_method_21_code 35 = .ok (.aload_n 0, 1) := by decide +kernel
theorem d_M_isTwice_36 : decode prog_10_method_21_code 36 = .ok (.iload_n 1, 1) := by decide +kernel
theorem d_M_isTwice_37 : decode prog_10_method_21_code 37 = .ok (.invokevirtual 143, 3) := by decide +kernel
theorem d_M_isTwice_40 : decode prog_10_method_21_code 40 = .ok (.ifCond .ne 15, 3) := by decide +kernel
theorem d_M_isTwice_43 : decode prog_10_method_21_code 43 = .ok (.aload_n 0, 1) := by decide +kernel
theorem d_M_isTwice_44 : decode prog_10_method_21_code 44 = .ok (.iload_n 2, 1) := by decide +kernel
theorem d_M_isTwice_45 : decode prog_10_method_21_code 45 = .ok (.iload_n 1, 1) := by decide +kernel
theorem d_M_isTwice_46 : decode prog_10_method_21_code 46 = .ok (.iconst 0, 1) := by decide +kernel
theorem d_M_isTwice_47 : decode prog_10_method_21_code 47 = .ok (.invokevirtual 150, 3) := by decide +kernel
theorem d_M_isTwice_50 : decode prog_10_method_21_code 50 = .ok (.ifCond .eq 5, 3) := by decide +kernel
theorem d_M_isTwice_53 : decode prog_10_method_21_code 53 = .ok (.iconst 1, 1) := by decide +kernel
theorem d_M_isTwice_54 : decode prog_10_method_21_code 54 = .ok (.ireturn, 1) := by decide +kernel
theorem d_M_isTwice_55 : decode prog_10_method_21_code 55 = .ok (.iinc 2 1, 3) := by decide +kernel
theorem d_M_isTwice_58 : decode prog_10_method_21_code 58 = .ok (.goto (-56), 3) := by decide +kernel
theorem d_M_isTwice_61 : decode prog_10_method_21_code 61 = .ok (.iconst 0, 1) := by decide +kernel
theorem d_M_isTwice_62 : decode prog_10_method_21_code 62 = .ok (.ireturn, 1) := by decide +kernel
theorem d_M_nameByte_0 : decode prog_10_method_17_code 0 = .ok (.aload_n 0, 1) := by decide +kernel
theorem d_M_nameByte_1 : decode prog_10_method_17_code 1 = .ok (.getfield 46, 3) := by decide +kernel
theorem d_M_nameByte_4 : decode prog_10_method_17_code 4 = .ok (.bipush 60, 2) := by decide +kernel
theorem d_M_nameByte_6 : decode prog_10_method_17_code 6 = .ok (.iload_n 1, 1) := by decide +kernel
theorem d_M_nameByte_7 : decode prog_10_method_17_code 7 = .ok (.imul, 1) := by decide +kernel
theorem d_M_nameByte_8 : decode prog_10_method_17_code 8 = .ok (.iload_n 2, 1) := by decide +kernel
theorem d_M_nameByte_9 : decode prog_10_method_17_code 9 = .ok (.iadd, 1) := by decide +kernel
theorem d_M_nameByte_10 : decode prog_10_method_17_code 10 = .ok (.baload, 1) := by decide +kernel
theorem d_M_nameByte_11 : decode prog_10_method_17_code 11 = .ok (.ireturn, 1) := by decide +kernel
theorem d_M_smallOf_0 : decode prog_10_method_36_code 0 = .ok (.iload_n 0, 1) := by decide +kernel
theorem d_M_smallOf_1 : decode prog_10_method_36_code 1 = .ok (.iconst 3, 1) := by decide +kernel
theorem d_M_smallOf_2 : decode prog_10_method_36_code 2 = .ok (.if_icmp .ge 8, 3) := by decide +kernel
theorem d_M_smallOf_5 : decode prog_10_method_36_code 5 = .ok (.bipush 16, 2) := by decide +kernel
theorem d_M_smallOf_7 : decode prog_10_method_36_code 7 = .ok (.iload_n 0, 1) := by decide +kernel
theorem d_M_smallOf_8 : decode prog_10_method_36_code 8 = .ok (.iadd, 1) := by decide +kernel
theorem d_M_smallOf_9 : decode prog_10_method_36_code 9 = .ok (.ireturn, 1) := by decide +kernel
theorem d_M_smallOf_10 : decode prog_10_method_36_code 10 = .ok (.iload_n 0, 1) := by decide +kernel
theorem d_M_smallOf_11 : decode prog_10_method_36_code 11 = .ok (.iconst 3, 1) := by decide +kernel
theorem d_M_smallOf_12 : decode prog_10_method_36_code 12 = .ok (.if_icmp .ne 5, 3) := by decide +kernel
theorem d_M_smallOf_15 : decode prog_10_method_36_code 15 = .ok (.iconst 0, 1) := by decide +kernel
theorem d_M_smallOf_16 : decode prog_10_method_36_code 16 = .ok (.ireturn, 1) := by decide +kernel
theorem d_M_smallOf_17 : decode prog_10_method_36_code 17 = .ok (.iload_n 0, 1) := by decide +kernel
theorem d_M_smallOf_18 : decode prog_10_method_36_code 18 = .ok (.iconst 4, 1) := by decide +kernel
theorem d_M_smallOf_19 : decode prog_10_method_36_code 19 = .ok (.isub, 1) := by decide +kernel
theorem d_M_smallOf_20 : decode prog_10_method_36_code 20 = .ok (.iconst 1, 1) := by decide +kernel
theorem d_M_smallOf_21 : decode prog_10_method_36_code 21 = .ok (.iadd, 1) := by decide +kernel
theorem d_M_smallOf_22 : decode prog_10_method_36_code 22 = .ok (.iconst 2, 1) := by decide +kernel
theorem d_M_smallOf_23 : decode prog_10_method_36_code 23 = .ok (.idiv, 1) := by decide +kernel
theorem d_M_smallOf_24 : decode prog_10_method_36_code 24 = .ok (.istore_n 1, 1) := by decide +kernel
theorem d_M_smallOf_25 : decode prog_10_method_36_code 25 = .ok (.iload_n 0, 1) := by decide +kernel
theorem d_M_smallOf_26 : decode prog_10_method_36_code 26 = .ok (.iconst 2, 1) := by decide +kernel
theorem d_M_smallOf_27 : decode prog_10_method_36_code 27 = .ok (.irem, 1) := by decide +kernel
theorem d_M_smallOf_28 : decode prog_10_method_36_code 28 = .ok (.ifCond .ne 10, 3) := by decide +kernel
theorem d_M_smallOf_31 : decode prog_10_method_36_code 31 = .ok (.bipush 8, 2) := by decide +kernel
theorem d_M_smallOf_33 : decode prog_10_method_36_code 33 = .ok (.iload_n 1, 1) := by decide +kernel
theorem d_M_smallOf_34 : decode prog_10_method_36_code 34 = .ok (.iadd, 1) := by decide +kernel
theorem d_M_smallOf_35 : decode prog_10_method_36_code 35 = .ok (.goto 7, 3) := by decide +kernel
theorem d_M_smallOf_38 : decode prog_10_method_36_code 38 = .ok (.bipush 8, 2) := by decide +kernel
theorem d_M_smallOf_40 : decode prog_10_method_36_code 40 = .ok (.iload_n 1, 1) := by decide +kernel
theorem d_M_smallOf_41 : decode prog_10_method_36_code 41 = .ok (.isub, 1) := by decide +kernel
theorem d_M_smallOf_42 : decode prog_10_method_36_code 42 = .ok (.ireturn, 1) := by decide +kernel
theorem d_M_sumOf_0 : decode prog_10_method_44_code 0 = .ok (.iconst (-1), 1) := by decide +kernel
theorem d_M_sumOf_1 : decode prog_10_method_44_code 1 = .ok (.istore_n 2, 1) := by decide +kernel
theorem d_M_sumOf_2 : decode prog_10_method_44_code 2 = .ok (.iconst 0, 1) := by decide +kernel
theorem d_M_sumOf_3 : decode prog_10_method_44_code 3 = .ok (.istore_n 3, 1) := by decide +kernel
theorem d_M_sumOf_4 : decode prog_10_method_44_code 4 = .ok (.iload_n 3, 1) := by decide +kernel
theorem d_M_sumOf_5 : decode prog_10_method_44_code 5 = .ok (.aload_n 0, 1) := by decide +kernel
theorem d_M_sumOf_6 : decode prog_10_method_44_code 6 = .ok (.getfield 58, 3) := by decide +kernel
theorem d_M_sumOf_9 : decode prog_10_method_44_code 9 = .ok (.iload_n 1, 1) := by decide +kernel
theorem d_M_sumOf_10 : decode prog_10_method_44_code 10 = .ok (.iaload, 1) := by decide +kernel
theorem d_M_sumOf_11 : decode prog_10_method_44_code 11 = .ok (.if_icmp .ge 66, 3) := by decide +kernel
theorem d_M_sumOf_14 : decode prog_10_method_44_code 14 = .ok (.iload_n 2, 1) := by decide +kernel
theorem d_M_sumOf_15 : decode prog_10_method_44_code 15 = .ok (.aload_n 0, 1) := by decide +kernel
theorem d_M_sumOf_16 : decode prog_10_method_44_code 16 = .ok (.getfield 62, 3) := by decide +kernel
theorem d_M_sumOf_19 : decode prog_10_method_44_code 19 = .ok (.aload_n 0, 1) := by decide +kernel
theorem d_M_sumOf_20 : decode prog_10_method_44_code 20 = .ok (.getfield 55, 3) := by decide +kernel
theorem d_M_sumOf_23 : decode prog_10_method_44_code 23 = .ok (.iload_n 1, 1) := by decide +kernel
theorem d_M_sumOf_24 : decode prog_10_method_44_code 24 = .ok (.iaload, 1) := by decide +kernel
theorem d_M_sumOf_25 : decode prog_10_method_44_code 25 = .ok (.iload_n 3, 1) := by decide +kernel
theorem d_M_sumOf_26 : decode prog_10_method_44_code 26 = .ok (.iadd, 1) := by decide +kernel
theorem d_M_sumOf_27 : decode prog_10_method_44_code 27 = .ok (.baload, 1) := by decide +kernel
theorem d_M_sumOf_28 : decode prog_10_method_44_code 28 = .ok (.sipush 255, 3) := by decide +kernel
theorem d_M_sumOf_31 : decode prog_10_method_44_code 31 = .ok (.iand, 1) := by decide +kernel
theorem d_M_sumOf_32 : decode prog_10_method_44_code 32 = .ok (.ixor, 1) := by decide +kernel
theorem d_M_sumOf_33 : decode prog_10_method_44_code 33 = .ok (.istore_n 2, 1) := by decide +kernel
theorem d_M_sumOf_34 : decode prog_10_method_44_code 34 = .ok (.iconst 0, 1) := by decide +kernel
theorem d_M_sumOf_35 : decode prog_10_method_44_code 35 = .ok (.istore 4, 2) := by decide +kernel
theorem d_M_sumOf_37 : decode prog_10_method_44_code 37 = .ok (.iload 4, 2) := by decide +kernel
theorem d_M_sumOf_39 : decode prog_10_method_44_code 39 = .ok (.bipush 8, 2) := by decide +kernel
theorem d_M_sumOf_41 : decode prog_10_method_44_code 41 = .ok (.if_icmp .ge 30, 3) := by decide +kernel
theorem d_M_sumOf_44 : decode prog_10_method_44_code 44 = .ok (.iload_n 2, 1) := by decide +kernel
theorem d_M_sumOf_45 : decode prog_10_method_44_code 45 = .ok (.iconst 1, 1) := by decide +kernel
theorem d_M_sumOf_46 : decode prog_10_method_44_code 46 = .ok (.iand, 1) := by decide +kernel
theorem d_M_sumOf_47 : decode prog_10_method_44_code 47 = .ok (.iconst 1, 1) := by decide +kernel
theorem d_M_sumOf_48 : decode prog_10_method_44_code 48 = .ok (.if_icmp .ne 13, 3) := by decide +kernel
theorem d_M_sumOf_51 : decode prog_10_method_44_code 51 = .ok (.iload_n 2, 1) := by decide +kernel
theorem d_M_sumOf_52 : decode prog_10_method_44_code 52 = .ok (.iconst 1, 1) := by decide +kernel
theorem d_M_sumOf_53 : decode prog_10_method_44_code 53 = .ok (.iushr, 1) := by decide +kernel
theorem d_M_sumOf_54 : decode prog_10_method_44_code 54 = .ok (.ldc_w 263, 3) := by decide +kernel
theorem d_M_sumOf_57 : decode prog_10_method_44_code 57 = .ok (.ixor, 1) := by decide +kernel
theorem d_M_sumOf_58 : decode prog_10_method_44_code 58 = .ok (.goto 6, 3) := by decide +kernel
theorem d_M_sumOf_61 : decode prog_10_method_44_code 61 = .ok (.iload_n 2, 1) := by decide +kernel
theorem d_M_sumOf_62 : decode prog_10_method_44_code 62 = .ok (.iconst 1, 1) := by decide +kernel
theorem d_M_sumOf_63 : decode prog_10_method_44_code 63 = .ok (.iushr, 1) := by decide +kernel
theorem d_M_sumOf_64 : decode prog_10_method_44_code 64 = .ok (.istore_n 2, 1) := by decide +kernel
theorem d_M_sumOf_65 : decode prog_10_method_44_code 65 = .ok (.iinc 4 1, 3) := by decide +kernel
theorem d_M_sumOf_68 : decode prog_10_method_44_code 68 = .ok (.goto (-31), 3) := by decide +kernel
theorem d_M_sumOf_71 : decode prog_10_method_44_code 71 = .ok (.iinc 3 1, 3) := by decide +kernel
theorem d_M_sumOf_74 : decode prog_10_method_44_code 74 = .ok (.goto (-70), 3) := by decide +kernel
theorem d_M_sumOf_77 : decode prog_10_method_44_code 77 = .ok (.iload_n 2, 1) := by decide +kernel
theorem d_M_sumOf_78 : decode prog_10_method_44_code 78 = .ok (.iconst (-1), 1) := by decide +kernel
theorem d_M_sumOf_79 : decode prog_10_method_44_code 79 = .ok (.ixor, 1) := by decide +kernel
theorem d_M_sumOf_80 : decode prog_10_method_44_code 80 = .ok (.ireturn, 1) := by decide +kernel
theorem d_M_thrown_0 : decode prog_10_method_2_code 0 = .ok (.aload_n 0, 1) := by decide +kernel
theorem d_M_thrown_1 : decode prog_10_method_2_code 1 = .ok (.getfield 77, 3) := by decide +kernel
theorem d_M_thrown_4 : decode prog_10_method_2_code 4 = .ok (.ireturn, 1) := by decide +kernel
theorem d_M_two_0 : decode prog_10_method_9_code 0 = .ok (.aload_n 0, 1) := by decide +kernel
theorem d_M_two_1 : decode prog_10_method_9_code 1 = .ok (.lload_n 1, 1) := by decide +kernel
theorem d_M_two_2 : decode prog_10_method_9_code 2 = .ok (.invokevirtual 100, 3) := by decide +kernel
theorem d_M_two_5 : decode prog_10_method_9_code 5 = .ok (.aload_n 0, 1) := by decide +kernel
theorem d_M_two_6 : decode prog_10_method_9_code 6 = .ok (.lload_n 1, 1) := by decide +kernel
theorem d_M_two_7 : decode prog_10_method_9_code 7 = .ok (.lconst 1, 1) := by decide +kernel
theorem d_M_two_8 : decode prog_10_method_9_code 8 = .ok (.ladd, 1) := by decide +kernel
theorem d_M_two_9 : decode prog_10_method_9_code 9 = .ok (.invokevirtual 100, 3) := by decide +kernel
theorem d_M_two_12 : decode prog_10_method_9_code 12 = .ok (.bipush 8, 2) := by decide +kernel
theorem d_M_two_14 : decode prog_10_method_9_code 14 = .ok (.ishl, 1) := by decide +kernel
theorem d_M_two_15 : decode prog_10_method_9_code 15 = .ok (.ior, 1) := by decide +kernel
theorem d_M_two_16 : decode prog_10_method_9_code 16 = .ok (.ireturn, 1) := by decide +kernel
theorem d_M_wrongNumber_0 : decode prog_10_method_14_code 0 = .ok (.aload_n 0, 1) := by decide +kernel
theorem d_M_wrongNumber_1 : decode prog_10_method_14_code 1 = .ok (.lload_n 1, 1) := by decide +kernel
theorem d_M_wrongNumber_2 : decode prog_10_method_14_code 2 = .ok (.ldc2_w 115, 3) := by decide +kernel
theorem d_M_wrongNumber_5 : decode prog_10_method_14_code 5 = .ok (.ladd, 1) := by decide +kernel
theorem d_M_wrongNumber_6 : decode prog_10_method_14_code 6 = .ok (.invokevirtual 104, 3) := by decide +kernel
theorem d_M_wrongNumber_9 : decode prog_10_method_14_code 9 = .ok (.bipush 20, 2) := by decide +kernel
theorem d_M_wrongNumber_11 : decode prog_10_method_14_code 11 = .ok (.if_icmp .le 9, 3) := by decide +kernel
theorem d_M_wrongNumber_14 : decode prog_10_method_14_code 14 = .ok (.lload_n 1, 1) := by decide +kernel
theorem d_M_wrongNumber_15 : decode prog_10_method_14_code 15 = .ok (.ldc2_w 115, 3) := by decide +kernel
theorem d_M_wrongNumber_18 : decode prog_10_method_14_code 18 = .ok (.ladd, 1) := by decide +kernel
theorem d_M_wrongNumber_19 : decode prog_10_method_14_code 19 = .ok (.lreturn, 1) := by decide +kernel
theorem d_M_wrongNumber_20 : decode prog_10_method_14_code 20 = .ok (.aload_n 0, 1) := by decide +kernel
theorem d_M_wrongNumber_21 : decode prog_10_method_14_code 21 = .ok (.lload_n 1, 1) := by decide +kernel
theorem d_M_wrongNumber_22 : decode prog_10_method_14_code 22 = .ok (.ldc2_w 117, 3) := by decide +kernel
theorem d_M_wrongNumber_25 : decode prog_10_method_14_code 25 = .ok (.ladd, 1) := by decide +kernel
theorem d_M_wrongNumber_26 : decode prog_10_method_14_code 26 = .ok (.invokevirtual 104, 3) := by decide +kernel
theorem d_M_wrongNumber_29 : decode prog_10_method_14_code 29 = .ok (.sipush (-2055), 3) := by decide +kernel
theorem d_M_wrongNumber_32 : decode prog_10_method_14_code 32 = .ok (.iand, 1) := by decide +kernel
theorem d_M_wrongNumber_33 : decode prog_10_method_14_code 33 = .ok (.ifCond .eq 9, 3) := by decide +kernel
theorem d_M_wrongNumber_36 : decode prog_10_method_14_code 36 = .ok (.lload_n 1, 1) := by decide +kernel
theorem d_M_wrongNumber_37 : decode prog_10_method_14_code 37 = .ok (.ldc2_w 117, 3) := by decide +kernel
theorem d_M_wrongNumber_40 : decode prog_10_method_14_code 40 = .ok (.ladd, 1) := by decide +kernel
theorem d_M_wrongNumber_41 : decode prog_10_method_14_code 41 = .ok (.lreturn, 1) := by decide +kernel
theorem d_M_wrongNumber_42 : decode prog_10_method_14_code 42 = .ok (.aload_n 0, 1) := by decide +kernel
theorem d_M_wrongNumber_43 : decode prog_10_method_14_code 43 = .ok (.lload_n 1, 1) := by decide +kernel
theorem d_M_wrongNumber_44 : decode prog_10_method_14_code 44 = .ok (.ldc2_w 119, 3) := by decide +kernel
theorem d_M_wrongNumber_47 : decode prog_10_method_14_code 47 = .ok (.ladd, 1) := by decide +kernel
theorem d_M_wrongNumber_48 : decode prog_10_method_14_code 48 = .ok (.invokevirtual 104, 3) := by decide +kernel
theorem d_M_wrongNumber_51 : decode prog_10_method_14_code 51 = .ok (.istore_n 3, 1) := by decide +kernel
theorem d_M_wrongNumber_52 : decode prog_10_method_14_code 52 = .ok (.iload_n 3, 1) := by decide +kernel
theorem d_M_wrongNumber_53 : decode prog_10_method_14_code 53 = .ok (.ifCond .eq 15, 3) := by decide +kernel
theorem d_M_wrongNumber_56 : decode prog_10_method_14_code 56 = .ok (.iload_n 3, 1) := by decide +kernel
theorem d_M_wrongNumber_57 : decode prog_10_method_14_code 57 = .ok (.bipush 8, 2) := by decide +kernel
theorem d_M_wrongNumber_59 : decode prog_10_method_14_code 59 = .ok (.if_icmp .eq 9, 3) := by decide +kernel
theorem d_M_wrongNumber_62 : decode prog_10_method_14_code 62 = .ok (.lload_n 1, 1) := by decide +kernel
theorem d_M_wrongNumber_63 : decode prog_10_method_14_code 63 = .ok (.ldc2_w 119, 3) := by decide +kernel
theorem d_M_wrongNumber_66 : decode prog_10_method_14_code 66 = .ok (.ladd, 1) := by decide +kernel
theorem d_M_wrongNumber_67 : decode prog_10_method_14_code 67 = .ok (.lreturn, 1) := by decide +kernel
theorem d_M_wrongNumber_68 : decode prog_10_method_14_code 68 = .ok (.aload_n 0, 1) := by decide +kernel
theorem d_M_wrongNumber_69 : decode prog_10_method_14_code 69 = .ok (.lload_n 1, 1) := by decide +kernel
theorem d_M_wrongNumber_70 : decode prog_10_method_14_code 70 = .ok (.ldc2_w 121, 3) := by decide +kernel
theorem d_M_wrongNumber_73 : decode prog_10_method_14_code 73 = .ok (.ladd, 1) := by decide +kernel
theorem d_M_wrongNumber_74 : decode prog_10_method_14_code 74 = .ok (.invokevirtual 104, 3) := by decide +kernel
theorem d_M_wrongNumber_77 : decode prog_10_method_14_code 77 = .ok (.ifCond .eq 9, 3) := by decide +kernel
theorem d_M_wrongNumber_80 : decode prog_10_method_14_code 80 = .ok (.lload_n 1, 1) := by decide +kernel
theorem d_M_wrongNumber_81 : decode prog_10_method_14_code 81 = .ok (.ldc2_w 121, 3) := by decide +kernel
theorem d_M_wrongNumber_84 : decode prog_10_method_14_code 84 = .ok (.ladd, 1) := by decide +kernel
theorem d_M_wrongNumber_85 : decode prog_10_method_14_code 85 = .ok (.lreturn, 1) := by decide +kernel
theorem d_M_wrongNumber_86 : decode prog_10_method_14_code 86 = .ok (.aload_n 0, 1) := by decide +kernel
theorem d_M_wrongNumber_87 : decode prog_10_method_14_code 87 = .ok (.lload_n 1, 1) := by decide +kernel
theorem d_M_wrongNumber_88 : decode prog_10_method_14_code 88 = .ok (.ldc2_w 123, 3) := by decide +kernel
theorem d_M_wrongNumber_91 : decode prog_10_method_14_code 91 = .ok (.ladd, 1) := by decide +kernel
theorem d_M_wrongNumber_92 : decode prog_10_method_14_code 92 = .ok (.invokevirtual 104, 3) := by decide +kernel
theorem d_M_wrongNumber_95 : decode prog_10_method_14_code 95 = .ok (.istore 4, 2) := by decide +kernel
theorem d_M_wrongNumber_97 : decode prog_10_method_14_code 97 = .ok (.iload 4, 2) := by decide +kernel
theorem d_M_wrongNumber_99 : decode prog_10_method_14_code 99 = .ok (.ifCond .le 25, 3) := by decide +kernel
theorem d_M_wrongNumber_102 : decode prog_10_method_14_code 102 = .ok (.aload_n 0, 1) := by decide +kernel
theorem d_M_wrongNumber_103 : decode prog_10_method_14_code 103 = .ok (.lload_n 1, 1) := by decide +kernel
theorem d_M_wrongNumber_104 : decode prog_10_method_14_code 104 = .ok (.ldc2_w 125, 3) := by decide +kernel
theorem d_M_wrongNumber_107 : decode prog_10_method_14_code 107 = .ok (.ladd, 1) := by decide +kernel
theorem d_M_wrongNumber_108 : decode prog_10_method_14_code 108 = .ok (.iload 4, 2) := by decide +kernel
theorem d_M_wrongNumber_110 : decode prog_10_method_14_code 110 = .ok (.i2l, 1) := by decide +kernel
theorem d_M_wrongNumber_111 : decode prog_10_method_14_code 111 = .ok (.ladd, 1) := by decide +kernel
theorem d_M_wrongNumber_112 : decode prog_10_method_14_code 112 = .ok (.invokevirtual 100, 3) := by decide +kernel
theorem d_M_wrongNumber_115 : decode prog_10_method_14_code 115 = .ok (.bipush 47, 2) := by decide +kernel
theorem d_M_wrongNumber_117 : decode prog_10_method_14_code 117 = .ok (.if_icmp .ne 7, 3) := by decide +kernel
theorem d_M_wrongNumber_120 : decode prog_10_method_14_code 120 = .ok (.iconst 1, 1) := by decide +kernel
theorem d_M_wrongNumber_121 : decode prog_10_method_14_code 121 = .ok (.goto 4, 3) := by decide +kernel
theorem d_M_wrongNumber_124 : decode prog_10_method_14_code 124 = .ok (.iconst 0, 1) := by decide +kernel
theorem d_M_wrongNumber_125 : decode prog_10_method_14_code 125 = .ok (.istore 5, 2) := by decide +kernel
theorem d_M_wrongNumber_127 : decode prog_10_method_14_code 127 = .ok (.iload_n 3, 1) := by decide +kernel
theorem d_M_wrongNumber_128 : decode prog_10_method_14_code 128 = .ok (.ifCond .ne 25, 3) := by decide +kernel
theorem d_M_wrongNumber_131 : decode prog_10_method_14_code 131 = .ok (.aload_n 0, 1) := by decide +kernel
theorem d_M_wrongNumber_132 : decode prog_10_method_14_code 132 = .ok (.lload_n 1, 1) := by decide +kernel
theorem d_M_wrongNumber_133 : decode prog_10_method_14_code 133 = .ok (.ldc2_w 127, 3) := by decide +kernel
theorem d_M_wrongNumber_136 : decode prog_10_method_14_code 136 = .ok (.ladd, 1) := by decide +kernel
theorem d_M_wrongNumber_137 : decode prog_10_method_14_code 137 = .ok (.invokevirtual 129, 3) := by decide +kernel
theorem d_M_wrongNumber_140 : decode prog_10_method_14_code 140 = .ok (.aload_n 0, 1) := by decide +kernel
theorem d_M_wrongNumber_141 : decode prog_10_method_14_code 141 = .ok (.lload_n 1, 1) := by decide +kernel
theorem d_M_wrongNumber_142 : decode prog_10_method_14_code 142 = .ok (.ldc2_w 133, 3) := by decide +kernel
theorem d_M_wrongNumber_145 : decode prog_10_method_14_code 145 = .ok (.ladd, 1) := by decide +kernel
theorem d_M_wrongNumber_146 : decode prog_10_method_14_code 146 = .ok (.invokevirtual 129, 3) := by decide +kernel
theorem d_M_wrongNumber_149 : decode prog_10_method_14_code 149 = .ok (.lcmp, 1) := by decide +kernel
theorem d_M_wrongNumber_150 : decode prog_10_method_14_code 150 = .ok (.ifCond .ne 42, 3) := by decide +kernel
theorem d_M_wrongNumber_153 : decode prog_10_method_14_code 153 = .ok (.iload 5, 2) := by decide +kernel
theorem d_M_wrongNumber_155 : decode prog_10_method_14_code 155 = .ok (.ifCond .eq 41, 3) := by decide +kernel
theorem d_M_wrongNumber_158 : decode prog_10_method_14_code 158 = .ok (.aload_n 0, 1) := by decide +kernel
theorem d_M_wrongNumber_159 : decode prog_10_method_14_code 159 = .ok (.lload_n 1, 1) := by decide +kernel
theorem d_M_wrongNumber_160 : decode prog_10_method_14_code 160 = .ok (.ldc2_w 127, 3) := by decide +kernel
theorem d_M_wrongNumber_163 : decode prog_10_method_14_code 163 = .ok (.ladd, 1) := by decide +kernel
theorem d_M_wrongNumber_164 : decode prog_10_method_14_code 164 = .ok (.invokevirtual 129, 3) := by decide +kernel
theorem d_M_wrongNumber_167 : decode prog_10_method_14_code 167 = .ok (.lconst 0, 1) := by decide +kernel
theorem d_M_wrongNumber_168 : decode prog_10_method_14_code 168 = .ok (.lcmp, 1) := by decide +kernel
theorem d_M_wrongNumber_169 : decode prog_10_method_14_code 169 = .ok (.ifCond .ne 23, 3) := by decide +kernel
theorem d_M_wrongNumber_172 : decode prog_10_method_14_code 172 = .ok (.aload_n 0, 1) := by decide +kernel
theorem d_M_wrongNumber_173 : decode prog_10_method_14_code 173 = .ok (.lload_n 1, 1) := by decide +kernel
theorem d_M_wrongNumber_174 : decode prog_10_method_14_code 174 = .ok (.ldc2_w 133, 3) := by decide +kernel
theorem d_M_wrongNumber_177 : decode prog_10_method_14_code 177 = .ok (.ladd, 1) := by decide +kernel
theorem d_M_wrongNumber_178 : decode prog_10_method_14_code 178 = .ok (.invokevirtual 129, 3) := by decide +kernel
theorem d_M_wrongNumber_181 : decode prog_10_method_14_code 181 = .ok (.lconst 0, 1) := by decide +kernel
theorem d_M_wrongNumber_182 : decode prog_10_method_14_code 182 = .ok (.lcmp, 1) := by decide +kernel
theorem d_M_wrongNumber_183 : decode prog_10_method_14_code 183 = .ok (.ifCond .ne 9, 3) := by decide +kernel
theorem d_M_wrongNumber_186 : decode prog_10_method_14_code 186 = .ok (.iload_n 3, 1) := by decide +kernel
theorem d_M_wrongNumber_187 : decode prog_10_method_14_code 187 = .ok (.bipush 8, 2) := by decide +kernel
theorem d_M_wrongNumber_189 : decode prog_10_method_14_code 189 = .ok (.if_icmp .ne 7, 3) := by decide +kernel
theorem d_M_wrongNumber_192 : decode prog_10_method_14_code 192 = .ok (.iconst 1, 1) := by decide +kernel
theorem d_M_wrongNumber_193 : decode prog_10_method_14_code 193 = .ok (.goto 4, 3) := by decide +kernel
theorem d_M_wrongNumber_196 : decode prog_10_method_14_code 196 = .ok (.iconst 0, 1) := by decide +kernel
theorem d_M_wrongNumber_197 : decode prog_10_method_14_code 197 = .ok (.istore 6, 2) := by decide +kernel
theorem d_M_wrongNumber_199 : decode prog_10_method_14_code 199 = .ok (.iload 6, 2) := by decide +kernel
theorem d_M_wrongNumber_201 : decode prog_10_method_14_code 201 = .ok (.ifCond .eq 11, 3) := by decide +kernel
theorem d_M_wrongNumber_204 : decode prog_10_method_14_code 204 = .ok (.lload_n 1, 1) := by decide +kernel
theorem d_M_wrongNumber_205 : decode prog_10_method_14_code 205 = .ok (.ldc2_w 127, 3) := by decide +kernel
theorem d_M_wrongNumber_208 : decode prog_10_method_14_code 208 = .ok (.ladd, 1) := by decide +kernel
theorem d_M_wrongNumber_209 : decode prog_10_method_14_code 209 = .ok (.goto 4, 3) := by decide +kernel
theorem d_M_wrongNumber_212 : decode prog_10_method_14_code 212 = .ok (.lconst 0, 1) := by decide +kernel
theorem d_M_wrongNumber_213 : decode prog_10_method_14_code 213 = .ok (.lreturn, 1) := by decide +kernel
set_option maxHeartbeats 4000000 in
set_option maxRecDepth 100000 in
theorem m_at (l : Launch) (D : va_G) (qm : Nat) (qT : Nat) (len : Int) (op : Int) (fp : Int) (bu : Int) (ra : Int) (en : Int) (qMe : Nat) (qPk : Nat) (qSz : Nat) (qSu : Nat) (qDa : Nat) (qLo : Nat) (qLe : Nat) (qNa : Nat) (qNs : Nat) (qSt : Nat) (qSa : Nat) (qCo : Nat) (qWr : Nat) (to : Int) (nw : Int) (bt : Int) (rf : Int) (qLn : Nat) (qSm : Nat) (qCd : Nat) (qSc : Nat) (sy : Int) (di : Int) (th : Int) (cT : ClassId) (fT : Nat → Int32) (k : Int) (hk : 0 ≤ k ∧ k < 20000) : Met l y_M_at (Cond.code y_M_at prog_10_method_8_code 3 (Option.some Jvm.ClassFile.FieldType.int) :: zt) { frames := 0, cells := 0, slots := 0, locals := 0 } (zPcR [.ref qm, .long (lI k)] D [(qm, .inr (8, [.ref qT, .int (iI len), .int (iI op), .int (iI fp), .int (iI bu), .int (iI ra), .int (iI en), .ref qMe, .ref qPk, .ref qSz, .ref qSu, .ref qDa, .ref qLo, .ref qLe, .ref qNa, .ref qNs, .ref qSt, .ref qSa, .ref qCo, .ref qWr, .int (iI to), .int (iI nw), .int (iI bt), .int (iI rf), .ref qLn, .ref qSm, .ref qCd, .ref qSc, .int (iI sy), .int (iI di), .int (iI th)])), (qT, .inl (cT, 20000, .inl fT))] [(cT, .byte)] (fun _ => True)) (zQR (fun (r : Int32) => ∃ x : Int, r = iI x ∧ (x = zB1 fT k ∧ 0 ≤ x ∧ x ≤ 255))) 0 0 (fun _ => False) :=
  zMetR (by decide) (Nat.le_of_ble_eq_true rfl) (fun p e s m below meth c ls hx hb hr hml hown ht hlk hK hP hX hl => by
    have hl : lv_has ls 3 [(0, .ref qm), (1, .long (lI k))] := hl
    refine lv_aload_n hx hb d_M_at_0 rfl (lv_at hl 0 rfl) ?_
    refine va_get (ci := 8) (C := "ZipGuardModel") (T := F_M) (N := 31) hx hb ht zi_M hown hK hP 0 rfl rfl 0 (by decide) (ht _ zm_752) (fun _ h9 => h9) rfl d_M_at_1 ?_
    refine lv_lload_n hx hb d_M_at_4 rfl (lv_at hl 1 rfl) ?_
    refine zv_l2i hx hb d_M_at_5 ?_
    refine zv_bald hx hb hK hP 1 0 rfl rfl (by omega) (by decide) d_M_at_6 (fun x_1 hz_2 ha_3 ha_4 => ?_)
    refine lv_sipush (v := iI 255) hx hb d_M_at_7 (by decide) ?_
    refine zv_byte (f := fT) (k := k) hx hb d_M_at_10 hz_2 (fun x_5 hz_6 ha_7 ha_8 => ?_)
    exact zretR hx hb hr hlk (⟨_, rfl, by omega⟩) d_M_at_11)
set_option maxHeartbeats 4000000 in
set_option maxRecDepth 100000 in
theorem m_atL (l : Launch) (D : va_G) (qm : Nat) (qT : Nat) (len : Int) (op : Int) (fp : Int) (bu : Int) (ra : Int) (en : Int) (qMe : Nat) (qPk : Nat) (qSz : Nat) (qSu : Nat) (qDa : Nat) (qLo : Nat) (qLe : Nat) (qNa : Nat) (qNs : Nat) (qSt : Nat) (qSa : Nat) (qCo : Nat) (qWr : Nat) (to : Int) (nw : Int) (bt : Int) (rf : Int) (qLn : Nat) (qSm : Nat) (qCd : Nat) (qSc : Nat) (sy : Int) (di : Int) (th : Int) (cT : ClassId) (fT : Nat → Int32) (k : Int) (hlen : 0 ≤ len ∧ len ≤ 20000) (hk : 0 ≤ k ∧ k < len) : Met l y_M_at (Cond.code y_M_at prog_10_method_8_code 3 (Option.some Jvm.ClassFile.FieldType.int) :: zt) { frames := 0, cells := 0, slots := 0, locals := 0 } (zPcR [.ref qm, .long (lI k)] D [(qm, .inr (8, [.ref qT, .int (iI len), .int (iI op), .int (iI fp), .int (iI bu), .int (iI ra), .int (iI en), .ref qMe, .ref qPk, .ref qSz, .ref qSu, .ref qDa, .ref qLo, .ref qLe, .ref qNa, .ref qNs, .ref qSt, .ref qSa, .ref qCo, .ref qWr, .int (iI to), .int (iI nw), .int (iI bt), .int (iI rf), .ref qLn, .ref qSm, .ref qCd, .ref qSc, .int (iI sy), .int (iI di), .int (iI th)])), (qT, .inl (cT, 20000, .inl fT))] [(cT, .byte)] (fun _ => True)) (zQR (fun (r : Int32) => ∃ x : Int, r = iI x ∧ (x = zC1 fT len k ∧ 0 ≤ x ∧ x ≤ 255))) 0 0 (fun _ => False) :=
  zMetR (by decide) (Nat.le_of_ble_eq_true rfl) (fun p e s m below meth c ls hx hb hr hml hown ht hlk hK hP hX hl => by
    have hl : lv_has ls 3 [(0, .ref qm), (1, .long (lI k))] := hl
    refine lv_aload_n hx hb d_M_at_0 rfl (lv_at hl 0 rfl) ?_
    refine va_get (ci := 8) (C := "ZipGuardModel") (T := F_M) (N := 31) hx hb ht zi_M hown hK hP 0 rfl rfl 0 (by decide) (ht _ zm_752) (fun _ h9 => h9) rfl d_M_at_1 ?_
    refine lv_lload_n hx hb d_M_at_4 rfl (lv_at hl 1 rfl) ?_
    refine zv_l2i hx hb d_M_at_5 ?_
    refine zv_bald hx hb hK hP 1 0 rfl rfl (by omega) (by decide) d_M_at_6 (fun x_1 hz_2 ha_3 ha_4 => ?_)
    refine lv_sipush (v := iI 255) hx hb d_M_at_7 (by decide) ?_
    refine zv_byte (f := fT) (k := k) hx hb d_M_at_10 hz_2 (fun x_5 hz_6 ha_7 ha_8 => ?_)
    exact zretR hx hb hr hlk (⟨_, rfl, by rw [zC1_in (by omega)]; omega, by omega⟩) d_M_at_11)
set_option maxHeartbeats 4000000 in
set_option maxRecDepth 100000 in
theorem m_two (l : Launch) (D : va_G) (qm : Nat) (qT : Nat) (len : Int) (op : Int) (fp : Int) (bu : Int) (ra : Int) (en : Int) (qMe : Nat) (qPk : Nat) (qSz : Nat) (qSu : Nat) (qDa : Nat) (qLo : Nat) (qLe : Nat) (qNa : Nat) (qNs : Nat) (qSt : Nat) (qSa : Nat) (qCo : Nat) (qWr : Nat) (to : Int) (nw : Int) (bt : Int) (rf : Int) (qLn : Nat) (qSm : Nat) (qCd : Nat) (qSc : Nat) (sy : Int) (di : Int) (th : Int) (cT : ClassId) (fT : Nat → Int32) (k : Int) (hlen : 0 ≤ len ∧ len ≤ 20000) (hk : 0 ≤ k ∧ k + 1 < len) : Met l y_M_two (Cond.code y_M_two prog_10_method_9_code 3 (Option.some Jvm.ClassFile.FieldType.int) :: zt) { frames := 1, cells := 0, slots := 0, locals := 22 } (zPcR [.ref qm, .long (lI k)] D [(qm, .inr (8, [.ref qT, .int (iI len), .int (iI op), .int (iI fp), .int (iI bu), .int (iI ra), .int (iI en), .ref qMe, .ref qPk, .ref qSz, .ref qSu, .ref qDa, .ref qLo, .ref qLe, .ref qNa, .ref qNs, .ref qSt, .ref qSa, .ref qCo, .ref qWr, .int (iI to), .int (iI nw), .int (iI bt), .int (iI rf), .ref qLn, .ref qSm, .ref qCd, .ref qSc, .int (iI sy), .int (iI di), .int (iI th)])), (qT, .inl (cT, 20000, .inl fT))] [(cT, .byte)] (fun _ => True)) (zQR (fun (r : Int32) => ∃ x : Int, r = iI x ∧ (x = zg2 (zC1 fT len) k ∧ 0 ≤ x ∧ x ≤ 65535))) 0 0 (fun _ => False) :=
  zMetR (by decide) (Nat.le_of_ble_eq_true rfl) (fun p e s m below meth c ls hx hb hr hml hown ht hlk hK hP hX hl => by
    have hl : lv_has ls 3 [(0, .ref qm), (1, .long (lI k))] := hl
    refine lv_aload_n hx hb d_M_two_0 rfl (lv_at hl 0 rfl) ?_
    refine lv_lload_n hx hb d_M_two_1 rfl (lv_at hl 1 rfl) ?_
    refine zjR (va_runV (As := [.long (lI k)]) (rest := []) ⟨hx, hb, hml, hown, ht⟩ (m_atL l D qm qT len op fp bu ra en qMe qPk qSz qSu qDa qLo qLe qNa qNs qSt qSa qCo qWr to nw bt rf qLn qSm qCd qSc sy di th cT fT k (by omega) (by omega)) (cwV 1 ht (zt_goodV zm_882 zm_883 zm_35 zm_79 zm_884) rfl rfl rfl (by decide +kernel) ⟨Nat.le_of_ble_eq_true rfl, Nat.le_of_ble_eq_true rfl⟩) (zpreRV zBlind_t hK hP [0, 1] [0] rfl rfl (fun _ _ _ => trivial) (va_recv (q := ("ZipGuardModel", F_M, 31)) hK hP rfl (q0 := 0) (ci := 8) rfl)) rfl rfl hl.1 rfl (lv_room (Nat.le_of_ble_eq_true rfl)) d_M_two_2 ⟨Nat.le_of_ble_eq_true rfl, Nat.le_of_ble_eq_true rfl⟩) (fun r1 hp2 => ?_)
    obtain ⟨x_3, he_4, hp2⟩ := hp2
    subst he_4
    refine lv_aload_n hx hb d_M_two_5 rfl (lv_at hl 0 rfl) ?_
    refine lv_lload_n hx hb d_M_two_6 rfl (lv_at hl 1 rfl) ?_
    refine lv_lconst (v := lI 1) hx hb d_M_two_7 (by decide) ?_
    refine zv_ladd (z := k + 1) hx hb d_M_two_8 (by omega) ?_
    refine zjR (va_runV (As := [.long (lI (k + 1))]) (rest := [.int (iI x_3)]) ⟨hx, hb, hml, hown, ht⟩ (m_atL l D qm qT len op fp bu ra en qMe qPk qSz qSu qDa qLo qLe qNa qNs qSt qSa qCo qWr to nw bt rf qLn qSm qCd qSc sy di th cT fT (k + 1) (by omega) (by omega)) (cwV 1 ht (zt_goodV zm_882 zm_883 zm_35 zm_79 zm_884) rfl rfl rfl (by decide +kernel) ⟨Nat.le_of_ble_eq_true rfl, Nat.le_of_ble_eq_true rfl⟩) (zpreRV zBlind_t hK hP [0, 1] [0] rfl rfl (fun _ _ _ => trivial) (va_recv (q := ("ZipGuardModel", F_M, 31)) hK hP rfl (q0 := 0) (ci := 8) rfl)) rfl rfl hl.1 rfl (lv_room (Nat.le_of_ble_eq_true rfl)) d_M_two_9 ⟨Nat.le_of_ble_eq_true rfl, Nat.le_of_ble_eq_true rfl⟩) (fun r5 hp6 => ?_)
    obtain ⟨x_7, he_8, hp6⟩ := hp6
    subst he_8
    refine lv_bipush (v := iI 8) hx hb d_M_two_12 (by decide) ?_
    refine zv_ishl (z := 256 * x_7) hx hb 8 (by decide) d_M_two_14 (by omega) ?_
    refine zv_iorA (y0 := x_7) (z := x_3 + 256 * x_7) hx hb 8 d_M_two_15 (by omega) (by omega) (by omega) (by omega) (by omega) ?_
    exact zretR hx hb hr hlk (⟨_, rfl, by unfold zg2; omega⟩) d_M_two_16)
set_option maxHeartbeats 4000000 in
set_option maxRecDepth 100000 in
theorem m_four (l : Launch) (D : va_G) (qm : Nat) (qT : Nat) (len : Int) (op : Int) (fp : Int) (bu : Int) (ra : Int) (en : Int) (qMe : Nat) (qPk : Nat) (qSz : Nat) (qSu : Nat) (qDa : Nat) (qLo : Nat) (qLe : Nat) (qNa : Nat) (qNs : Nat) (qSt : Nat) (qSa : Nat) (qCo : Nat) (qWr : Nat) (to : Int) (nw : Int) (bt : Int) (rf : Int) (qLn : Nat) (qSm : Nat) (qCd : Nat) (qSc : Nat) (sy : Int) (di : Int) (th : Int) (cT : ClassId) (fT : Nat → Int32) (k : Int) (hlen : 0 ≤ len ∧ len ≤ 20000) (hk : 0 ≤ k ∧ k + 3 < len) : Met l y_M_four (Cond.code y_M_four prog_10_method_10_code 3 (Option.some Jvm.ClassFile.FieldType.long) :: zt) { frames := 2, cells := 0, slots := 0, locals := 44 } (zPcR [.ref qm, .long (lI k)] D [(qm, .inr (8, [.ref qT, .int (iI len), .int (iI op), .int (iI fp), .int (iI bu), .int (iI ra), .int (iI en), .ref qMe, .ref qPk, .ref qSz, .ref qSu, .ref qDa, .ref qLo, .ref qLe, .ref qNa, .ref qNs, .ref qSt, .ref qSa, .ref qCo, .ref qWr, .int (iI to), .int (iI nw), .int (iI bt), .int (iI rf), .ref qLn, .ref qSm, .ref qCd, .ref qSc, .int (iI sy), .int (iI di), .int (iI th)])), (qT, .inl (cT, 20000, .inl fT))] [(cT, .byte)] (fun _ => True)) (zQRl (fun (r : Int64) => ∃ x : Int, r = lI x ∧ (x = zg4 (zC1 fT len) k ∧ 0 ≤ x ∧ x ≤ 4294967295))) 0 0 (fun _ => False) :=
  zMetR (by decide) (Nat.le_of_ble_eq_true rfl) (fun p e s m below meth c ls hx hb hr hml hown ht hlk hK hP hX hl => by
    have hl : lv_has ls 3 [(0, .ref qm), (1, .long (lI k))] := hl
    refine lv_aload_n hx hb d_M_four_0 rfl (lv_at hl 0 rfl) ?_
    refine lv_lload_n hx hb d_M_four_1 rfl (lv_at hl 1 rfl) ?_
    refine zjR (va_runV (As := [.long (lI k)]) (rest := []) ⟨hx, hb, hml, hown, ht⟩ (m_two l D qm qT len op fp bu ra en qMe qPk qSz qSu qDa qLo qLe qNa qNs qSt qSa qCo qWr to nw bt rf qLn qSm qCd qSc sy di th cT fT k (by omega) (by omega)) (cwV 1 ht (zt_goodV zm_887 zm_888 zm_36 zm_79 zm_889) rfl rfl rfl (by decide +kernel) ⟨Nat.le_of_ble_eq_true rfl, Nat.le_of_ble_eq_true rfl⟩) (zpreRV zBlind_t hK hP [0, 1] [0] rfl rfl (fun _ _ _ => trivial) (va_recv (q := ("ZipGuardModel", F_M, 31)) hK hP rfl (q0 := 0) (ci := 8) rfl)) rfl rfl hl.1 rfl (lv_room (Nat.le_of_ble_eq_true rfl)) d_M_four_2 ⟨Nat.le_of_ble_eq_true rfl, Nat.le_of_ble_eq_true rfl⟩) (fun r1 hp2 => ?_)
    obtain ⟨x_3, he_4, hp2⟩ := hp2
    subst he_4
    refine zv_i2l hx hb d_M_four_5 (by omega) ?_
    refine lv_aload_n hx hb d_M_four_6 rfl (lv_at hl 0 rfl) ?_
    refine lv_lload_n hx hb d_M_four_7 rfl (lv_at hl 1 rfl) ?_
    refine lv_ldc2 (v := 2) hx hb hown (ht _ zm_885) d_M_four_8 ?_
    refine zv_litL 2 (by decide) ?_
    refine zv_ladd (z := k + 2) hx hb d_M_four_11 (by omega) ?_
    refine zjR (va_runV (As := [.long (lI (k + 2))]) (rest := [.long (lI x_3)]) ⟨hx, hb, hml, hown, ht⟩ (m_two l D qm qT len op fp bu ra en qMe qPk qSz qSu qDa qLo qLe qNa qNs qSt qSa qCo qWr to nw bt rf qLn qSm qCd qSc sy di th cT fT (k + 2) (by omega) (by omega)) (cwV 1 ht (zt_goodV zm_887 zm_888 zm_36 zm_79 zm_889) rfl rfl rfl (by decide +kernel) ⟨Nat.le_of_ble_eq_true rfl, Nat.le_of_ble_eq_true rfl⟩) (zpreRV zBlind_t hK hP [0, 1] [0] rfl rfl (fun _ _ _ => trivial) (va_recv (q := ("ZipGuardModel", F_M, 31)) hK hP rfl (q0 := 0) (ci := 8) rfl)) rfl rfl hl.1 rfl (lv_room (Nat.le_of_ble_eq_true rfl)) d_M_four_12 ⟨Nat.le_of_ble_eq_true rfl, Nat.le_of_ble_eq_true rfl⟩) (fun r5 hp6 => ?_)
    obtain ⟨x_7, he_8, hp6⟩ := hp6
    subst he_8
    refine zv_i2l hx hb d_M_four_15 (by omega) ?_
    refine lv_bipush (v := iI 16) hx hb d_M_four_16 (by decide) ?_
    refine zv_lshl (z := 65536 * x_7) hx hb 16 (by decide) d_M_four_18 (by omega) ?_
    refine zv_lorA (y0 := x_7) (z := x_3 + 65536 * x_7) hx hb 16 d_M_four_19 (by omega) (by omega) (by omega) (by omega) (by omega) ?_
    exact zretRl hx hb hr hlk (⟨_, rfl, by rw [zg4_2]; omega⟩) d_M_four_20)
set_option maxHeartbeats 4000000 in
set_option maxRecDepth 100000 in
theorem m_mark (l : Launch) (D : va_G) (qm : Nat) (qT : Nat) (len : Int) (op : Int) (fp : Int) (bu : Int) (ra : Int) (en : Int) (qMe : Nat) (qPk : Nat) (qSz : Nat) (qSu : Nat) (qDa : Nat) (qLo : Nat) (qLe : Nat) (qNa : Nat) (qNs : Nat) (qSt : Nat) (qSa : Nat) (qCo : Nat) (qWr : Nat) (to : Int) (nw : Int) (bt : Int) (rf : Int) (qLn : Nat) (qSm : Nat) (qCd : Nat) (qSc : Nat) (sy : Int) (di : Int) (th : Int) (cT : ClassId) (fT : Nat → Int32) (k : Int) (x3 : Int) (x4 : Int) (hlen : 0 ≤ len ∧ len ≤ 20000) (hk : 0 ≤ k ∧ k + 3 < len) (h3 : -2147483648 ≤ x3 ∧ x3 ≤ 2147483647) (h4 : -2147483648 ≤ x4 ∧ x4 ≤ 2147483647) : Met l y_M_isMark (Cond.code y_M_isMark prog_10_method_11_code 5 (Option.some Jvm.ClassFile.FieldType.boolean) :: zt) { frames := 1, cells := 0, slots := 0, locals := 22 } (zPcR [.ref qm, .long (lI k), .int (iI x3), .int (iI x4)] D [(qm, .inr (8, [.ref qT, .int (iI len), .int (iI op), .int (iI fp), .int (iI bu), .int (iI ra), .int (iI en), .ref qMe, .ref qPk, .ref qSz, .ref qSu, .ref qDa, .ref qLo, .ref qLe, .ref qNa, .ref qNs, .ref qSt, .ref qSa, .ref qCo, .ref qWr, .int (iI to), .int (iI nw), .int (iI bt), .int (iI rf), .ref qLn, .ref qSm, .ref qCd, .ref qSc, .int (iI sy), .int (iI di), .int (iI th)])), (qT, .inl (cT, 20000, .inl fT))] [(cT, .byte)] (fun _ => True)) (zQR (fun (r : Int32) => ∃ x : Int, r = iI x ∧ ((zTf x (zMk (zC1 fT len) k x3 x4)) ∧ 0 ≤ x ∧ x ≤ 1))) 0 0 (fun _ => False) :=
  zMetR (by decide) (Nat.le_of_ble_eq_true rfl) (fun p e s m below meth c ls hx hb hr hml hown ht hlk hK hP hX hl => by
    have hl : lv_has ls 5 [(0, .ref qm), (1, .long (lI k)), (3, .int (iI x3)), (4, .int (iI x4))] := hl
    refine lv_aload_n hx hb d_M_isMark_0 rfl (lv_at hl 0 rfl) ?_
    refine lv_lload_n hx hb d_M_isMark_1 rfl (lv_at hl 1 rfl) ?_
    refine zjR (va_runV (As := [.long (lI k)]) (rest := []) ⟨hx, hb, hml, hown, ht⟩ (m_atL l D qm qT len op fp bu ra en qMe qPk qSz qSu qDa qLo qLe qNa qNs qSt qSa qCo qWr to nw bt rf qLn qSm qCd qSc sy di th cT fT k (by omega) (by omega)) (cwV 1 ht (zt_goodV zm_882 zm_883 zm_35 zm_79 zm_884) rfl rfl rfl (by decide +kernel) ⟨Nat.le_of_ble_eq_true rfl, Nat.le_of_ble_eq_true rfl⟩) (zpreRV zBlind_t hK hP [0, 1] [0] rfl rfl (fun _ _ _ => trivial) (va_recv (q := ("ZipGuardModel", F_M, 31)) hK hP rfl (q0 := 0) (ci := 8) rfl)) rfl rfl hl.1 rfl (lv_room (Nat.le_of_ble_eq_true rfl)) d_M_isMark_2 ⟨Nat.le_of_ble_eq_true rfl, Nat.le_of_ble_eq_true rfl⟩) (fun r1 hp2 => ?_)
    obtain ⟨x_3, he_4, hp2⟩ := hp2
    subst he_4
    refine lv_bipush (v := iI 80) hx hb d_M_isMark_5 (by decide) ?_
    refine zv_icmp_ne (tgt := 53) hx hb d_M_isMark_7 (by decide) (by omega) (by omega) (fun hc_5 => ?_) (fun hc_5 => ?_)
    · skip
      refine lv_iconst (v := iI 0) hx hb d_M_isMark_53 (by decide) ?_
      exact zretRz hx hb hr hlk (⟨_, rfl, by unfold zTf zMk; omega, by omega⟩) (zn01 (by omega)) d_M_isMark_54
    · skip
      refine lv_aload_n hx hb d_M_isMark_10 rfl (lv_at hl 0 rfl) ?_
      refine lv_lload_n hx hb d_M_isMark_11 rfl (lv_at hl 1 rfl) ?_
      refine lv_lconst (v := lI 1) hx hb d_M_isMark_12 (by decide) ?_
      refine zv_ladd (z := k + 1) hx hb d_M_isMark_13 (by omega) ?_
      refine zjR (va_runV (As := [.long (lI (k + 1))]) (rest := []) ⟨hx, hb, hml, hown, ht⟩ (m_atL l D qm qT len op fp bu ra en qMe qPk qSz qSu qDa qLo qLe qNa qNs qSt qSa qCo qWr to nw bt rf qLn qSm qCd qSc sy di th cT fT (k + 1) (by omega) (by omega)) (cwV 1 ht (zt_goodV zm_882 zm_883 zm_35 zm_79 zm_884) rfl rfl rfl (by decide +kernel) ⟨Nat.le_of_ble_eq_true rfl, Nat.le_of_ble_eq_true rfl⟩) (zpreRV zBlind_t hK hP [0, 1] [0] rfl rfl (fun _ _ _ => trivial) (va_recv (q := ("ZipGuardModel", F_M, 31)) hK hP rfl (q0 := 0) (ci := 8) rfl)) rfl rfl hl.1 rfl (lv_room (Nat.le_of_ble_eq_true rfl)) d_M_isMark_14 ⟨Nat.le_of_ble_eq_true rfl, Nat.le_of_ble_eq_true rfl⟩) (fun r6 hp7 => ?_)
      obtain ⟨x_8, he_9, hp7⟩ := hp7
      subst he_9
      refine lv_bipush (v := iI 75) hx hb d_M_isMark_17 (by decide) ?_
      refine zv_icmp_ne (tgt := 53) hx hb d_M_isMark_19 (by decide) (by omega) (by omega) (fun hc_10 => ?_) (fun hc_10 => ?_)
      · skip
        refine lv_iconst (v := iI 0) hx hb d_M_isMark_53 (by decide) ?_
        exact zretRz hx hb hr hlk (⟨_, rfl, by unfold zTf zMk; omega, by omega⟩) (zn01 (by omega)) d_M_isMark_54
      · skip
        refine lv_aload_n hx hb d_M_isMark_22 rfl (lv_at hl 0 rfl) ?_
        refine lv_lload_n hx hb d_M_isMark_23 rfl (lv_at hl 1 rfl) ?_
        refine lv_ldc2 (v := 2) hx hb hown (ht _ zm_885) d_M_isMark_24 ?_
        refine zv_litL 2 (by decide) ?_
        refine zv_ladd (z := k + 2) hx hb d_M_isMark_27 (by omega) ?_
        refine zjR (va_runV (As := [.long (lI (k + 2))]) (rest := []) ⟨hx, hb, hml, hown, ht⟩ (m_atL l D qm qT len op fp bu ra en qMe qPk qSz qSu qDa qLo qLe qNa qNs qSt qSa qCo qWr to nw bt rf qLn qSm qCd qSc sy di th cT fT (k + 2) (by omega) (by omega)) (cwV 1 ht (zt_goodV zm_882 zm_883 zm_35 zm_79 zm_884) rfl rfl rfl (by decide +kernel) ⟨Nat.le_of_ble_eq_true rfl, Nat.le_of_ble_eq_true rfl⟩) (zpreRV zBlind_t hK hP [0, 1] [0] rfl rfl (fun _ _ _ => trivial) (va_recv (q := ("ZipGuardModel", F_M, 31)) hK hP rfl (q0 := 0) (ci := 8) rfl)) rfl rfl hl.1 rfl (lv_room (Nat.le_of_ble_eq_true rfl)) d_M_isMark_28 ⟨Nat.le_of_ble_eq_true rfl, Nat.le_of_ble_eq_true rfl⟩) (fun r11 hp12 => ?_)
        obtain ⟨x_13, he_14, hp12⟩ := hp12
        subst he_14
        refine lv_iload_n hx hb d_M_isMark_31 rfl (lv_at hl 2 rfl) ?_
        refine zv_icmp_ne (tgt := 53) hx hb d_M_isMark_32 (by decide) (by omega) (by omega) (fun hc_15 => ?_) (fun hc_15 => ?_)
        · skip
          refine lv_iconst (v := iI 0) hx hb d_M_isMark_53 (by decide) ?_
          exact zretRz hx hb hr hlk (⟨_, rfl, by unfold zTf zMk; omega, by omega⟩) (zn01 (by omega)) d_M_isMark_54
        · skip
          refine lv_aload_n hx hb d_M_isMark_35 rfl (lv_at hl 0 rfl) ?_
          refine lv_lload_n hx hb d_M_isMark_36 rfl (lv_at hl 1 rfl) ?_
          refine lv_ldc2 (v := 3) hx hb hown (ht _ zm_886) d_M_isMark_37 ?_
          refine zv_litL 3 (by decide) ?_
          refine zv_ladd (z := k + 3) hx hb d_M_isMark_40 (by omega) ?_
          refine zjR (va_runV (As := [.long (lI (k + 3))]) (rest := []) ⟨hx, hb, hml, hown, ht⟩ (m_atL l D qm qT len op fp bu ra en qMe qPk qSz qSu qDa qLo qLe qNa qNs qSt qSa qCo qWr to nw bt rf qLn qSm qCd qSc sy di th cT fT (k + 3) (by omega) (by omega)) (cwV 1 ht (zt_goodV zm_882 zm_883 zm_35 zm_79 zm_884) rfl rfl rfl (by decide +kernel) ⟨Nat.le_of_ble_eq_true rfl, Nat.le_of_ble_eq_true rfl⟩) (zpreRV zBlind_t hK hP [0, 1] [0] rfl rfl (fun _ _ _ => trivial) (va_recv (q := ("ZipGuardModel", F_M, 31)) hK hP rfl (q0 := 0) (ci := 8) rfl)) rfl rfl hl.1 rfl (lv_room (Nat.le_of_ble_eq_true rfl)) d_M_isMark_41 ⟨Nat.le_of_ble_eq_true rfl, Nat.le_of_ble_eq_true rfl⟩) (fun r16 hp17 => ?_)
          obtain ⟨x_18, he_19, hp17⟩ := hp17
          subst he_19
          refine lv_iload hx hb d_M_isMark_44 (lv_at hl 3 rfl) ?_
          refine zv_icmp_ne (tgt := 53) hx hb d_M_isMark_46 (by decide) (by omega) (by omega) (fun hc_20 => ?_) (fun hc_20 => ?_)
          · skip
            refine lv_iconst (v := iI 0) hx hb d_M_isMark_53 (by decide) ?_
            exact zretRz hx hb hr hlk (⟨_, rfl, by unfold zTf zMk; omega, by omega⟩) (zn01 (by omega)) d_M_isMark_54
          · skip
            refine lv_iconst (v := iI 1) hx hb d_M_isMark_49 (by decide) ?_
            refine lv_goto (tgt := 54) hx hb d_M_isMark_50 (by decide) ?_
            exact zretRz hx hb hr hlk (⟨_, rfl, by unfold zTf zMk; omega, by omega⟩) (zn01 (by omega)) d_M_isMark_54)
set_option maxHeartbeats 4000000 in
set_option maxRecDepth 100000 in
theorem m_fe (l : Launch) (D : va_G) (qm : Nat) (qT : Nat) (len : Int) (op : Int) (fp : Int) (bu : Int) (ra : Int) (en : Int) (qMe : Nat) (qPk : Nat) (qSz : Nat) (qSu : Nat) (qDa : Nat) (qLo : Nat) (qLe : Nat) (qNa : Nat) (qNs : Nat) (qSt : Nat) (qSa : Nat) (qCo : Nat) (qWr : Nat) (to : Int) (nw : Int) (bt : Int) (rf : Int) (qLn : Nat) (qSm : Nat) (qCd : Nat) (qSc : Nat) (sy : Int) (di : Int) (th : Int) (cT : ClassId) (fT : Nat → Int32) (hlen : 0 ≤ len ∧ len ≤ 20000) : Met l y_M_findEnd (Cond.code y_M_findEnd prog_10_method_13_code 2 (Option.some Jvm.ClassFile.FieldType.int) :: zt) { frames := 2, cells := 0, slots := 0, locals := 46 } (zPcR [.ref qm] D [(qm, .inr (8, [.ref qT, .int (iI len), .int (iI op), .int (iI fp), .int (iI bu), .int (iI ra), .int (iI en), .ref qMe, .ref qPk, .ref qSz, .ref qSu, .ref qDa, .ref qLo, .ref qLe, .ref qNa, .ref qNs, .ref qSt, .ref qSa, .ref qCo, .ref qWr, .int (iI to), .int (iI nw), .int (iI bt), .int (iI rf), .ref qLn, .ref qSm, .ref qCd, .ref qSc, .int (iI sy), .int (iI di), .int (iI th)])), (qT, .inl (cT, 20000, .inl fT))] [(cT, .byte)] (fun _ => True)) (zQR (fun (r : Int32) => ∃ x : Int, r = iI x ∧ ((zFE (zC1 fT len) len x) ∧ (x = -1 ∨ 0 ≤ x ∧ x + 22 ≤ len)))) 0 0 (fun _ => False) :=
  zMetR (by decide) (Nat.le_of_ble_eq_true rfl) (fun p e s m below meth c ls hx hb hr hml hown ht hlk hK hP hX hl => by
    have hl : lv_has ls 2 [(0, .ref qm)] := hl
    refine lv_aload_n hx hb d_M_findEnd_0 rfl (lv_at hl 0 rfl) ?_
    refine va_get (ci := 8) (C := "ZipGuardModel") (T := F_M) (N := 31) hx hb ht zi_M hown hK hP 0 rfl rfl 1 (by decide) (ht _ zm_753) (fun _ h9 => h9) rfl d_M_findEnd_1 ?_
    refine lv_bipush (v := iI 22) hx hb d_M_findEnd_4 (by decide) ?_
    refine zv_isub (z := len - 22) hx hb d_M_findEnd_6 (by omega) ?_
    refine lv_istore_n (lv' := [(1, .int (iI (len - 22))), (0, .ref qm)]) hx hb d_M_findEnd_7 rfl hl (by decide) rfl (fun ls hl => ?_)
    have lp8 : ∀ (j : Nat) (ee : Int) (ls : Array Slot), (-22 ≤ ee ∧ ee + 22 ≤ len) → (∀ i : Int, ee < i → i + 22 ≤ len → ¬ zEd (zC1 fT len) len i) → (ee + 22 < (j : Int)) → lv_has ls 2 [(1, .int (iI ee)), (0, .ref qm)] → W p l e { frames := 2, cells := 0, slots := 0, locals := 46 } s m [.ref qm].toArray below meth c s.heap [] 0 0 (MQ below (zQR (fun (r : Int32) => ∃ x : Int, r = iI x ∧ ((zFE (zC1 fT len) len x) ∧ (x = -1 ∨ 0 ≤ x ∧ x + 22 ≤ len)))) [.ref qm].toArray s 0 0 (fun _ => False)) (F0 m 8 ls []) := by
      intro j
      induction j with
      | zero => intro ee ls hee hno hj8 hl; exfalso; omega
      | succ j ih8 =>
        intro ee ls hee hno hj8 hl
        refine lv_iload_n hx hb d_M_findEnd_8 rfl (lv_at hl 0 rfl) ?_
        refine zv_if_lt (tgt := 53) hx hb d_M_findEnd_9 (by decide) (by omega) (fun hc_1 => ?_) (fun hc_1 => ?_)
        · skip
          refine lv_iconst (v := iI (-1)) hx hb d_M_findEnd_53 (by decide) ?_
          exact zretR hx hb hr hlk (⟨_, rfl, Or.inl ⟨rfl, fun i h1 h2 => hno i (by omega) h2⟩, by omega⟩) d_M_findEnd_54
        · skip
          refine lv_aload_n hx hb d_M_findEnd_12 rfl (lv_at hl 1 rfl) ?_
          refine lv_iload_n hx hb d_M_findEnd_13 rfl (lv_at hl 0 rfl) ?_
          refine zv_i2l hx hb d_M_findEnd_14 (by omega) ?_
          refine lv_iconst (v := iI 5) hx hb d_M_findEnd_15 (by decide) ?_
          refine lv_bipush (v := iI 6) hx hb d_M_findEnd_16 (by decide) ?_
          refine zjR (va_runV (As := [.long (lI ee), .int (iI 5), .int (iI 6)]) (rest := []) ⟨hx, hb, hml, hown, ht⟩ (m_mark l D qm qT len op fp bu ra en qMe qPk qSz qSu qDa qLo qLe qNa qNs qSt qSa qCo qWr to nw bt rf qLn qSm qCd qSc sy di th cT fT ee 5 6 (by omega) (by omega) (by omega) (by omega)) (cwV 3 ht (zt_goodV zm_879 zm_880 zm_34 zm_79 zm_881) rfl rfl rfl (by decide +kernel) ⟨Nat.le_of_ble_eq_true rfl, Nat.le_of_ble_eq_true rfl⟩) (zpreRV zBlind_t hK hP [0, 1] [0] rfl rfl (fun _ _ _ => trivial) (va_recv (q := ("ZipGuardModel", F_M, 31)) hK hP rfl (q0 := 0) (ci := 8) rfl)) rfl rfl hl.1 rfl (lv_room (Nat.le_of_ble_eq_true rfl)) d_M_findEnd_18 ⟨Nat.le_of_ble_eq_true rfl, Nat.le_of_ble_eq_true rfl⟩) (fun r2 hp3 => ?_)
          obtain ⟨x_4, he_5, hp3⟩ := hp3
          subst he_5
          refine zv_if_eq (tgt := 47) hx hb d_M_findEnd_21 (by decide) (by omega) (fun hc_6 => ?_) (fun hc_6 => ?_)
          · skip
            have htf_7 := zTf_f hp3.1 hc_6
            refine lv_iinc (k := 0) (v := iI (ee - 1)) (lv' := [(1, .int (iI (ee - 1))), (0, .ref qm)]) hx hb d_M_findEnd_47 hl rfl (zinc (by omega)) (by decide) rfl (fun ls hl => ?_)
            refine lv_goto (tgt := 8) hx hb d_M_findEnd_50 (by decide) ?_
            exact ih8 (ee - 1) _ (by omega) (zFE_s hno (fun q9 => by first | exact zTf_f hp3.1 (by omega) q9.1 | (have q8 := q9.2; omega))) (by omega) hl
          · skip
            have htf_8 := zTf_t hp3.1 hc_6
            refine lv_iload_n hx hb d_M_findEnd_24 rfl (lv_at hl 0 rfl) ?_
            refine lv_bipush (v := iI 22) hx hb d_M_findEnd_25 (by decide) ?_
            refine zv_iadd (z := ee + 22) hx hb d_M_findEnd_27 (by omega) ?_
            refine lv_aload_n hx hb d_M_findEnd_28 rfl (lv_at hl 1 rfl) ?_
            refine lv_iload_n hx hb d_M_findEnd_29 rfl (lv_at hl 0 rfl) ?_
            refine lv_bipush (v := iI 20) hx hb d_M_findEnd_30 (by decide) ?_
            refine zv_iadd (z := ee + 20) hx hb d_M_findEnd_32 (by omega) ?_
            refine zv_i2l hx hb d_M_findEnd_33 (by omega) ?_
            refine zjR (va_runV (As := [.long (lI (ee + 20))]) (rest := [.int (iI (ee + 22))]) ⟨hx, hb, hml, hown, ht⟩ (m_two l D qm qT len op fp bu ra en qMe qPk qSz qSu qDa qLo qLe qNa qNs qSt qSa qCo qWr to nw bt rf qLn qSm qCd qSc sy di th cT fT (ee + 20) (by omega) (by omega)) (cwV 1 ht (zt_goodV zm_887 zm_888 zm_36 zm_79 zm_889) rfl rfl rfl (by decide +kernel) ⟨Nat.le_of_ble_eq_true rfl, Nat.le_of_ble_eq_true rfl⟩) (zpreRV zBlind_t hK hP [0, 1] [0] rfl rfl (fun _ _ _ => trivial) (va_recv (q := ("ZipGuardModel", F_M, 31)) hK hP rfl (q0 := 0) (ci := 8) rfl)) rfl rfl hl.1 rfl (lv_room (Nat.le_of_ble_eq_true rfl)) d_M_findEnd_34 ⟨Nat.le_of_ble_eq_true rfl, Nat.le_of_ble_eq_true rfl⟩) (fun r9 hp10 => ?_)
            obtain ⟨x_11, he_12, hp10⟩ := hp10
            subst he_12
            refine zv_iadd (z := ee + x_11 + 22) hx hb d_M_findEnd_37 (by omega) ?_
            refine lv_aload_n hx hb d_M_findEnd_38 rfl (lv_at hl 1 rfl) ?_
            refine va_get (ci := 8) (C := "ZipGuardModel") (T := F_M) (N := 31) hx hb ht zi_M hown hK hP 0 rfl rfl 1 (by decide) (ht _ zm_753) (fun _ h9 => h9) rfl d_M_findEnd_39 ?_
            refine zv_icmp_ne (tgt := 47) hx hb d_M_findEnd_42 (by decide) (by omega) (by omega) (fun hc_13 => ?_) (fun hc_13 => ?_)
            · skip
              refine lv_iinc (k := 0) (v := iI (ee - 1)) (lv' := [(1, .int (iI (ee - 1))), (0, .ref qm)]) hx hb d_M_findEnd_47 hl rfl (zinc (by omega)) (by decide) rfl (fun ls hl => ?_)
              refine lv_goto (tgt := 8) hx hb d_M_findEnd_50 (by decide) ?_
              exact ih8 (ee - 1) _ (by omega) (zFE_s hno (fun q9 => by first | exact zTf_f hp3.1 (by omega) q9.1 | (have q8 := q9.2; omega))) (by omega) hl
            · skip
              refine lv_iload_n hx hb d_M_findEnd_45 rfl (lv_at hl 0 rfl) ?_
              exact zretR hx hb hr hlk (⟨_, rfl, Or.inr ⟨by omega, by omega, ⟨zTf_t hp3.1 (by omega), by omega⟩, hno⟩, by omega⟩) d_M_findEnd_46
    exact lp8 (((len - 22) + 22 + 1 : Int)).toNat (len - 22) _ (by omega) (fun i h1 h2 => absurd h1 (by omega)) (by omega) hl)
set_option maxHeartbeats 4000000 in
set_option maxRecDepth 100000 in
theorem m_wn (l : Launch) (D : va_G) (qm : Nat) (qT : Nat) (len : Int) (op : Int) (fp : Int) (bu : Int) (ra : Int) (en : Int) (qMe : Nat) (qPk : Nat) (qSz : Nat) (qSu : Nat) (qDa : Nat) (qLo : Nat) (qLe : Nat) (qNa : Nat) (qNs : Nat) (qSt : Nat) (qSa : Nat) (qCo : Nat) (qWr : Nat) (to : Int) (nw : Int) (bt : Int) (rf : Int) (qLn : Nat) (qSm : Nat) (qCd : Nat) (qSc : Nat) (sy : Int) (di : Int) (th : Int) (cT : ClassId) (fT : Nat → Int32) (k : Int) (hlen : 0 ≤ len ∧ len ≤ 20000) (hk0 : 0 ≤ k ∧ k + 46 ≤ len) (hk : k + 46 + zg2 (zC1 fT len) (k + 28) ≤ len) : Met l y_M_wrongNumber (Cond.code y_M_wrongNumber prog_10_method_14_code 7 (Option.some Jvm.ClassFile.FieldType.long) :: zt) { frames := 3, cells := 0, slots := 0, locals := 66 } (zPcR [.ref qm, .long (lI k)] D [(qm, .inr (8, [.ref qT, .int (iI len), .int (iI op), .int (iI fp), .int (iI bu), .int (iI ra), .int (iI en), .ref qMe, .ref qPk, .ref qSz, .ref qSu, .ref qDa, .ref qLo, .ref qLe, .ref qNa, .ref qNs, .ref qSt, .ref qSa, .ref qCo, .ref qWr, .int (iI to), .int (iI nw), .int (iI bt), .int (iI rf), .ref qLn, .ref qSm, .ref qCd, .ref qSc, .int (iI sy), .int (iI di), .int (iI th)])), (qT, .inl (cT, 20000, .inl fT))] [(cT, .byte)] (fun _ => True)) (zQRl (fun (r : Int64) => ∃ x : Int, r = lI x ∧ (zNp (zC1 fT len) k x ∧ 0 ≤ x ∧ x ≤ 30000))) 0 0 (fun _ => False) :=
  zMetR (by decide) (Nat.le_of_ble_eq_true rfl) (fun p e s m below meth c ls hx hb hr hml hown ht hlk hK hP hX hl => by
    have hl : lv_has ls 7 [(0, .ref qm), (1, .long (lI k))] := hl
    have jn_1 : ∀ (me : Int) (ls : Array Slot), (me = zg2 (zC1 fT len) (k + 10) ∧ (me = 0 ∨ me = 8) ∧ zg2 (zC1 fT len) (k + 6) ≤ 20 ∧ zanI (zg2 (zC1 fT len) (k + 8)) (-2055) = 0) → lv_has ls 7 [(0, .ref qm), (1, .long (lI k)), (3, .int (iI me))] → W p l e { frames := 3, cells := 0, slots := 0, locals := 66 } s m [.ref qm, .long (lI k)].toArray below meth c s.heap [] 0 0 (MQ below (zQRl (fun (r : Int64) => ∃ x : Int, r = lI x ∧ (zNp (zC1 fT len) k x ∧ 0 ≤ x ∧ x ≤ 30000))) [.ref qm, .long (lI k)].toArray s 0 0 (fun _ => False)) (F0 m 68 ls []) := by
      intro me ls hme hl
      refine lv_aload_n hx hb d_M_wrongNumber_68 rfl (lv_at hl 0 rfl) ?_
      refine lv_lload_n hx hb d_M_wrongNumber_69 rfl (lv_at hl 1 rfl) ?_
      refine lv_ldc2 (v := 34) hx hb hown (ht _ zm_906) d_M_wrongNumber_70 ?_
      refine zv_litL 34 (by decide) ?_
      refine zv_ladd (z := k + 34) hx hb d_M_wrongNumber_73 (by omega) ?_
      refine zjR (va_runV (As := [.long (lI (k + 34))]) (rest := []) ⟨hx, hb, hml, hown, ht⟩ (m_two l D qm qT len op fp bu ra en qMe qPk qSz qSu qDa qLo qLe qNa qNs qSt qSa qCo qWr to nw bt rf qLn qSm qCd qSc sy di th cT fT (k + 34) (by omega) (by omega)) (cwV 1 ht (zt_goodV zm_887 zm_888 zm_36 zm_79 zm_889) rfl rfl rfl (by decide +kernel) ⟨Nat.le_of_ble_eq_true rfl, Nat.le_of_ble_eq_true rfl⟩) (zpreRV zBlind_t hK hP [0, 1] [0] rfl rfl (fun _ _ _ => trivial) (va_recv (q := ("ZipGuardModel", F_M, 31)) hK hP rfl (q0 := 0) (ci := 8) rfl)) rfl rfl hl.1 rfl (lv_room (Nat.le_of_ble_eq_true rfl)) d_M_wrongNumber_74 ⟨Nat.le_of_ble_eq_true rfl, Nat.le_of_ble_eq_true rfl⟩) (fun r2 hp3 => ?_)
      obtain ⟨x_4, he_5, hp3⟩ := hp3
      subst he_5
      refine zv_if_eq (tgt := 86) hx hb d_M_wrongNumber_77 (by decide) (by omega) (fun hc_6 => ?_) (fun hc_6 => ?_)
      · skip
        refine lv_aload_n hx hb d_M_wrongNumber_86 rfl (lv_at hl 0 rfl) ?_
        refine lv_lload_n hx hb d_M_wrongNumber_87 rfl (lv_at hl 1 rfl) ?_
        refine lv_ldc2 (v := 28) hx hb hown (ht _ zm_897) d_M_wrongNumber_88 ?_
        refine zv_litL 28 (by decide) ?_
        refine zv_ladd (z := k + 28) hx hb d_M_wrongNumber_91 (by omega) ?_
        refine zjR (va_runV (As := [.long (lI (k + 28))]) (rest := []) ⟨hx, hb, hml, hown, ht⟩ (m_two l D qm qT len op fp bu ra en qMe qPk qSz qSu qDa qLo qLe qNa qNs qSt qSa qCo qWr to nw bt rf qLn qSm qCd qSc sy di th cT fT (k + 28) (by omega) (by omega)) (cwV 1 ht (zt_goodV zm_887 zm_888 zm_36 zm_79 zm_889) rfl rfl rfl (by decide +kernel) ⟨Nat.le_of_ble_eq_true rfl, Nat.le_of_ble_eq_true rfl⟩) (zpreRV zBlind_t hK hP [0, 1] [0] rfl rfl (fun _ _ _ => trivial) (va_recv (q := ("ZipGuardModel", F_M, 31)) hK hP rfl (q0 := 0) (ci := 8) rfl)) rfl rfl hl.1 rfl (lv_room (Nat.le_of_ble_eq_true rfl)) d_M_wrongNumber_92 ⟨Nat.le_of_ble_eq_true rfl, Nat.le_of_ble_eq_true rfl⟩) (fun r7 hp8 => ?_)
        obtain ⟨x_9, he_10, hp8⟩ := hp8
        subst he_10
        refine lv_istore (lv' := [(4, .int (iI x_9)), (0, .ref qm), (1, .long (lI k)), (3, .int (iI me))]) hx hb d_M_wrongNumber_95 hl (by decide) rfl (fun ls hl => ?_)
        have jn_11 : ∀ (fo : Int) (ls : Array Slot), ((fo = 1 ∧ 0 < x_9 ∧ zC1 fT len (k + x_9 + 45) = 47) ∨ (fo = 0 ∧ ¬ (0 < x_9 ∧ zC1 fT len (k + x_9 + 45) = 47))) → lv_has ls 7 [(4, .int (iI x_9)), (0, .ref qm), (1, .long (lI k)), (3, .int (iI me)), (5, .int (iI fo))] → W p l e { frames := 3, cells := 0, slots := 0, locals := 66 } s m [.ref qm, .long (lI k)].toArray below meth c s.heap [] 0 0 (MQ below (zQRl (fun (r : Int64) => ∃ x : Int, r = lI x ∧ (zNp (zC1 fT len) k x ∧ 0 ≤ x ∧ x ≤ 30000))) [.ref qm, .long (lI k)].toArray s 0 0 (fun _ => False)) (F0 m 127 ls []) := by
          intro fo ls hfo hl
          have jn_12 : ∀ (wr : Int) (ls : Array Slot), ((wr = 0 ∧ (¬ (me = 0 ∧ ¬ zg4 (zC1 fT len) (k + 20) = zg4 (zC1 fT len) (k + 24)) ∧ (¬ fo = 1 ∨ (me = 0 ∧ zg4 (zC1 fT len) (k + 20) = 0 ∧ zg4 (zC1 fT len) (k + 24) = 0)))) ∨ (wr = 1 ∧ ¬ (¬ (me = 0 ∧ ¬ zg4 (zC1 fT len) (k + 20) = zg4 (zC1 fT len) (k + 24)) ∧ (¬ fo = 1 ∨ (me = 0 ∧ zg4 (zC1 fT len) (k + 20) = 0 ∧ zg4 (zC1 fT len) (k + 24) = 0))))) → lv_has ls 7 [(4, .int (iI x_9)), (0, .ref qm), (1, .long (lI k)), (3, .int (iI me)), (5, .int (iI fo)), (6, .int (iI wr))] → W p l e { frames := 3, cells := 0, slots := 0, locals := 66 } s m [.ref qm, .long (lI k)].toArray below meth c s.heap [] 0 0 (MQ below (zQRl (fun (r : Int64) => ∃ x : Int, r = lI x ∧ (zNp (zC1 fT len) k x ∧ 0 ≤ x ∧ x ≤ 30000))) [.ref qm, .long (lI k)].toArray s 0 0 (fun _ => False)) (F0 m 199 ls []) := by
            intro wr ls hwr hl
            refine lv_iload hx hb d_M_wrongNumber_199 (lv_at hl 5 rfl) ?_
            refine zv_if_eq (tgt := 212) hx hb d_M_wrongNumber_201 (by decide) (by omega) (fun hc_13 => ?_) (fun hc_13 => ?_)
            · skip
              refine lv_lconst (v := lI 0) hx hb d_M_wrongNumber_212 (by decide) ?_
              exact zretRl hx hb hr hlk (⟨_, rfl, Or.inr (Or.inr (Or.inr (Or.inr (Or.inr ⟨by omega, by omega, by omega, by omega, (by have q7 := hp8.1; subst q7; unfold zRs; omega), rfl⟩)))), by omega⟩) d_M_wrongNumber_213
            · skip
              refine lv_lload_n hx hb d_M_wrongNumber_204 rfl (lv_at hl 2 rfl) ?_
              refine lv_ldc2 (v := 20) hx hb hown (ht _ zm_908) d_M_wrongNumber_205 ?_
              refine zv_litL 20 (by decide) ?_
              refine zv_ladd (z := k + 20) hx hb d_M_wrongNumber_208 (by omega) ?_
              refine lv_goto (tgt := 213) hx hb d_M_wrongNumber_209 (by decide) ?_
              exact zretRl hx hb hr hlk (⟨_, rfl, Or.inr (Or.inr (Or.inr (Or.inr (Or.inl ⟨by omega, by omega, by omega, by omega, (by have q7 := hp8.1; subst q7; unfold zRs; omega), rfl⟩)))), by omega⟩) d_M_wrongNumber_213
          refine lv_iload_n hx hb d_M_wrongNumber_127 rfl (lv_at hl 3 rfl) ?_
          refine zv_if_ne (tgt := 153) hx hb d_M_wrongNumber_128 (by decide) (by omega) (fun hc_14 => ?_) (fun hc_14 => ?_)
          · skip
            refine lv_iload hx hb d_M_wrongNumber_153 (lv_at hl 4 rfl) ?_
            refine zv_if_eq (tgt := 196) hx hb d_M_wrongNumber_155 (by decide) (by omega) (fun hc_15 => ?_) (fun hc_15 => ?_)
            · skip
              refine lv_iconst (v := iI 0) hx hb d_M_wrongNumber_196 (by decide) ?_
              refine lv_istore (lv' := [(6, .int (iI 0)), (4, .int (iI x_9)), (0, .ref qm), (1, .long (lI k)), (3, .int (iI me)), (5, .int (iI fo))]) hx hb d_M_wrongNumber_197 hl (by decide) rfl (fun ls hl => ?_)
              exact jn_12 0 _ (by omega) (lv_sub hl [1, 2, 3, 4, 5, 0] rfl)
            · skip
              refine lv_aload_n hx hb d_M_wrongNumber_158 rfl (lv_at hl 1 rfl) ?_
              refine lv_lload_n hx hb d_M_wrongNumber_159 rfl (lv_at hl 2 rfl) ?_
              refine lv_ldc2 (v := 20) hx hb hown (ht _ zm_908) d_M_wrongNumber_160 ?_
              refine zv_litL 20 (by decide) ?_
              refine zv_ladd (z := k + 20) hx hb d_M_wrongNumber_163 (by omega) ?_
              refine zjRl (va_runV (As := [.long (lI (k + 20))]) (rest := []) ⟨hx, hb, hml, hown, ht⟩ (m_four l D qm qT len op fp bu ra en qMe qPk qSz qSu qDa qLo qLe qNa qNs qSt qSa qCo qWr to nw bt rf qLn qSm qCd qSc sy di th cT fT (k + 20) (by omega) (by omega)) (cwV 1 ht (zt_goodV zm_893 zm_894 zm_38 zm_79 zm_895) rfl rfl rfl (by decide +kernel) ⟨Nat.le_of_ble_eq_true rfl, Nat.le_of_ble_eq_true rfl⟩) (zpreRV zBlind_t hK hP [0, 1] [0] rfl rfl (fun _ _ _ => trivial) (va_recv (q := ("ZipGuardModel", F_M, 31)) hK hP rfl (q0 := 0) (ci := 8) rfl)) rfl rfl hl.1 rfl (lv_room (Nat.le_of_ble_eq_true rfl)) d_M_wrongNumber_164 ⟨Nat.le_of_ble_eq_true rfl, Nat.le_of_ble_eq_true rfl⟩) (fun r16 hp17 => ?_)
              obtain ⟨x_18, he_19, hp17⟩ := hp17
              subst he_19
              refine lv_lconst (v := lI 0) hx hb d_M_wrongNumber_167 (by decide) ?_
              refine zv_lcmp_ne (tgt := 192) hx hb d_M_wrongNumber_168 d_M_wrongNumber_169 (by decide) (by omega) (by omega) (fun hc_20 => ?_) (fun hc_20 => ?_)
              · skip
                refine lv_iconst (v := iI 1) hx hb d_M_wrongNumber_192 (by decide) ?_
                refine lv_goto (tgt := 197) hx hb d_M_wrongNumber_193 (by decide) ?_
                refine lv_istore (lv' := [(6, .int (iI 1)), (4, .int (iI x_9)), (0, .ref qm), (1, .long (lI k)), (3, .int (iI me)), (5, .int (iI fo))]) hx hb d_M_wrongNumber_197 hl (by decide) rfl (fun ls hl => ?_)
                exact jn_12 1 _ (by omega) (lv_sub hl [1, 2, 3, 4, 5, 0] rfl)
              · skip
                refine lv_aload_n hx hb d_M_wrongNumber_172 rfl (lv_at hl 1 rfl) ?_
                refine lv_lload_n hx hb d_M_wrongNumber_173 rfl (lv_at hl 2 rfl) ?_
                refine lv_ldc2 (v := 24) hx hb hown (ht _ zm_909) d_M_wrongNumber_174 ?_
                refine zv_litL 24 (by decide) ?_
                refine zv_ladd (z := k + 24) hx hb d_M_wrongNumber_177 (by omega) ?_
                refine zjRl (va_runV (As := [.long (lI (k + 24))]) (rest := []) ⟨hx, hb, hml, hown, ht⟩ (m_four l D qm qT len op fp bu ra en qMe qPk qSz qSu qDa qLo qLe qNa qNs qSt qSa qCo qWr to nw bt rf qLn qSm qCd qSc sy di th cT fT (k + 24) (by omega) (by omega)) (cwV 1 ht (zt_goodV zm_893 zm_894 zm_38 zm_79 zm_895) rfl rfl rfl (by decide +kernel) ⟨Nat.le_of_ble_eq_true rfl, Nat.le_of_ble_eq_true rfl⟩) (zpreRV zBlind_t hK hP [0, 1] [0] rfl rfl (fun _ _ _ => trivial) (va_recv (q := ("ZipGuardModel", F_M, 31)) hK hP rfl (q0 := 0) (ci := 8) rfl)) rfl rfl hl.1 rfl (lv_room (Nat.le_of_ble_eq_true rfl)) d_M_wrongNumber_178 ⟨Nat.le_of_ble_eq_true rfl, Nat.le_of_ble_eq_true rfl⟩) (fun r21 hp22 => ?_)
                obtain ⟨x_23, he_24, hp22⟩ := hp22
                subst he_24
                refine lv_lconst (v := lI 0) hx hb d_M_wrongNumber_181 (by decide) ?_
                refine zv_lcmp_ne (tgt := 192) hx hb d_M_wrongNumber_182 d_M_wrongNumber_183 (by decide) (by omega) (by omega) (fun hc_25 => ?_) (fun hc_25 => ?_)
                · skip
                  refine lv_iconst (v := iI 1) hx hb d_M_wrongNumber_192 (by decide) ?_
                  refine lv_goto (tgt := 197) hx hb d_M_wrongNumber_193 (by decide) ?_
                  refine lv_istore (lv' := [(6, .int (iI 1)), (4, .int (iI x_9)), (0, .ref qm), (1, .long (lI k)), (3, .int (iI me)), (5, .int (iI fo))]) hx hb d_M_wrongNumber_197 hl (by decide) rfl (fun ls hl => ?_)
                  exact jn_12 1 _ (by omega) (lv_sub hl [1, 2, 3, 4, 5, 0] rfl)
                · skip
                  refine lv_iload_n hx hb d_M_wrongNumber_186 rfl (lv_at hl 3 rfl) ?_
                  refine lv_bipush (v := iI 8) hx hb d_M_wrongNumber_187 (by decide) ?_
                  refine zv_icmp_ne (tgt := 196) hx hb d_M_wrongNumber_189 (by decide) (by omega) (by omega) (fun hc_26 => ?_) (fun hc_26 => ?_)
                  · skip
                    refine lv_iconst (v := iI 0) hx hb d_M_wrongNumber_196 (by decide) ?_
                    refine lv_istore (lv' := [(6, .int (iI 0)), (4, .int (iI x_9)), (0, .ref qm), (1, .long (lI k)), (3, .int (iI me)), (5, .int (iI fo))]) hx hb d_M_wrongNumber_197 hl (by decide) rfl (fun ls hl => ?_)
                    exact jn_12 0 _ (by omega) (lv_sub hl [1, 2, 3, 4, 5, 0] rfl)
                  · skip
                    refine lv_iconst (v := iI 1) hx hb d_M_wrongNumber_192 (by decide) ?_
                    refine lv_goto (tgt := 197) hx hb d_M_wrongNumber_193 (by decide) ?_
                    refine lv_istore (lv' := [(6, .int (iI 1)), (4, .int (iI x_9)), (0, .ref qm), (1, .long (lI k)), (3, .int (iI me)), (5, .int (iI fo))]) hx hb d_M_wrongNumber_197 hl (by decide) rfl (fun ls hl => ?_)
                    exact jn_12 1 _ (by omega) (lv_sub hl [1, 2, 3, 4, 5, 0] rfl)
          · skip
            refine lv_aload_n hx hb d_M_wrongNumber_131 rfl (lv_at hl 1 rfl) ?_
            refine lv_lload_n hx hb d_M_wrongNumber_132 rfl (lv_at hl 2 rfl) ?_
            refine lv_ldc2 (v := 20) hx hb hown (ht _ zm_908) d_M_wrongNumber_133 ?_
            refine zv_litL 20 (by decide) ?_
            refine zv_ladd (z := k + 20) hx hb d_M_wrongNumber_136 (by omega) ?_
            refine zjRl (va_runV (As := [.long (lI (k + 20))]) (rest := []) ⟨hx, hb, hml, hown, ht⟩ (m_four l D qm qT len op fp bu ra en qMe qPk qSz qSu qDa qLo qLe qNa qNs qSt qSa qCo qWr to nw bt rf qLn qSm qCd qSc sy di th cT fT (k + 20) (by omega) (by omega)) (cwV 1 ht (zt_goodV zm_893 zm_894 zm_38 zm_79 zm_895) rfl rfl rfl (by decide +kernel) ⟨Nat.le_of_ble_eq_true rfl, Nat.le_of_ble_eq_true rfl⟩) (zpreRV zBlind_t hK hP [0, 1] [0] rfl rfl (fun _ _ _ => trivial) (va_recv (q := ("ZipGuardModel", F_M, 31)) hK hP rfl (q0 := 0) (ci := 8) rfl)) rfl rfl hl.1 rfl (lv_room (Nat.le_of_ble_eq_true rfl)) d_M_wrongNumber_137 ⟨Nat.le_of_ble_eq_true rfl, Nat.le_of_ble_eq_true rfl⟩) (fun r27 hp28 => ?_)
            obtain ⟨x_29, he_30, hp28⟩ := hp28
            subst he_30
            refine lv_aload_n hx hb d_M_wrongNumber_140 rfl (lv_at hl 1 rfl) ?_
            refine lv_lload_n hx hb d_M_wrongNumber_141 rfl (lv_at hl 2 rfl) ?_
            refine lv_ldc2 (v := 24) hx hb hown (ht _ zm_909) d_M_wrongNumber_142 ?_
            refine zv_litL 24 (by decide) ?_
            refine zv_ladd (z := k + 24) hx hb d_M_wrongNumber_145 (by omega) ?_
            refine zjRl (va_runV (As := [.long (lI (k + 24))]) (rest := [.long (lI x_29)]) ⟨hx, hb, hml, hown, ht⟩ (m_four l D qm qT len op fp bu ra en qMe qPk qSz qSu qDa qLo qLe qNa qNs qSt qSa qCo qWr to nw bt rf qLn qSm qCd qSc sy di th cT fT (k + 24) (by omega) (by omega)) (cwV 1 ht (zt_goodV zm_893 zm_894 zm_38 zm_79 zm_895) rfl rfl rfl (by decide +kernel) ⟨Nat.le_of_ble_eq_true rfl, Nat.le_of_ble_eq_true rfl⟩) (zpreRV zBlind_t hK hP [0, 1] [0] rfl rfl (fun _ _ _ => trivial) (va_recv (q := ("ZipGuardModel", F_M, 31)) hK hP rfl (q0 := 0) (ci := 8) rfl)) rfl rfl hl.1 rfl (lv_room (Nat.le_of_ble_eq_true rfl)) d_M_wrongNumber_146 ⟨Nat.le_of_ble_eq_true rfl, Nat.le_of_ble_eq_true rfl⟩) (fun r31 hp32 => ?_)
            obtain ⟨x_33, he_34, hp32⟩ := hp32
            subst he_34
            refine zv_lcmp_ne (tgt := 192) hx hb d_M_wrongNumber_149 d_M_wrongNumber_150 (by decide) (by omega) (by omega) (fun hc_35 => ?_) (fun hc_35 => ?_)
            · skip
              refine lv_iconst (v := iI 1) hx hb d_M_wrongNumber_192 (by decide) ?_
              refine lv_goto (tgt := 197) hx hb d_M_wrongNumber_193 (by decide) ?_
              refine lv_istore (lv' := [(6, .int (iI 1)), (4, .int (iI x_9)), (0, .ref qm), (1, .long (lI k)), (3, .int (iI me)), (5, .int (iI fo))]) hx hb d_M_wrongNumber_197 hl (by decide) rfl (fun ls hl => ?_)
              exact jn_12 1 _ (by omega) (lv_sub hl [1, 2, 3, 4, 5, 0] rfl)
            · skip
              refine lv_iload hx hb d_M_wrongNumber_153 (lv_at hl 4 rfl) ?_
              refine zv_if_eq (tgt := 196) hx hb d_M_wrongNumber_155 (by decide) (by omega) (fun hc_36 => ?_) (fun hc_36 => ?_)
              · skip
                refine lv_iconst (v := iI 0) hx hb d_M_wrongNumber_196 (by decide) ?_
                refine lv_istore (lv' := [(6, .int (iI 0)), (4, .int (iI x_9)), (0, .ref qm), (1, .long (lI k)), (3, .int (iI me)), (5, .int (iI fo))]) hx hb d_M_wrongNumber_197 hl (by decide) rfl (fun ls hl => ?_)
                exact jn_12 0 _ (by omega) (lv_sub hl [1, 2, 3, 4, 5, 0] rfl)
              · skip
                refine lv_aload_n hx hb d_M_wrongNumber_158 rfl (lv_at hl 1 rfl) ?_
                refine lv_lload_n hx hb d_M_wrongNumber_159 rfl (lv_at hl 2 rfl) ?_
                refine lv_ldc2 (v := 20) hx hb hown (ht _ zm_908) d_M_wrongNumber_160 ?_
                refine zv_litL 20 (by decide) ?_
                refine zv_ladd (z := k + 20) hx hb d_M_wrongNumber_163 (by omega) ?_
                refine zjRl (va_runV (As := [.long (lI (k + 20))]) (rest := []) ⟨hx, hb, hml, hown, ht⟩ (m_four l D qm qT len op fp bu ra en qMe qPk qSz qSu qDa qLo qLe qNa qNs qSt qSa qCo qWr to nw bt rf qLn qSm qCd qSc sy di th cT fT (k + 20) (by omega) (by omega)) (cwV 1 ht (zt_goodV zm_893 zm_894 zm_38 zm_79 zm_895) rfl rfl rfl (by decide +kernel) ⟨Nat.le_of_ble_eq_true rfl, Nat.le_of_ble_eq_true rfl⟩) (zpreRV zBlind_t hK hP [0, 1] [0] rfl rfl (fun _ _ _ => trivial) (va_recv (q := ("ZipGuardModel", F_M, 31)) hK hP rfl (q0 := 0) (ci := 8) rfl)) rfl rfl hl.1 rfl (lv_room (Nat.le_of_ble_eq_true rfl)) d_M_wrongNumber_164 ⟨Nat.le_of_ble_eq_true rfl, Nat.le_of_ble_eq_true rfl⟩) (fun r37 hp38 => ?_)
                obtain ⟨x_39, he_40, hp38⟩ := hp38
                subst he_40
                refine lv_lconst (v := lI 0) hx hb d_M_wrongNumber_167 (by decide) ?_
                refine zv_lcmp_ne (tgt := 192) hx hb d_M_wrongNumber_168 d_M_wrongNumber_169 (by decide) (by omega) (by omega) (fun hc_41 => ?_) (fun hc_41 => ?_)
                · skip
                  refine lv_iconst (v := iI 1) hx hb d_M_wrongNumber_192 (by decide) ?_
                  refine lv_goto (tgt := 197) hx hb d_M_wrongNumber_193 (by decide) ?_
                  refine lv_istore (lv' := [(6, .int (iI 1)), (4, .int (iI x_9)), (0, .ref qm), (1, .long (lI k)), (3, .int (iI me)), (5, .int (iI fo))]) hx hb d_M_wrongNumber_197 hl (by decide) rfl (fun ls hl => ?_)
                  exact jn_12 1 _ (by omega) (lv_sub hl [1, 2, 3, 4, 5, 0] rfl)
                · skip
                  refine lv_aload_n hx hb d_M_wrongNumber_172 rfl (lv_at hl 1 rfl) ?_
                  refine lv_lload_n hx hb d_M_wrongNumber_173 rfl (lv_at hl 2 rfl) ?_
                  refine lv_ldc2 (v := 24) hx hb hown (ht _ zm_909) d_M_wrongNumber_174 ?_
                  refine zv_litL 24 (by decide) ?_
                  refine zv_ladd (z := k + 24) hx hb d_M_wrongNumber_177 (by omega) ?_
                  refine zjRl (va_runV (As := [.long (lI (k + 24))]) (rest := []) ⟨hx, hb, hml, hown, ht⟩ (m_four l D qm qT len op fp bu ra en qMe qPk qSz qSu qDa qLo qLe qNa qNs qSt qSa qCo qWr to nw bt rf qLn qSm qCd qSc sy di th cT fT (k + 24) (by omega) (by omega)) (cwV 1 ht (zt_goodV zm_893 zm_894 zm_38 zm_79 zm_895) rfl rfl rfl (by decide +kernel) ⟨Nat.le_of_ble_eq_true rfl, Nat.le_of_ble_eq_true rfl⟩) (zpreRV zBlind_t hK hP [0, 1] [0] rfl rfl (fun _ _ _ => trivial) (va_recv (q := ("ZipGuardModel", F_M, 31)) hK hP rfl (q0 := 0) (ci := 8) rfl)) rfl rfl hl.1 rfl (lv_room (Nat.le_of_ble_eq_true rfl)) d_M_wrongNumber_178 ⟨Nat.le_of_ble_eq_true rfl, Nat.le_of_ble_eq_true rfl⟩) (fun r42 hp43 => ?_)
                  obtain ⟨x_44, he_45, hp43⟩ := hp43
                  subst he_45
                  refine lv_lconst (v := lI 0) hx hb d_M_wrongNumber_181 (by decide) ?_
                  refine zv_lcmp_ne (tgt := 192) hx hb d_M_wrongNumber_182 d_M_wrongNumber_183 (by decide) (by omega) (by omega) (fun hc_46 => ?_) (fun hc_46 => ?_)
                  · skip
                    refine lv_iconst (v := iI 1) hx hb d_M_wrongNumber_192 (by decide) ?_
                    refine lv_goto (tgt := 197) hx hb d_M_wrongNumber_193 (by decide) ?_
                    refine lv_istore (lv' := [(6, .int (iI 1)), (4, .int (iI x_9)), (0, .ref qm), (1, .long (lI k)), (3, .int (iI me)), (5, .int (iI fo))]) hx hb d_M_wrongNumber_197 hl (by decide) rfl (fun ls hl => ?_)
                    exact jn_12 1 _ (by omega) (lv_sub hl [1, 2, 3, 4, 5, 0] rfl)
                  · skip
                    refine lv_iload_n hx hb d_M_wrongNumber_186 rfl (lv_at hl 3 rfl) ?_
                    refine lv_bipush (v := iI 8) hx hb d_M_wrongNumber_187 (by decide) ?_
                    refine zv_icmp_ne (tgt := 196) hx hb d_M_wrongNumber_189 (by decide) (by omega) (by omega) (fun hc_47 => ?_) (fun hc_47 => ?_)
                    · skip
                      refine lv_iconst (v := iI 0) hx hb d_M_wrongNumber_196 (by decide) ?_
                      refine lv_istore (lv' := [(6, .int (iI 0)), (4, .int (iI x_9)), (0, .ref qm), (1, .long (lI k)), (3, .int (iI me)), (5, .int (iI fo))]) hx hb d_M_wrongNumber_197 hl (by decide) rfl (fun ls hl => ?_)
                      exact jn_12 0 _ (by omega) (lv_sub hl [1, 2, 3, 4, 5, 0] rfl)
                    · skip
                      refine lv_iconst (v := iI 1) hx hb d_M_wrongNumber_192 (by decide) ?_
                      refine lv_goto (tgt := 197) hx hb d_M_wrongNumber_193 (by decide) ?_
                      refine lv_istore (lv' := [(6, .int (iI 1)), (4, .int (iI x_9)), (0, .ref qm), (1, .long (lI k)), (3, .int (iI me)), (5, .int (iI fo))]) hx hb d_M_wrongNumber_197 hl (by decide) rfl (fun ls hl => ?_)
                      exact jn_12 1 _ (by omega) (lv_sub hl [1, 2, 3, 4, 5, 0] rfl)
        refine lv_iload hx hb d_M_wrongNumber_97 (lv_at hl 0 rfl) ?_
        refine zv_if_le (tgt := 124) hx hb d_M_wrongNumber_99 (by decide) (by omega) (fun hc_48 => ?_) (fun hc_48 => ?_)
        · skip
          refine lv_iconst (v := iI 0) hx hb d_M_wrongNumber_124 (by decide) ?_
          refine lv_istore (lv' := [(5, .int (iI 0)), (4, .int (iI x_9)), (0, .ref qm), (1, .long (lI k)), (3, .int (iI me))]) hx hb d_M_wrongNumber_125 hl (by decide) rfl (fun ls hl => ?_)
          exact jn_11 0 _ (by omega) (lv_sub hl [1, 2, 3, 4, 0] rfl)
        · skip
          refine lv_aload_n hx hb d_M_wrongNumber_102 rfl (lv_at hl 1 rfl) ?_
          refine lv_lload_n hx hb d_M_wrongNumber_103 rfl (lv_at hl 2 rfl) ?_
          refine lv_ldc2 (v := 45) hx hb hown (ht _ zm_907) d_M_wrongNumber_104 ?_
          refine zv_litL 45 (by decide) ?_
          refine zv_ladd (z := k + 45) hx hb d_M_wrongNumber_107 (by omega) ?_
          refine lv_iload hx hb d_M_wrongNumber_108 (lv_at hl 0 rfl) ?_
          refine zv_i2l hx hb d_M_wrongNumber_110 (by omega) ?_
          refine zv_ladd (z := k + x_9 + 45) hx hb d_M_wrongNumber_111 (by omega) ?_
          refine zjR (va_runV (As := [.long (lI (k + x_9 + 45))]) (rest := []) ⟨hx, hb, hml, hown, ht⟩ (m_atL l D qm qT len op fp bu ra en qMe qPk qSz qSu qDa qLo qLe qNa qNs qSt qSa qCo qWr to nw bt rf qLn qSm qCd qSc sy di th cT fT (k + x_9 + 45) (by omega) (by omega)) (cwV 1 ht (zt_goodV zm_882 zm_883 zm_35 zm_79 zm_884) rfl rfl rfl (by decide +kernel) ⟨Nat.le_of_ble_eq_true rfl, Nat.le_of_ble_eq_true rfl⟩) (zpreRV zBlind_t hK hP [0, 1] [0] rfl rfl (fun _ _ _ => trivial) (va_recv (q := ("ZipGuardModel", F_M, 31)) hK hP rfl (q0 := 0) (ci := 8) rfl)) rfl rfl hl.1 rfl (lv_room (Nat.le_of_ble_eq_true rfl)) d_M_wrongNumber_112 ⟨Nat.le_of_ble_eq_true rfl, Nat.le_of_ble_eq_true rfl⟩) (fun r49 hp50 => ?_)
          obtain ⟨x_51, he_52, hp50⟩ := hp50
          subst he_52
          refine lv_bipush (v := iI 47) hx hb d_M_wrongNumber_115 (by decide) ?_
          refine zv_icmp_ne (tgt := 124) hx hb d_M_wrongNumber_117 (by decide) (by omega) (by omega) (fun hc_53 => ?_) (fun hc_53 => ?_)
          · skip
            refine lv_iconst (v := iI 0) hx hb d_M_wrongNumber_124 (by decide) ?_
            refine lv_istore (lv' := [(5, .int (iI 0)), (4, .int (iI x_9)), (0, .ref qm), (1, .long (lI k)), (3, .int (iI me))]) hx hb d_M_wrongNumber_125 hl (by decide) rfl (fun ls hl => ?_)
            exact jn_11 0 _ (by omega) (lv_sub hl [1, 2, 3, 4, 0] rfl)
          · skip
            refine lv_iconst (v := iI 1) hx hb d_M_wrongNumber_120 (by decide) ?_
            refine lv_goto (tgt := 125) hx hb d_M_wrongNumber_121 (by decide) ?_
            refine lv_istore (lv' := [(5, .int (iI 1)), (4, .int (iI x_9)), (0, .ref qm), (1, .long (lI k)), (3, .int (iI me))]) hx hb d_M_wrongNumber_125 hl (by decide) rfl (fun ls hl => ?_)
            exact jn_11 1 _ (by omega) (lv_sub hl [1, 2, 3, 4, 0] rfl)
      · skip
        refine lv_lload_n hx hb d_M_wrongNumber_80 rfl (lv_at hl 1 rfl) ?_
        refine lv_ldc2 (v := 34) hx hb hown (ht _ zm_906) d_M_wrongNumber_81 ?_
        refine zv_litL 34 (by decide) ?_
        refine zv_ladd (z := k + 34) hx hb d_M_wrongNumber_84 (by omega) ?_
        exact zretRl hx hb hr hlk (⟨_, rfl, Or.inr (Or.inr (Or.inr (Or.inl ⟨by omega, by omega, by omega, by omega, by omega⟩))), by omega⟩) d_M_wrongNumber_85
    refine lv_aload_n hx hb d_M_wrongNumber_0 rfl (lv_at hl 0 rfl) ?_
    refine lv_lload_n hx hb d_M_wrongNumber_1 rfl (lv_at hl 1 rfl) ?_
    refine lv_ldc2 (v := 6) hx hb hown (ht _ zm_903) d_M_wrongNumber_2 ?_
    refine zv_litL 6 (by decide) ?_
    refine zv_ladd (z := k + 6) hx hb d_M_wrongNumber_5 (by omega) ?_
    refine zjR (va_runV (As := [.long (lI (k + 6))]) (rest := []) ⟨hx, hb, hml, hown, ht⟩ (m_two l D qm qT len op fp bu ra en qMe qPk qSz qSu qDa qLo qLe qNa qNs qSt qSa qCo qWr to nw bt rf qLn qSm qCd qSc sy di th cT fT (k + 6) (by omega) (by omega)) (cwV 1 ht (zt_goodV zm_887 zm_888 zm_36 zm_79 zm_889) rfl rfl rfl (by decide +kernel) ⟨Nat.le_of_ble_eq_true rfl, Nat.le_of_ble_eq_true rfl⟩) (zpreRV zBlind_t hK hP [0, 1] [0] rfl rfl (fun _ _ _ => trivial) (va_recv (q := ("ZipGuardModel", F_M, 31)) hK hP rfl (q0 := 0) (ci := 8) rfl)) rfl rfl hl.1 rfl (lv_room (Nat.le_of_ble_eq_true rfl)) d_M_wrongNumber_6 ⟨Nat.le_of_ble_eq_true rfl, Nat.le_of_ble_eq_true rfl⟩) (fun r54 hp55 => ?_)
    obtain ⟨x_56, he_57, hp55⟩ := hp55
    subst he_57
    refine lv_bipush (v := iI 20) hx hb d_M_wrongNumber_9 (by decide) ?_
    refine zv_icmp_le (tgt := 20) hx hb d_M_wrongNumber_11 (by decide) (by omega) (by omega) (fun hc_58 => ?_) (fun hc_58 => ?_)
    · skip
      refine lv_aload_n hx hb d_M_wrongNumber_20 rfl (lv_at hl 0 rfl) ?_
      refine lv_lload_n hx hb d_M_wrongNumber_21 rfl (lv_at hl 1 rfl) ?_
      refine lv_ldc2 (v := 8) hx hb hown (ht _ zm_904) d_M_wrongNumber_22 ?_
      refine zv_litL 8 (by decide) ?_
      refine zv_ladd (z := k + 8) hx hb d_M_wrongNumber_25 (by omega) ?_
      refine zjR (va_runV (As := [.long (lI (k + 8))]) (rest := []) ⟨hx, hb, hml, hown, ht⟩ (m_two l D qm qT len op fp bu ra en qMe qPk qSz qSu qDa qLo qLe qNa qNs qSt qSa qCo qWr to nw bt rf qLn qSm qCd qSc sy di th cT fT (k + 8) (by omega) (by omega)) (cwV 1 ht (zt_goodV zm_887 zm_888 zm_36 zm_79 zm_889) rfl rfl rfl (by decide +kernel) ⟨Nat.le_of_ble_eq_true rfl, Nat.le_of_ble_eq_true rfl⟩) (zpreRV zBlind_t hK hP [0, 1] [0] rfl rfl (fun _ _ _ => trivial) (va_recv (q := ("ZipGuardModel", F_M, 31)) hK hP rfl (q0 := 0) (ci := 8) rfl)) rfl rfl hl.1 rfl (lv_room (Nat.le_of_ble_eq_true rfl)) d_M_wrongNumber_26 ⟨Nat.le_of_ble_eq_true rfl, Nat.le_of_ble_eq_true rfl⟩) (fun r59 hp60 => ?_)
      obtain ⟨x_61, he_62, hp60⟩ := hp60
      subst he_62
      refine lv_sipush (v := iI (-2055)) hx hb d_M_wrongNumber_29 (by decide) ?_
      refine zv_andx hx hb d_M_wrongNumber_32 (fun x_63 hz_64 ha_65 ha_66 => ?_)
      have hz9 := congrArg (fun v => zanI v (-2055)) (hp60.1)
      refine zv_if_eq (tgt := 42) hx hb d_M_wrongNumber_33 (by decide) (by omega) (fun hc_67 => ?_) (fun hc_67 => ?_)
      · skip
        refine lv_aload_n hx hb d_M_wrongNumber_42 rfl (lv_at hl 0 rfl) ?_
        refine lv_lload_n hx hb d_M_wrongNumber_43 rfl (lv_at hl 1 rfl) ?_
        refine lv_ldc2 (v := 10) hx hb hown (ht _ zm_905) d_M_wrongNumber_44 ?_
        refine zv_litL 10 (by decide) ?_
        refine zv_ladd (z := k + 10) hx hb d_M_wrongNumber_47 (by omega) ?_
        refine zjR (va_runV (As := [.long (lI (k + 10))]) (rest := []) ⟨hx, hb, hml, hown, ht⟩ (m_two l D qm qT len op fp bu ra en qMe qPk qSz qSu qDa qLo qLe qNa qNs qSt qSa qCo qWr to nw bt rf qLn qSm qCd qSc sy di th cT fT (k + 10) (by omega) (by omega)) (cwV 1 ht (zt_goodV zm_887 zm_888 zm_36 zm_79 zm_889) rfl rfl rfl (by decide +kernel) ⟨Nat.le_of_ble_eq_true rfl, Nat.le_of_ble_eq_true rfl⟩) (zpreRV zBlind_t hK hP [0, 1] [0] rfl rfl (fun _ _ _ => trivial) (va_recv (q := ("ZipGuardModel", F_M, 31)) hK hP rfl (q0 := 0) (ci := 8) rfl)) rfl rfl hl.1 rfl (lv_room (Nat.le_of_ble_eq_true rfl)) d_M_wrongNumber_48 ⟨Nat.le_of_ble_eq_true rfl, Nat.le_of_ble_eq_true rfl⟩) (fun r68 hp69 => ?_)
        obtain ⟨x_70, he_71, hp69⟩ := hp69
        subst he_71
        refine lv_istore_n (lv' := [(3, .int (iI x_70)), (0, .ref qm), (1, .long (lI k))]) hx hb d_M_wrongNumber_51 rfl hl (by decide) rfl (fun ls hl => ?_)
        refine lv_iload_n hx hb d_M_wrongNumber_52 rfl (lv_at hl 0 rfl) ?_
        refine zv_if_eq (tgt := 68) hx hb d_M_wrongNumber_53 (by decide) (by omega) (fun hc_72 => ?_) (fun hc_72 => ?_)
        · skip
          exact jn_1 x_70 _ (by omega) (lv_sub hl [1, 2, 0] rfl)
        · skip
          refine lv_iload_n hx hb d_M_wrongNumber_56 rfl (lv_at hl 0 rfl) ?_
          refine lv_bipush (v := iI 8) hx hb d_M_wrongNumber_57 (by decide) ?_
          refine zv_icmp_eq (tgt := 68) hx hb d_M_wrongNumber_59 (by decide) (by omega) (by omega) (fun hc_73 => ?_) (fun hc_73 => ?_)
          · skip
            exact jn_1 x_70 _ (by omega) (lv_sub hl [1, 2, 0] rfl)
          · skip
            refine lv_lload_n hx hb d_M_wrongNumber_62 rfl (lv_at hl 2 rfl) ?_
            refine lv_ldc2 (v := 10) hx hb hown (ht _ zm_905) d_M_wrongNumber_63 ?_
            refine zv_litL 10 (by decide) ?_
            refine zv_ladd (z := k + 10) hx hb d_M_wrongNumber_66 (by omega) ?_
            exact zretRl hx hb hr hlk (⟨_, rfl, Or.inr (Or.inr (Or.inl ⟨by omega, by omega, by omega, by omega⟩)), by omega⟩) d_M_wrongNumber_67
      · skip
        refine lv_lload_n hx hb d_M_wrongNumber_36 rfl (lv_at hl 1 rfl) ?_
        refine lv_ldc2 (v := 8) hx hb hown (ht _ zm_904) d_M_wrongNumber_37 ?_
        refine zv_litL 8 (by decide) ?_
        refine zv_ladd (z := k + 8) hx hb d_M_wrongNumber_40 (by omega) ?_
        exact zretRl hx hb hr hlk (⟨_, rfl, Or.inr (Or.inl ⟨by omega, by omega, by omega⟩), by omega⟩) d_M_wrongNumber_41
    · skip
      refine lv_lload_n hx hb d_M_wrongNumber_14 rfl (lv_at hl 1 rfl) ?_
      refine lv_ldc2 (v := 6) hx hb hown (ht _ zm_903) d_M_wrongNumber_15 ?_
      refine zv_litL 6 (by decide) ?_
      refine zv_ladd (z := k + 6) hx hb d_M_wrongNumber_18 (by omega) ?_
      exact zretRl hx hb hr hlk (⟨_, rfl, Or.inl ⟨by omega, by omega⟩, by omega⟩) d_M_wrongNumber_19)
set_option maxHeartbeats 4000000 in
set_option maxRecDepth 100000 in
theorem m_pl (l : Launch) (D : va_G) (b : Int) (h1 : -2147483648 ≤ b ∧ b ≤ 2147483647) : Met l y_M_isPlain (Cond.code y_M_isPlain prog_10_method_15_code 1 (Option.some Jvm.ClassFile.FieldType.boolean) :: zt) { frames := 0, cells := 0, slots := 0, locals := 0 } (zPcR [.int (iI b)] D [] [] (fun _ => True)) (zQR (fun (r : Int32) => ∃ x : Int, r = iI x ∧ ((zTf x (zpl b)) ∧ 0 ≤ x ∧ x ≤ 1))) 0 0 (fun _ => False) :=
  zMetR (by decide) (Nat.le_of_ble_eq_true rfl) (fun p e s m below meth c ls hx hb hr hml hown ht hlk hK hP hX hl => by
    have hl : lv_has ls 1 [(0, .int (iI b))] := hl
    refine lv_iload_n hx hb d_M_isPlain_0 rfl (lv_at hl 0 rfl) ?_
    refine lv_bipush (v := iI 32) hx hb d_M_isPlain_1 (by decide) ?_
    refine zv_icmp_lt (tgt := 12) hx hb d_M_isPlain_3 (by decide) (by omega) (by omega) (fun hc_1 => ?_) (fun hc_1 => ?_)
    · skip
      refine lv_iconst (v := iI 0) hx hb d_M_isPlain_12 (by decide) ?_
      exact zretRz hx hb hr hlk (⟨_, rfl, by unfold zTf zpl; omega, by omega⟩) (zn01 (by omega)) d_M_isPlain_13
    · skip
      refine lv_iload_n hx hb d_M_isPlain_6 rfl (lv_at hl 0 rfl) ?_
      refine lv_bipush (v := iI 126) hx hb d_M_isPlain_7 (by decide) ?_
      refine zv_icmp_le (tgt := 14) hx hb d_M_isPlain_9 (by decide) (by omega) (by omega) (fun hc_2 => ?_) (fun hc_2 => ?_)
      · skip
        refine lv_iload_n hx hb d_M_isPlain_14 rfl (lv_at hl 0 rfl) ?_
        refine lv_bipush (v := iI 92) hx hb d_M_isPlain_15 (by decide) ?_
        refine zv_icmp_eq (tgt := 66) hx hb d_M_isPlain_17 (by decide) (by omega) (by omega) (fun hc_3 => ?_) (fun hc_3 => ?_)
        · skip
          refine lv_iconst (v := iI 0) hx hb d_M_isPlain_66 (by decide) ?_
          exact zretRz hx hb hr hlk (⟨_, rfl, by unfold zTf zpl; omega, by omega⟩) (zn01 (by omega)) d_M_isPlain_67
        · skip
          refine lv_iload_n hx hb d_M_isPlain_20 rfl (lv_at hl 0 rfl) ?_
          refine lv_bipush (v := iI 58) hx hb d_M_isPlain_21 (by decide) ?_
          refine zv_icmp_eq (tgt := 66) hx hb d_M_isPlain_23 (by decide) (by omega) (by omega) (fun hc_4 => ?_) (fun hc_4 => ?_)
          · skip
            refine lv_iconst (v := iI 0) hx hb d_M_isPlain_66 (by decide) ?_
            exact zretRz hx hb hr hlk (⟨_, rfl, by unfold zTf zpl; omega, by omega⟩) (zn01 (by omega)) d_M_isPlain_67
          · skip
            refine lv_iload_n hx hb d_M_isPlain_26 rfl (lv_at hl 0 rfl) ?_
            refine lv_bipush (v := iI 42) hx hb d_M_isPlain_27 (by decide) ?_
            refine zv_icmp_eq (tgt := 66) hx hb d_M_isPlain_29 (by decide) (by omega) (by omega) (fun hc_5 => ?_) (fun hc_5 => ?_)
            · skip
              refine lv_iconst (v := iI 0) hx hb d_M_isPlain_66 (by decide) ?_
              exact zretRz hx hb hr hlk (⟨_, rfl, by unfold zTf zpl; omega, by omega⟩) (zn01 (by omega)) d_M_isPlain_67
            · skip
              refine lv_iload_n hx hb d_M_isPlain_32 rfl (lv_at hl 0 rfl) ?_
              refine lv_bipush (v := iI 63) hx hb d_M_isPlain_33 (by decide) ?_
              refine zv_icmp_eq (tgt := 66) hx hb d_M_isPlain_35 (by decide) (by omega) (by omega) (fun hc_6 => ?_) (fun hc_6 => ?_)
              · skip
                refine lv_iconst (v := iI 0) hx hb d_M_isPlain_66 (by decide) ?_
                exact zretRz hx hb hr hlk (⟨_, rfl, by unfold zTf zpl; omega, by omega⟩) (zn01 (by omega)) d_M_isPlain_67
              · skip
                refine lv_iload_n hx hb d_M_isPlain_38 rfl (lv_at hl 0 rfl) ?_
                refine lv_bipush (v := iI 34) hx hb d_M_isPlain_39 (by decide) ?_
                refine zv_icmp_eq (tgt := 66) hx hb d_M_isPlain_41 (by decide) (by omega) (by omega) (fun hc_7 => ?_) (fun hc_7 => ?_)
                · skip
                  refine lv_iconst (v := iI 0) hx hb d_M_isPlain_66 (by decide) ?_
                  exact zretRz hx hb hr hlk (⟨_, rfl, by unfold zTf zpl; omega, by omega⟩) (zn01 (by omega)) d_M_isPlain_67
                · skip
                  refine lv_iload_n hx hb d_M_isPlain_44 rfl (lv_at hl 0 rfl) ?_
                  refine lv_bipush (v := iI 60) hx hb d_M_isPlain_45 (by decide) ?_
                  refine zv_icmp_eq (tgt := 66) hx hb d_M_isPlain_47 (by decide) (by omega) (by omega) (fun hc_8 => ?_) (fun hc_8 => ?_)
                  · skip
                    refine lv_iconst (v := iI 0) hx hb d_M_isPlain_66 (by decide) ?_
                    exact zretRz hx hb hr hlk (⟨_, rfl, by unfold zTf zpl; omega, by omega⟩) (zn01 (by omega)) d_M_isPlain_67
                  · skip
                    refine lv_iload_n hx hb d_M_isPlain_50 rfl (lv_at hl 0 rfl) ?_
                    refine lv_bipush (v := iI 62) hx hb d_M_isPlain_51 (by decide) ?_
                    refine zv_icmp_eq (tgt := 66) hx hb d_M_isPlain_53 (by decide) (by omega) (by omega) (fun hc_9 => ?_) (fun hc_9 => ?_)
                    · skip
                      refine lv_iconst (v := iI 0) hx hb d_M_isPlain_66 (by decide) ?_
                      exact zretRz hx hb hr hlk (⟨_, rfl, by unfold zTf zpl; omega, by omega⟩) (zn01 (by omega)) d_M_isPlain_67
                    · skip
                      refine lv_iload_n hx hb d_M_isPlain_56 rfl (lv_at hl 0 rfl) ?_
                      refine lv_bipush (v := iI 124) hx hb d_M_isPlain_57 (by decide) ?_
                      refine zv_icmp_eq (tgt := 66) hx hb d_M_isPlain_59 (by decide) (by omega) (by omega) (fun hc_10 => ?_) (fun hc_10 => ?_)
                      · skip
                        refine lv_iconst (v := iI 0) hx hb d_M_isPlain_66 (by decide) ?_
                        exact zretRz hx hb hr hlk (⟨_, rfl, by unfold zTf zpl; omega, by omega⟩) (zn01 (by omega)) d_M_isPlain_67
                      · skip
                        refine lv_iconst (v := iI 1) hx hb d_M_isPlain_62 (by decide) ?_
                        refine lv_goto (tgt := 67) hx hb d_M_isPlain_63 (by decide) ?_
                        exact zretRz hx hb hr hlk (⟨_, rfl, by unfold zTf zpl; omega, by omega⟩) (zn01 (by omega)) d_M_isPlain_67
      · skip
        refine lv_iconst (v := iI 0) hx hb d_M_isPlain_12 (by decide) ?_
        exact zretRz hx hb hr hlk (⟨_, rfl, by unfold zTf zpl; omega, by omega⟩) (zn01 (by omega)) d_M_isPlain_13)
set_option maxHeartbeats 4000000 in
set_option maxRecDepth 100000 in
theorem m_nm (l : Launch) (D : va_G) (qm : Nat) (qT : Nat) (len : Int) (op : Int) (fp : Int) (bu : Int) (ra : Int) (en : Int) (qMe : Nat) (qPk : Nat) (qSz : Nat) (qSu : Nat) (qDa : Nat) (qLo : Nat) (qLe : Nat) (qNa : Nat) (qNs : Nat) (qSt : Nat) (qSa : Nat) (qCo : Nat) (qWr : Nat) (to : Int) (nw : Int) (bt : Int) (rf : Int) (qLn : Nat) (qSm : Nat) (qCd : Nat) (qSc : Nat) (sy : Int) (di : Int) (th : Int) (cT : ClassId) (fT : Nat → Int32) (k0 : Int) (n : Int) (hlen : 0 ≤ len ∧ len ≤ 20000) (hk : 0 ≤ k0 ∧ 0 ≤ n ∧ n ≤ 65535 ∧ k0 + n ≤ len) : Met l y_M_isName (Cond.code y_M_isName prog_10_method_16_code 10 (Option.some Jvm.ClassFile.FieldType.boolean) :: zt) { frames := 1, cells := 0, slots := 0, locals := 22 } (zPcR [.ref qm, .long (lI k0), .int (iI n)] D [(qm, .inr (8, [.ref qT, .int (iI len), .int (iI op), .int (iI fp), .int (iI bu), .int (iI ra), .int (iI en), .ref qMe, .ref qPk, .ref qSz, .ref qSu, .ref qDa, .ref qLo, .ref qLe, .ref qNa, .ref qNs, .ref qSt, .ref qSa, .ref qCo, .ref qWr, .int (iI to), .int (iI nw), .int (iI bt), .int (iI rf), .ref qLn, .ref qSm, .ref qCd, .ref qSc, .int (iI sy), .int (iI di), .int (iI th)])), (qT, .inl (cT, 20000, .inl fT))] [(cT, .byte)] (fun _ => True)) (zQR (fun (r : Int32) => ∃ x : Int, r = iI x ∧ ((zTf x (zNm (zC1 fT len) k0 n)) ∧ 0 ≤ x ∧ x ≤ 1 ∧ (x = 1 → 1 ≤ n ∧ n ≤ 60)))) 0 0 (fun _ => False) :=
  zMetR (by decide) (Nat.le_of_ble_eq_true rfl) (fun p e s m below meth c ls hx hb hr hml hown ht hlk hK hP hX hl => by
    have hl : lv_has ls 10 [(0, .ref qm), (1, .long (lI k0)), (3, .int (iI n))] := hl
    refine lv_iload_n hx hb d_M_isName_0 rfl (lv_at hl 2 rfl) ?_
    refine lv_iconst (v := iI 1) hx hb d_M_isName_1 (by decide) ?_
    refine zv_icmp_lt (tgt := 11) hx hb d_M_isName_2 (by decide) (by omega) (by omega) (fun hc_1 => ?_) (fun hc_1 => ?_)
    · skip
      refine lv_iconst (v := iI 0) hx hb d_M_isName_11 (by decide) ?_
      exact zretRz hx hb hr hlk (⟨_, rfl, zTf_0 (zNm_no (by omega)), by omega⟩) (zn01 (by omega)) d_M_isName_12
    · skip
      refine lv_iload_n hx hb d_M_isName_5 rfl (lv_at hl 2 rfl) ?_
      refine lv_bipush (v := iI 60) hx hb d_M_isName_6 (by decide) ?_
      refine zv_icmp_le (tgt := 13) hx hb d_M_isName_8 (by decide) (by omega) (by omega) (fun hc_2 => ?_) (fun hc_2 => ?_)
      · skip
        refine lv_iconst (v := iI 0) hx hb d_M_isName_13 (by decide) ?_
        refine lv_istore (lv' := [(4, .int (iI 0)), (0, .ref qm), (1, .long (lI k0)), (3, .int (iI n))]) hx hb d_M_isName_14 hl (by decide) rfl (fun ls hl => ?_)
        refine lv_iconst (v := iI 0) hx hb d_M_isName_16 (by decide) ?_
        refine lv_istore (lv' := [(5, .int (iI 0)), (4, .int (iI 0)), (0, .ref qm), (1, .long (lI k0)), (3, .int (iI n))]) hx hb d_M_isName_17 hl (by decide) rfl (fun ls hl => ?_)
        refine lv_iconst (v := iI 0) hx hb d_M_isName_19 (by decide) ?_
        refine lv_istore (lv' := [(6, .int (iI 0)), (5, .int (iI 0)), (4, .int (iI 0)), (0, .ref qm), (1, .long (lI k0)), (3, .int (iI n))]) hx hb d_M_isName_20 hl (by decide) rfl (fun ls hl => ?_)
        have lp22 : ∀ (j : Nat) (k : Int) (st : Int) (pa : Int) (ls : Array Slot), (0 ≤ k ∧ k ≤ n + 1) → (0 ≤ st ∧ st ≤ k) → (0 ≤ pa ∧ pa ≤ k) → (zNj (zC1 fT len) k0 n k pa st) → (n + 1 - k < (j : Int)) → lv_has ls 10 [(6, .int (iI k)), (5, .int (iI st)), (4, .int (iI pa)), (0, .ref qm), (1, .long (lI k0)), (3, .int (iI n))] → W p l e { frames := 1, cells := 0, slots := 0, locals := 22 } s m [.ref qm, .long (lI k0), .int (iI n)].toArray below meth c s.heap [] 0 0 (MQ below (zQR (fun (r : Int32) => ∃ x : Int, r = iI x ∧ ((zTf x (zNm (zC1 fT len) k0 n)) ∧ 0 ≤ x ∧ x ≤ 1 ∧ (x = 1 → 1 ≤ n ∧ n ≤ 60)))) [.ref qm, .long (lI k0), .int (iI n)].toArray s 0 0 (fun _ => False)) (F0 m 22 ls []) := by
          intro j
          induction j with
          | zero => intro k st pa ls hk1 hk2 hk3 hnj hj22 hl; exfalso; omega
          | succ j ih22 =>
            intro k st pa ls hk1 hk2 hk3 hnj hj22 hl
            refine lv_iload hx hb d_M_isName_22 (lv_at hl 0 rfl) ?_
            refine lv_iload_n hx hb d_M_isName_24 rfl (lv_at hl 5 rfl) ?_
            refine zv_icmp_gt (tgt := 190) hx hb d_M_isName_25 (by decide) (by omega) (by omega) (fun hc_3 => ?_) (fun hc_3 => ?_)
            · skip
              refine lv_iload hx hb d_M_isName_190 (lv_at hl 2 rfl) ?_
              refine lv_bipush (v := iI 8) hx hb d_M_isName_192 (by decide) ?_
              refine zv_icmp_gt (tgt := 201) hx hb d_M_isName_194 (by decide) (by omega) (by omega) (fun hc_4 => ?_) (fun hc_4 => ?_)
              · skip
                refine lv_iconst (v := iI 0) hx hb d_M_isName_201 (by decide) ?_
                exact zretRz hx hb hr hlk (⟨_, rfl, zTf_0 (mt (zNj_end hnj (by omega) (by omega)).mp (by omega)), by omega⟩) (zn01 (by omega)) d_M_isName_202
              · skip
                refine lv_iconst (v := iI 1) hx hb d_M_isName_197 (by decide) ?_
                refine lv_goto (tgt := 202) hx hb d_M_isName_198 (by decide) ?_
                exact zretRz hx hb hr hlk (⟨_, rfl, zTf_1 ((zNj_end hnj (by omega) (by omega)).mpr (by omega)), by omega⟩) (zn01 (by omega)) d_M_isName_202
            · skip
              have jn_5 : ∀ (bb : Int) (ls : Array Slot), (-2147483648 ≤ bb ∧ bb ≤ 2147483647) → (k < n ∧ bb = zC1 fT len (k0 + k) ∨ k = n ∧ bb = 47) → lv_has ls 10 [(6, .int (iI k)), (5, .int (iI st)), (4, .int (iI pa)), (0, .ref qm), (1, .long (lI k0)), (3, .int (iI n)), (7, .int (iI bb))] → W p l e { frames := 1, cells := 0, slots := 0, locals := 22 } s m [.ref qm, .long (lI k0), .int (iI n)].toArray below meth c s.heap [] 0 0 (MQ below (zQR (fun (r : Int32) => ∃ x : Int, r = iI x ∧ ((zTf x (zNm (zC1 fT len) k0 n)) ∧ 0 ≤ x ∧ x ≤ 1 ∧ (x = 1 → 1 ≤ n ∧ n ≤ 60)))) [.ref qm, .long (lI k0), .int (iI n)].toArray s 0 0 (fun _ => False)) (F0 m 50 ls []) := by
                intro bb ls hbb hbc hl
                refine lv_iload hx hb d_M_isName_50 (lv_at hl 6 rfl) ?_
                refine zjR (va_runS (As := [.int (iI bb)]) (rest := []) ⟨hx, hb, hml, hown, ht⟩ (m_pl l D bb (by omega)) (cwS 1 ht (zt_goodS zm_913 zm_914 zm_79 zm_915) rfl rfl rfl (by decide +kernel) ⟨Nat.le_of_ble_eq_true rfl, Nat.le_of_ble_eq_true rfl⟩) (zpreR zBlind_t hK hP [] [] rfl rfl (fun _ _ _ => trivial)) rfl rfl hl.1 rfl (lv_room (Nat.le_of_ble_eq_true rfl)) d_M_isName_52 ⟨Nat.le_of_ble_eq_true rfl, Nat.le_of_ble_eq_true rfl⟩) (fun r6 hp7 => ?_)
                obtain ⟨x_8, he_9, hp7⟩ := hp7
                subst he_9
                refine zv_if_ne (tgt := 60) hx hb d_M_isName_55 (by decide) (by omega) (fun hc_10 => ?_) (fun hc_10 => ?_)
                · skip
                  have htf_11 := zTf_t hp7.1 hc_10
                  refine lv_iload hx hb d_M_isName_60 (lv_at hl 6 rfl) ?_
                  refine lv_bipush (v := iI 47) hx hb d_M_isName_62 (by decide) ?_
                  refine zv_icmp_eq (tgt := 70) hx hb d_M_isName_64 (by decide) (by omega) (by omega) (fun hc_12 => ?_) (fun hc_12 => ?_)
                  · skip
                    refine lv_iload hx hb d_M_isName_70 (lv_at hl 0 rfl) ?_
                    refine lv_iload hx hb d_M_isName_72 (lv_at hl 1 rfl) ?_
                    refine zv_isub (z := k - st) hx hb d_M_isName_74 (by omega) ?_
                    refine lv_istore (lv' := [(8, .int (iI (k - st))), (6, .int (iI k)), (5, .int (iI st)), (4, .int (iI pa)), (0, .ref qm), (1, .long (lI k0)), (3, .int (iI n)), (7, .int (iI bb))]) hx hb d_M_isName_75 hl (by decide) rfl (fun ls hl => ?_)
                    have jn_13 : ∀ (dt : Int) (ls : Array Slot), ((dt = 1 ∧ ((k - st) = 1 ∧ zC1 fT len (k0 + st) = 46 ∨ (k - st) = 2 ∧ zC1 fT len (k0 + st) = 46 ∧ zC1 fT len (k0 + st + 1) = 46)) ∨ (dt = 0 ∧ ¬ ((k - st) = 1 ∧ zC1 fT len (k0 + st) = 46 ∨ (k - st) = 2 ∧ zC1 fT len (k0 + st) = 46 ∧ zC1 fT len (k0 + st + 1) = 46))) → lv_has ls 10 [(8, .int (iI (k - st))), (6, .int (iI k)), (5, .int (iI st)), (4, .int (iI pa)), (0, .ref qm), (1, .long (lI k0)), (3, .int (iI n)), (7, .int (iI bb)), (9, .int (iI dt))] → W p l e { frames := 1, cells := 0, slots := 0, locals := 22 } s m [.ref qm, .long (lI k0), .int (iI n)].toArray below meth c s.heap [] 0 0 (MQ below (zQR (fun (r : Int32) => ∃ x : Int, r = iI x ∧ ((zTf x (zNm (zC1 fT len) k0 n)) ∧ 0 ≤ x ∧ x ≤ 1 ∧ (x = 1 → 1 ≤ n ∧ n ≤ 60)))) [.ref qm, .long (lI k0), .int (iI n)].toArray s 0 0 (fun _ => False)) (F0 m 140 ls []) := by
                      intro dt ls hdt hl
                      refine lv_iload hx hb d_M_isName_140 (lv_at hl 0 rfl) ?_
                      refine zv_if_ne (tgt := 156) hx hb d_M_isName_142 (by decide) (by omega) (fun hc_14 => ?_) (fun hc_14 => ?_)
                      · skip
                        refine lv_iload hx hb d_M_isName_156 (lv_at hl 8 rfl) ?_
                        refine zv_if_eq (tgt := 163) hx hb d_M_isName_158 (by decide) (by omega) (fun hc_15 => ?_) (fun hc_15 => ?_)
                        · skip
                          have jn_16 : ∀ (pb : Int) (ls : Array Slot), (0 < (k - st) ∧ pb = pa + 1 ∨ (k - st) ≤ 0 ∧ pb = pa) → lv_has ls 10 [(8, .int (iI (k - st))), (6, .int (iI k)), (5, .int (iI st)), (0, .ref qm), (1, .long (lI k0)), (3, .int (iI n)), (7, .int (iI bb)), (9, .int (iI dt)), (4, .int (iI pb))] → W p l e { frames := 1, cells := 0, slots := 0, locals := 22 } s m [.ref qm, .long (lI k0), .int (iI n)].toArray below meth c s.heap [] 0 0 (MQ below (zQR (fun (r : Int32) => ∃ x : Int, r = iI x ∧ ((zTf x (zNm (zC1 fT len) k0 n)) ∧ 0 ≤ x ∧ x ≤ 1 ∧ (x = 1 → 1 ≤ n ∧ n ≤ 60)))) [.ref qm, .long (lI k0), .int (iI n)].toArray s 0 0 (fun _ => False)) (F0 m 178 ls []) := by
                            intro pb ls hpb hl
                            refine lv_iload hx hb d_M_isName_178 (lv_at hl 1 rfl) ?_
                            refine lv_iconst (v := iI 1) hx hb d_M_isName_180 (by decide) ?_
                            refine zv_iadd (z := k + 1) hx hb d_M_isName_181 (by omega) ?_
                            refine lv_istore (lv' := [(5, .int (iI (k + 1))), (8, .int (iI (k - st))), (6, .int (iI k)), (0, .ref qm), (1, .long (lI k0)), (3, .int (iI n)), (7, .int (iI bb)), (9, .int (iI dt)), (4, .int (iI pb))]) hx hb d_M_isName_182 hl (by decide) rfl (fun ls hl => ?_)
                            refine lv_iinc (k := 2) (v := iI (k + 1)) (lv' := [(6, .int (iI (k + 1))), (5, .int (iI (k + 1))), (8, .int (iI (k - st))), (0, .ref qm), (1, .long (lI k0)), (3, .int (iI n)), (7, .int (iI bb)), (9, .int (iI dt)), (4, .int (iI pb))]) hx hb d_M_isName_184 hl rfl (zinc (by omega)) (by decide) rfl (fun ls hl => ?_)
                            refine lv_goto (tgt := 22) hx hb d_M_isName_187 (by decide) ?_
                            exact ih22 (k + 1) (k + 1) pb _ (by omega) (by omega) (by omega) (zNj_step hnj (by omega) hbc (by assumption) (by omega) rfl hdt (by omega) (by omega) hpb) (by omega) (lv_sub hl [0, 1, 8, 3, 4, 5] rfl)
                          refine lv_iload hx hb d_M_isName_163 (lv_at hl 3 rfl) ?_
                          refine lv_iload hx hb d_M_isName_165 (lv_at hl 0 rfl) ?_
                          refine zv_if_le (tgt := 174) hx hb d_M_isName_167 (by decide) (by omega) (fun hc_17 => ?_) (fun hc_17 => ?_)
                          · skip
                            refine lv_iconst (v := iI 0) hx hb d_M_isName_174 (by decide) ?_
                            refine zv_iadd (z := pa) hx hb d_M_isName_175 (by omega) ?_
                            refine lv_istore (lv' := [(4, .int (iI pa)), (8, .int (iI (k - st))), (6, .int (iI k)), (5, .int (iI st)), (0, .ref qm), (1, .long (lI k0)), (3, .int (iI n)), (7, .int (iI bb)), (9, .int (iI dt))]) hx hb d_M_isName_176 hl (by decide) rfl (fun ls hl => ?_)
                            exact jn_16 pa _ (by omega) (lv_sub hl [1, 2, 3, 4, 5, 6, 7, 8, 0] rfl)
                          · skip
                            refine lv_iconst (v := iI 1) hx hb d_M_isName_170 (by decide) ?_
                            refine lv_goto (tgt := 175) hx hb d_M_isName_171 (by decide) ?_
                            refine zv_iadd (z := pa + 1) hx hb d_M_isName_175 (by omega) ?_
                            refine lv_istore (lv' := [(4, .int (iI (pa + 1))), (8, .int (iI (k - st))), (6, .int (iI k)), (5, .int (iI st)), (0, .ref qm), (1, .long (lI k0)), (3, .int (iI n)), (7, .int (iI bb)), (9, .int (iI dt))]) hx hb d_M_isName_176 hl (by decide) rfl (fun ls hl => ?_)
                            exact jn_16 (pa + 1) _ (by omega) (lv_sub hl [1, 2, 3, 4, 5, 6, 7, 8, 0] rfl)
                        · skip
                          refine lv_iconst (v := iI 0) hx hb d_M_isName_161 (by decide) ?_
                          exact zretRz hx hb hr hlk (⟨_, rfl, zTf_0 (zNm_stepj hnj (by omega) hbc (by omega) rfl hdt (by omega)), by omega⟩) (zn01 (by omega)) d_M_isName_162
                      · skip
                        refine lv_iload hx hb d_M_isName_145 (lv_at hl 1 rfl) ?_
                        refine lv_iload_n hx hb d_M_isName_147 rfl (lv_at hl 6 rfl) ?_
                        refine zv_icmp_lt (tgt := 161) hx hb d_M_isName_148 (by decide) (by omega) (by omega) (fun hc_18 => ?_) (fun hc_18 => ?_)
                        · skip
                          refine lv_iconst (v := iI 0) hx hb d_M_isName_161 (by decide) ?_
                          exact zretRz hx hb hr hlk (⟨_, rfl, zTf_0 (zNm_stepj hnj (by omega) hbc (by omega) rfl hdt (by omega)), by omega⟩) (zn01 (by omega)) d_M_isName_162
                        · skip
                          refine lv_iload hx hb d_M_isName_151 (lv_at hl 1 rfl) ?_
                          refine zv_if_eq (tgt := 161) hx hb d_M_isName_153 (by decide) (by omega) (fun hc_19 => ?_) (fun hc_19 => ?_)
                          · skip
                            refine lv_iconst (v := iI 0) hx hb d_M_isName_161 (by decide) ?_
                            exact zretRz hx hb hr hlk (⟨_, rfl, zTf_0 (zNm_stepj hnj (by omega) hbc (by omega) rfl hdt (by omega)), by omega⟩) (zn01 (by omega)) d_M_isName_162
                          · skip
                            refine lv_iload hx hb d_M_isName_156 (lv_at hl 8 rfl) ?_
                            refine zv_if_eq (tgt := 163) hx hb d_M_isName_158 (by decide) (by omega) (fun hc_20 => ?_) (fun hc_20 => ?_)
                            · skip
                              have jn_21 : ∀ (pb : Int) (ls : Array Slot), (0 < (k - st) ∧ pb = pa + 1 ∨ (k - st) ≤ 0 ∧ pb = pa) → lv_has ls 10 [(8, .int (iI (k - st))), (6, .int (iI k)), (5, .int (iI st)), (0, .ref qm), (1, .long (lI k0)), (3, .int (iI n)), (7, .int (iI bb)), (9, .int (iI dt)), (4, .int (iI pb))] → W p l e { frames := 1, cells := 0, slots := 0, locals := 22 } s m [.ref qm, .long (lI k0), .int (iI n)].toArray below meth c s.heap [] 0 0 (MQ below (zQR (fun (r : Int32) => ∃ x : Int, r = iI x ∧ ((zTf x (zNm (zC1 fT len) k0 n)) ∧ 0 ≤ x ∧ x ≤ 1 ∧ (x = 1 → 1 ≤ n ∧ n ≤ 60)))) [.ref qm, .long (lI k0), .int (iI n)].toArray s 0 0 (fun _ => False)) (F0 m 178 ls []) := by
                                intro pb ls hpb hl
                                refine lv_iload hx hb d_M_isName_178 (lv_at hl 1 rfl) ?_
                                refine lv_iconst (v := iI 1) hx hb d_M_isName_180 (by decide) ?_
                                refine zv_iadd (z := k + 1) hx hb d_M_isName_181 (by omega) ?_
                                refine lv_istore (lv' := [(5, .int (iI (k + 1))), (8, .int (iI (k - st))), (6, .int (iI k)), (0, .ref qm), (1, .long (lI k0)), (3, .int (iI n)), (7, .int (iI bb)), (9, .int (iI dt)), (4, .int (iI pb))]) hx hb d_M_isName_182 hl (by decide) rfl (fun ls hl => ?_)
                                refine lv_iinc (k := 2) (v := iI (k + 1)) (lv' := [(6, .int (iI (k + 1))), (5, .int (iI (k + 1))), (8, .int (iI (k - st))), (0, .ref qm), (1, .long (lI k0)), (3, .int (iI n)), (7, .int (iI bb)), (9, .int (iI dt)), (4, .int (iI pb))]) hx hb d_M_isName_184 hl rfl (zinc (by omega)) (by decide) rfl (fun ls hl => ?_)
                                refine lv_goto (tgt := 22) hx hb d_M_isName_187 (by decide) ?_
                                exact ih22 (k + 1) (k + 1) pb _ (by omega) (by omega) (by omega) (zNj_step hnj (by omega) hbc (by assumption) (by omega) rfl hdt (by omega) (by omega) hpb) (by omega) (lv_sub hl [0, 1, 8, 3, 4, 5] rfl)
                              refine lv_iload hx hb d_M_isName_163 (lv_at hl 3 rfl) ?_
                              refine lv_iload hx hb d_M_isName_165 (lv_at hl 0 rfl) ?_
                              refine zv_if_le (tgt := 174) hx hb d_M_isName_167 (by decide) (by omega) (fun hc_22 => ?_) (fun hc_22 => ?_)
                              · skip
                                refine lv_iconst (v := iI 0) hx hb d_M_isName_174 (by decide) ?_
                                refine zv_iadd (z := pa) hx hb d_M_isName_175 (by omega) ?_
                                refine lv_istore (lv' := [(4, .int (iI pa)), (8, .int (iI (k - st))), (6, .int (iI k)), (5, .int (iI st)), (0, .ref qm), (1, .long (lI k0)), (3, .int (iI n)), (7, .int (iI bb)), (9, .int (iI dt))]) hx hb d_M_isName_176 hl (by decide) rfl (fun ls hl => ?_)
                                exact jn_21 pa _ (by omega) (lv_sub hl [1, 2, 3, 4, 5, 6, 7, 8, 0] rfl)
                              · skip
                                refine lv_iconst (v := iI 1) hx hb d_M_isName_170 (by decide) ?_
                                refine lv_goto (tgt := 175) hx hb d_M_isName_171 (by decide) ?_
                                refine zv_iadd (z := pa + 1) hx hb d_M_isName_175 (by omega) ?_
                                refine lv_istore (lv' := [(4, .int (iI (pa + 1))), (8, .int (iI (k - st))), (6, .int (iI k)), (5, .int (iI st)), (0, .ref qm), (1, .long (lI k0)), (3, .int (iI n)), (7, .int (iI bb)), (9, .int (iI dt))]) hx hb d_M_isName_176 hl (by decide) rfl (fun ls hl => ?_)
                                exact jn_21 (pa + 1) _ (by omega) (lv_sub hl [1, 2, 3, 4, 5, 6, 7, 8, 0] rfl)
                            · skip
                              refine lv_iconst (v := iI 0) hx hb d_M_isName_161 (by decide) ?_
                              exact zretRz hx hb hr hlk (⟨_, rfl, zTf_0 (zNm_stepj hnj (by omega) hbc (by omega) rfl hdt (by omega)), by omega⟩) (zn01 (by omega)) d_M_isName_162
                    refine lv_iload hx hb d_M_isName_77 (lv_at hl 0 rfl) ?_
                    refine lv_iconst (v := iI 1) hx hb d_M_isName_79 (by decide) ?_
                    refine zv_icmp_ne (tgt := 97) hx hb d_M_isName_80 (by decide) (by omega) (by omega) (fun hc_23 => ?_) (fun hc_23 => ?_)
                    · skip
                      refine lv_iload hx hb d_M_isName_97 (lv_at hl 0 rfl) ?_
                      refine lv_iconst (v := iI 2) hx hb d_M_isName_99 (by decide) ?_
                      refine zv_icmp_ne (tgt := 137) hx hb d_M_isName_100 (by decide) (by omega) (by omega) (fun hc_24 => ?_) (fun hc_24 => ?_)
                      · skip
                        refine lv_iconst (v := iI 0) hx hb d_M_isName_137 (by decide) ?_
                        refine lv_istore (lv' := [(9, .int (iI 0)), (8, .int (iI (k - st))), (6, .int (iI k)), (5, .int (iI st)), (4, .int (iI pa)), (0, .ref qm), (1, .long (lI k0)), (3, .int (iI n)), (7, .int (iI bb))]) hx hb d_M_isName_138 hl (by decide) rfl (fun ls hl => ?_)
                        exact jn_13 0 _ (by omega) (lv_sub hl [1, 2, 3, 4, 5, 6, 7, 8, 0] rfl)
                      · skip
                        refine lv_aload_n hx hb d_M_isName_103 rfl (lv_at hl 4 rfl) ?_
                        refine lv_lload_n hx hb d_M_isName_104 rfl (lv_at hl 5 rfl) ?_
                        refine lv_iload hx hb d_M_isName_105 (lv_at hl 2 rfl) ?_
                        refine zv_i2l hx hb d_M_isName_107 (by omega) ?_
                        refine zv_ladd (z := k0 + st) hx hb d_M_isName_108 (by omega) ?_
                        refine zjR (va_runV (As := [.long (lI (k0 + st))]) (rest := []) ⟨hx, hb, hml, hown, ht⟩ (m_atL l D qm qT len op fp bu ra en qMe qPk qSz qSu qDa qLo qLe qNa qNs qSt qSa qCo qWr to nw bt rf qLn qSm qCd qSc sy di th cT fT (k0 + st) (by omega) (by omega)) (cwV 1 ht (zt_goodV zm_882 zm_883 zm_35 zm_79 zm_884) rfl rfl rfl (by decide +kernel) ⟨Nat.le_of_ble_eq_true rfl, Nat.le_of_ble_eq_true rfl⟩) (zpreRV zBlind_t hK hP [0, 1] [0] rfl rfl (fun _ _ _ => trivial) (va_recv (q := ("ZipGuardModel", F_M, 31)) hK hP rfl (q0 := 0) (ci := 8) rfl)) rfl rfl hl.1 rfl (lv_room (Nat.le_of_ble_eq_true rfl)) d_M_isName_109 ⟨Nat.le_of_ble_eq_true rfl, Nat.le_of_ble_eq_true rfl⟩) (fun r25 hp26 => ?_)
                        obtain ⟨x_27, he_28, hp26⟩ := hp26
                        subst he_28
                        refine lv_bipush (v := iI 46) hx hb d_M_isName_112 (by decide) ?_
                        refine zv_icmp_ne (tgt := 137) hx hb d_M_isName_114 (by decide) (by omega) (by omega) (fun hc_29 => ?_) (fun hc_29 => ?_)
                        · skip
                          refine lv_iconst (v := iI 0) hx hb d_M_isName_137 (by decide) ?_
                          refine lv_istore (lv' := [(9, .int (iI 0)), (8, .int (iI (k - st))), (6, .int (iI k)), (5, .int (iI st)), (4, .int (iI pa)), (0, .ref qm), (1, .long (lI k0)), (3, .int (iI n)), (7, .int (iI bb))]) hx hb d_M_isName_138 hl (by decide) rfl (fun ls hl => ?_)
                          exact jn_13 0 _ (by omega) (lv_sub hl [1, 2, 3, 4, 5, 6, 7, 8, 0] rfl)
                        · skip
                          refine lv_aload_n hx hb d_M_isName_117 rfl (lv_at hl 4 rfl) ?_
                          refine lv_lload_n hx hb d_M_isName_118 rfl (lv_at hl 5 rfl) ?_
                          refine lv_iload hx hb d_M_isName_119 (lv_at hl 2 rfl) ?_
                          refine zv_i2l hx hb d_M_isName_121 (by omega) ?_
                          refine zv_ladd (z := k0 + st) hx hb d_M_isName_122 (by omega) ?_
                          refine lv_lconst (v := lI 1) hx hb d_M_isName_123 (by decide) ?_
                          refine zv_ladd (z := k0 + st + 1) hx hb d_M_isName_124 (by omega) ?_
                          refine zjR (va_runV (As := [.long (lI (k0 + st + 1))]) (rest := []) ⟨hx, hb, hml, hown, ht⟩ (m_atL l D qm qT len op fp bu ra en qMe qPk qSz qSu qDa qLo qLe qNa qNs qSt qSa qCo qWr to nw bt rf qLn qSm qCd qSc sy di th cT fT (k0 + st + 1) (by omega) (by omega)) (cwV 1 ht (zt_goodV zm_882 zm_883 zm_35 zm_79 zm_884) rfl rfl rfl (by decide +kernel) ⟨Nat.le_of_ble_eq_true rfl, Nat.le_of_ble_eq_true rfl⟩) (zpreRV zBlind_t hK hP [0, 1] [0] rfl rfl (fun _ _ _ => trivial) (va_recv (q := ("ZipGuardModel", F_M, 31)) hK hP rfl (q0 := 0) (ci := 8) rfl)) rfl rfl hl.1 rfl (lv_room (Nat.le_of_ble_eq_true rfl)) d_M_isName_125 ⟨Nat.le_of_ble_eq_true rfl, Nat.le_of_ble_eq_true rfl⟩) (fun r30 hp31 => ?_)
                          obtain ⟨x_32, he_33, hp31⟩ := hp31
                          subst he_33
                          refine lv_bipush (v := iI 46) hx hb d_M_isName_128 (by decide) ?_
                          refine zv_icmp_ne (tgt := 137) hx hb d_M_isName_130 (by decide) (by omega) (by omega) (fun hc_34 => ?_) (fun hc_34 => ?_)
                          · skip
                            refine lv_iconst (v := iI 0) hx hb d_M_isName_137 (by decide) ?_
                            refine lv_istore (lv' := [(9, .int (iI 0)), (8, .int (iI (k - st))), (6, .int (iI k)), (5, .int (iI st)), (4, .int (iI pa)), (0, .ref qm), (1, .long (lI k0)), (3, .int (iI n)), (7, .int (iI bb))]) hx hb d_M_isName_138 hl (by decide) rfl (fun ls hl => ?_)
                            exact jn_13 0 _ (by omega) (lv_sub hl [1, 2, 3, 4, 5, 6, 7, 8, 0] rfl)
                          · skip
                            refine lv_iconst (v := iI 1) hx hb d_M_isName_133 (by decide) ?_
                            refine lv_goto (tgt := 138) hx hb d_M_isName_134 (by decide) ?_
                            refine lv_istore (lv' := [(9, .int (iI 1)), (8, .int (iI (k - st))), (6, .int (iI k)), (5, .int (iI st)), (4, .int (iI pa)), (0, .ref qm), (1, .long (lI k0)), (3, .int (iI n)), (7, .int (iI bb))]) hx hb d_M_isName_138 hl (by decide) rfl (fun ls hl => ?_)
                            exact jn_13 1 _ (by omega) (lv_sub hl [1, 2, 3, 4, 5, 6, 7, 8, 0] rfl)
                    · skip
                      refine lv_aload_n hx hb d_M_isName_83 rfl (lv_at hl 4 rfl) ?_
                      refine lv_lload_n hx hb d_M_isName_84 rfl (lv_at hl 5 rfl) ?_
                      refine lv_iload hx hb d_M_isName_85 (lv_at hl 2 rfl) ?_
                      refine zv_i2l hx hb d_M_isName_87 (by omega) ?_
                      refine zv_ladd (z := k0 + st) hx hb d_M_isName_88 (by omega) ?_
                      refine zjR (va_runV (As := [.long (lI (k0 + st))]) (rest := []) ⟨hx, hb, hml, hown, ht⟩ (m_atL l D qm qT len op fp bu ra en qMe qPk qSz qSu qDa qLo qLe qNa qNs qSt qSa qCo qWr to nw bt rf qLn qSm qCd qSc sy di th cT fT (k0 + st) (by omega) (by omega)) (cwV 1 ht (zt_goodV zm_882 zm_883 zm_35 zm_79 zm_884) rfl rfl rfl (by decide +kernel) ⟨Nat.le_of_ble_eq_true rfl, Nat.le_of_ble_eq_true rfl⟩) (zpreRV zBlind_t hK hP [0, 1] [0] rfl rfl (fun _ _ _ => trivial) (va_recv (q := ("ZipGuardModel", F_M, 31)) hK hP rfl (q0 := 0) (ci := 8) rfl)) rfl rfl hl.1 rfl (lv_room (Nat.le_of_ble_eq_true rfl)) d_M_isName_89 ⟨Nat.le_of_ble_eq_true rfl, Nat.le_of_ble_eq_true rfl⟩) (fun r35 hp36 => ?_)
                      obtain ⟨x_37, he_38, hp36⟩ := hp36
                      subst he_38
                      refine lv_bipush (v := iI 46) hx hb d_M_isName_92 (by decide) ?_
                      refine zv_icmp_eq (tgt := 133) hx hb d_M_isName_94 (by decide) (by omega) (by omega) (fun hc_39 => ?_) (fun hc_39 => ?_)
                      · skip
                        refine lv_iconst (v := iI 1) hx hb d_M_isName_133 (by decide) ?_
                        refine lv_goto (tgt := 138) hx hb d_M_isName_134 (by decide) ?_
                        refine lv_istore (lv' := [(9, .int (iI 1)), (8, .int (iI (k - st))), (6, .int (iI k)), (5, .int (iI st)), (4, .int (iI pa)), (0, .ref qm), (1, .long (lI k0)), (3, .int (iI n)), (7, .int (iI bb))]) hx hb d_M_isName_138 hl (by decide) rfl (fun ls hl => ?_)
                        exact jn_13 1 _ (by omega) (lv_sub hl [1, 2, 3, 4, 5, 6, 7, 8, 0] rfl)
                      · skip
                        refine lv_iload hx hb d_M_isName_97 (lv_at hl 0 rfl) ?_
                        refine lv_iconst (v := iI 2) hx hb d_M_isName_99 (by decide) ?_
                        refine zv_icmp_ne (tgt := 137) hx hb d_M_isName_100 (by decide) (by omega) (by omega) (fun hc_40 => ?_) (fun hc_40 => ?_)
                        · skip
                          refine lv_iconst (v := iI 0) hx hb d_M_isName_137 (by decide) ?_
                          refine lv_istore (lv' := [(9, .int (iI 0)), (8, .int (iI (k - st))), (6, .int (iI k)), (5, .int (iI st)), (4, .int (iI pa)), (0, .ref qm), (1, .long (lI k0)), (3, .int (iI n)), (7, .int (iI bb))]) hx hb d_M_isName_138 hl (by decide) rfl (fun ls hl => ?_)
                          exact jn_13 0 _ (by omega) (lv_sub hl [1, 2, 3, 4, 5, 6, 7, 8, 0] rfl)
                        · skip
                          refine lv_aload_n hx hb d_M_isName_103 rfl (lv_at hl 4 rfl) ?_
                          refine lv_lload_n hx hb d_M_isName_104 rfl (lv_at hl 5 rfl) ?_
                          refine lv_iload hx hb d_M_isName_105 (lv_at hl 2 rfl) ?_
                          refine zv_i2l hx hb d_M_isName_107 (by omega) ?_
                          refine zv_ladd (z := k0 + st) hx hb d_M_isName_108 (by omega) ?_
                          refine zjR (va_runV (As := [.long (lI (k0 + st))]) (rest := []) ⟨hx, hb, hml, hown, ht⟩ (m_atL l D qm qT len op fp bu ra en qMe qPk qSz qSu qDa qLo qLe qNa qNs qSt qSa qCo qWr to nw bt rf qLn qSm qCd qSc sy di th cT fT (k0 + st) (by omega) (by omega)) (cwV 1 ht (zt_goodV zm_882 zm_883 zm_35 zm_79 zm_884) rfl rfl rfl (by decide +kernel) ⟨Nat.le_of_ble_eq_true rfl, Nat.le_of_ble_eq_true rfl⟩) (zpreRV zBlind_t hK hP [0, 1] [0] rfl rfl (fun _ _ _ => trivial) (va_recv (q := ("ZipGuardModel", F_M, 31)) hK hP rfl (q0 := 0) (ci := 8) rfl)) rfl rfl hl.1 rfl (lv_room (Nat.le_of_ble_eq_true rfl)) d_M_isName_109 ⟨Nat.le_of_ble_eq_true rfl, Nat.le_of_ble_eq_true rfl⟩) (fun r41 hp42 => ?_)
                          obtain ⟨x_43, he_44, hp42⟩ := hp42
                          subst he_44
                          refine lv_bipush (v := iI 46) hx hb d_M_isName_112 (by decide) ?_
                          refine zv_icmp_ne (tgt := 137) hx hb d_M_isName_114 (by decide) (by omega) (by omega) (fun hc_45 => ?_) (fun hc_45 => ?_)
                          · skip
                            refine lv_iconst (v := iI 0) hx hb d_M_isName_137 (by decide) ?_
                            refine lv_istore (lv' := [(9, .int (iI 0)), (8, .int (iI (k - st))), (6, .int (iI k)), (5, .int (iI st)), (4, .int (iI pa)), (0, .ref qm), (1, .long (lI k0)), (3, .int (iI n)), (7, .int (iI bb))]) hx hb d_M_isName_138 hl (by decide) rfl (fun ls hl => ?_)
                            exact jn_13 0 _ (by omega) (lv_sub hl [1, 2, 3, 4, 5, 6, 7, 8, 0] rfl)
                          · skip
                            refine lv_aload_n hx hb d_M_isName_117 rfl (lv_at hl 4 rfl) ?_
                            refine lv_lload_n hx hb d_M_isName_118 rfl (lv_at hl 5 rfl) ?_
                            refine lv_iload hx hb d_M_isName_119 (lv_at hl 2 rfl) ?_
                            refine zv_i2l hx hb d_M_isName_121 (by omega) ?_
                            refine zv_ladd (z := k0 + st) hx hb d_M_isName_122 (by omega) ?_
                            refine lv_lconst (v := lI 1) hx hb d_M_isName_123 (by decide) ?_
                            refine zv_ladd (z := k0 + st + 1) hx hb d_M_isName_124 (by omega) ?_
                            refine zjR (va_runV (As := [.long (lI (k0 + st + 1))]) (rest := []) ⟨hx, hb, hml, hown, ht⟩ (m_atL l D qm qT len op fp bu ra en qMe qPk qSz qSu qDa qLo qLe qNa qNs qSt qSa qCo qWr to nw bt rf qLn qSm qCd qSc sy di th cT fT (k0 + st + 1) (by omega) (by omega)) (cwV 1 ht (zt_goodV zm_882 zm_883 zm_35 zm_79 zm_884) rfl rfl rfl (by decide +kernel) ⟨Nat.le_of_ble_eq_true rfl, Nat.le_of_ble_eq_true rfl⟩) (zpreRV zBlind_t hK hP [0, 1] [0] rfl rfl (fun _ _ _ => trivial) (va_recv (q := ("ZipGuardModel", F_M, 31)) hK hP rfl (q0 := 0) (ci := 8) rfl)) rfl rfl hl.1 rfl (lv_room (Nat.le_of_ble_eq_true rfl)) d_M_isName_125 ⟨Nat.le_of_ble_eq_true rfl, Nat.le_of_ble_eq_true rfl⟩) (fun r46 hp47 => ?_)
                            obtain ⟨x_48, he_49, hp47⟩ := hp47
                            subst he_49
                            refine lv_bipush (v := iI 46) hx hb d_M_isName_128 (by decide) ?_
                            refine zv_icmp_ne (tgt := 137) hx hb d_M_isName_130 (by decide) (by omega) (by omega) (fun hc_50 => ?_) (fun hc_50 => ?_)
                            · skip
                              refine lv_iconst (v := iI 0) hx hb d_M_isName_137 (by decide) ?_
                              refine lv_istore (lv' := [(9, .int (iI 0)), (8, .int (iI (k - st))), (6, .int (iI k)), (5, .int (iI st)), (4, .int (iI pa)), (0, .ref qm), (1, .long (lI k0)), (3, .int (iI n)), (7, .int (iI bb))]) hx hb d_M_isName_138 hl (by decide) rfl (fun ls hl => ?_)
                              exact jn_13 0 _ (by omega) (lv_sub hl [1, 2, 3, 4, 5, 6, 7, 8, 0] rfl)
                            · skip
                              refine lv_iconst (v := iI 1) hx hb d_M_isName_133 (by decide) ?_
                              refine lv_goto (tgt := 138) hx hb d_M_isName_134 (by decide) ?_
                              refine lv_istore (lv' := [(9, .int (iI 1)), (8, .int (iI (k - st))), (6, .int (iI k)), (5, .int (iI st)), (4, .int (iI pa)), (0, .ref qm), (1, .long (lI k0)), (3, .int (iI n)), (7, .int (iI bb))]) hx hb d_M_isName_138 hl (by decide) rfl (fun ls hl => ?_)
                              exact jn_13 1 _ (by omega) (lv_sub hl [1, 2, 3, 4, 5, 6, 7, 8, 0] rfl)
                  · skip
                    refine lv_goto (tgt := 184) hx hb d_M_isName_67 (by decide) ?_
                    refine lv_iinc (k := 0) (v := iI (k + 1)) (lv' := [(6, .int (iI (k + 1))), (5, .int (iI st)), (4, .int (iI pa)), (0, .ref qm), (1, .long (lI k0)), (3, .int (iI n)), (7, .int (iI bb))]) hx hb d_M_isName_184 hl rfl (zinc (by omega)) (by decide) rfl (fun ls hl => ?_)
                    refine lv_goto (tgt := 22) hx hb d_M_isName_187 (by decide) ?_
                    exact ih22 (k + 1) st pa _ (by omega) (by omega) (by omega) (zNj_next hnj (by omega) hbc (by assumption) (by omega)) (by omega) (lv_sub hl [0, 1, 2, 3, 4, 5] rfl)
                · skip
                  have htf_51 := zTf_f hp7.1 hc_10
                  refine lv_iconst (v := iI 0) hx hb d_M_isName_58 (by decide) ?_
                  exact zretRz hx hb hr hlk (⟨_, rfl, zTf_0 (zNm_bj (k := k) (by omega) hbc (by assumption)), by omega⟩) (zn01 (by omega)) d_M_isName_59
              refine lv_iload hx hb d_M_isName_28 (lv_at hl 0 rfl) ?_
              refine lv_iload_n hx hb d_M_isName_30 rfl (lv_at hl 5 rfl) ?_
              refine zv_icmp_ge (tgt := 46) hx hb d_M_isName_31 (by decide) (by omega) (by omega) (fun hc_52 => ?_) (fun hc_52 => ?_)
              · skip
                refine lv_bipush (v := iI 47) hx hb d_M_isName_46 (by decide) ?_
                refine lv_istore (lv' := [(7, .int (iI 47)), (6, .int (iI k)), (5, .int (iI st)), (4, .int (iI pa)), (0, .ref qm), (1, .long (lI k0)), (3, .int (iI n))]) hx hb d_M_isName_48 hl (by decide) rfl (fun ls hl => ?_)
                exact jn_5 47 _ (by omega) (by omega) (lv_sub hl [1, 2, 3, 4, 5, 6, 0] rfl)
              · skip
                refine lv_aload_n hx hb d_M_isName_34 rfl (lv_at hl 3 rfl) ?_
                refine lv_lload_n hx hb d_M_isName_35 rfl (lv_at hl 4 rfl) ?_
                refine lv_iload hx hb d_M_isName_36 (lv_at hl 0 rfl) ?_
                refine zv_i2l hx hb d_M_isName_38 (by omega) ?_
                refine zv_ladd (z := k0 + k) hx hb d_M_isName_39 (by omega) ?_
                refine zjR (va_runV (As := [.long (lI (k0 + k))]) (rest := []) ⟨hx, hb, hml, hown, ht⟩ (m_atL l D qm qT len op fp bu ra en qMe qPk qSz qSu qDa qLo qLe qNa qNs qSt qSa qCo qWr to nw bt rf qLn qSm qCd qSc sy di th cT fT (k0 + k) (by omega) (by omega)) (cwV 1 ht (zt_goodV zm_882 zm_883 zm_35 zm_79 zm_884) rfl rfl rfl (by decide +kernel) ⟨Nat.le_of_ble_eq_true rfl, Nat.le_of_ble_eq_true rfl⟩) (zpreRV zBlind_t hK hP [0, 1] [0] rfl rfl (fun _ _ _ => trivial) (va_recv (q := ("ZipGuardModel", F_M, 31)) hK hP rfl (q0 := 0) (ci := 8) rfl)) rfl rfl hl.1 rfl (lv_room (Nat.le_of_ble_eq_true rfl)) d_M_isName_40 ⟨Nat.le_of_ble_eq_true rfl, Nat.le_of_ble_eq_true rfl⟩) (fun r53 hp54 => ?_)
                obtain ⟨x_55, he_56, hp54⟩ := hp54
                subst he_56
                refine lv_goto (tgt := 48) hx hb d_M_isName_43 (by decide) ?_
                refine lv_istore (lv' := [(7, .int (iI x_55)), (6, .int (iI k)), (5, .int (iI st)), (4, .int (iI pa)), (0, .ref qm), (1, .long (lI k0)), (3, .int (iI n))]) hx hb d_M_isName_48 hl (by decide) rfl (fun ls hl => ?_)
                exact jn_5 x_55 _ (by omega) (by omega) (lv_sub hl [1, 2, 3, 4, 5, 6, 0] rfl)
        exact lp22 ((n + 1 - 0 + 1 : Int)).toNat 0 0 0 _ (by omega) (by omega) (by omega) (zNj_0 (by omega)) (by omega) hl
      · skip
        refine lv_iconst (v := iI 0) hx hb d_M_isName_11 (by decide) ?_
        exact zretRz hx hb hr hlk (⟨_, rfl, zTf_0 (zNm_no (by omega)), by omega⟩) (zn01 (by omega)) d_M_isName_12)
set_option maxHeartbeats 4000000 in
set_option maxRecDepth 100000 in
theorem m_nb (l : Launch) (D : va_G) (qm : Nat) (qT : Nat) (len : Int) (op : Int) (fp : Int) (bu : Int) (ra : Int) (en : Int) (qMe : Nat) (qPk : Nat) (qSz : Nat) (qSu : Nat) (qDa : Nat) (qLo : Nat) (qLe : Nat) (qNa : Nat) (qNs : Nat) (qSt : Nat) (qSa : Nat) (qCo : Nat) (qWr : Nat) (to : Int) (nw : Int) (bt : Int) (rf : Int) (qLn : Nat) (qSm : Nat) (qCd : Nat) (qSc : Nat) (sy : Int) (di : Int) (th : Int) (cNa : ClassId) (fNa : Nat → Int32) (i : Int) (k : Int) (hk : 0 ≤ 60 * i + k ∧ 60 * i + k < 3840) : Met l y_M_nameByte (Cond.code y_M_nameByte prog_10_method_17_code 3 (Option.some Jvm.ClassFile.FieldType.int) :: zt) { frames := 0, cells := 0, slots := 0, locals := 0 } (zPcR [.ref qm, .int (iI i), .int (iI k)] D [(qm, .inr (8, [.ref qT, .int (iI len), .int (iI op), .int (iI fp), .int (iI bu), .int (iI ra), .int (iI en), .ref qMe, .ref qPk, .ref qSz, .ref qSu, .ref qDa, .ref qLo, .ref qLe, .ref qNa, .ref qNs, .ref qSt, .ref qSa, .ref qCo, .ref qWr, .int (iI to), .int (iI nw), .int (iI bt), .int (iI rf), .ref qLn, .ref qSm, .ref qCd, .ref qSc, .int (iI sy), .int (iI di), .int (iI th)])), (qNa, .inl (cNa, 3840, .inl fNa))] [(cNa, .byte)] (fun _ => True)) (zQR (fun (r : Int32) => ∃ x : Int, r = iI x ∧ (x = zrI fNa (60 * i + k) ∧ -2147483648 ≤ x ∧ x ≤ 2147483647))) 0 0 (fun _ => False) :=
  zMetR (by decide) (Nat.le_of_ble_eq_true rfl) (fun p e s m below meth c ls hx hb hr hml hown ht hlk hK hP hX hl => by
    have hl : lv_has ls 3 [(0, .ref qm), (1, .int (iI i)), (2, .int (iI k))] := hl
    refine lv_aload_n hx hb d_M_nameByte_0 rfl (lv_at hl 0 rfl) ?_
    refine va_get (ci := 8) (C := "ZipGuardModel") (T := F_M) (N := 31) hx hb ht zi_M hown hK hP 0 rfl rfl 14 (by decide) (ht _ zm_766) (fun _ h9 => h9) rfl d_M_nameByte_1 ?_
    refine lv_bipush (v := iI 60) hx hb d_M_nameByte_4 (by decide) ?_
    refine lv_iload_n hx hb d_M_nameByte_6 rfl (lv_at hl 1 rfl) ?_
    refine zv_imul (z := 60 * i) hx hb d_M_nameByte_7 (by omega) ?_
    refine lv_iload_n hx hb d_M_nameByte_8 rfl (lv_at hl 2 rfl) ?_
    refine zv_iadd (z := 60 * i + k) hx hb d_M_nameByte_9 (by omega) ?_
    refine zv_bald hx hb hK hP 1 0 rfl rfl (by omega) (by decide) d_M_nameByte_10 (fun x_1 hz_2 ha_3 ha_4 => ?_)
    have hr_5 := zrI_of hz_2 ha_3 ha_4
    exact zretR hx hb hr hlk (⟨_, rfl, by omega⟩) d_M_nameByte_11)
set_option maxHeartbeats 4000000 in
set_option maxRecDepth 100000 in
theorem m_fo (l : Launch) (D : va_G) (qm : Nat) (qT : Nat) (len : Int) (op : Int) (fp : Int) (bu : Int) (ra : Int) (en : Int) (qMe : Nat) (qPk : Nat) (qSz : Nat) (qSu : Nat) (qDa : Nat) (qLo : Nat) (qLe : Nat) (qNa : Nat) (qNs : Nat) (qSt : Nat) (qSa : Nat) (qCo : Nat) (qWr : Nat) (to : Int) (nw : Int) (bt : Int) (rf : Int) (qLn : Nat) (qSm : Nat) (qCd : Nat) (qSc : Nat) (sy : Int) (di : Int) (th : Int) (cNa : ClassId) (fNa : Nat → Int32) (cNs : ClassId) (fNs : Nat → Int) (i : Int) (hi : 0 ≤ i ∧ i < 64) (h1 : 1 ≤ fNs i.toNat ∧ fNs i.toNat ≤ 60) : Met l y_M_isFolder (Cond.code y_M_isFolder prog_10_method_18_code 2 (Option.some Jvm.ClassFile.FieldType.boolean) :: zt) { frames := 1, cells := 0, slots := 0, locals := 22 } (zPcR [.ref qm, .int (iI i)] D [(qm, .inr (8, [.ref qT, .int (iI len), .int (iI op), .int (iI fp), .int (iI bu), .int (iI ra), .int (iI en), .ref qMe, .ref qPk, .ref qSz, .ref qSu, .ref qDa, .ref qLo, .ref qLe, .ref qNa, .ref qNs, .ref qSt, .ref qSa, .ref qCo, .ref qWr, .int (iI to), .int (iI nw), .int (iI bt), .int (iI rf), .ref qLn, .ref qSm, .ref qCd, .ref qSc, .int (iI sy), .int (iI di), .int (iI th)])), (qNa, .inl (cNa, 3840, .inl fNa)), (qNs, .inl (cNs, 64, .inl (fun k => iI (fNs k))))] [(cNa, .byte), (cNs, .int)] (fun _ => True)) (zQR (fun (r : Int32) => ∃ x : Int, r = iI x ∧ ((zTf x (zrN fNa i (fNs i.toNat - 1) = 47)) ∧ 0 ≤ x ∧ x ≤ 1))) 0 0 (fun _ => False) :=
  zMetR (by decide) (Nat.le_of_ble_eq_true rfl) (fun p e s m below meth c ls hx hb hr hml hown ht hlk hK hP hX hl => by
    have hl : lv_has ls 2 [(0, .ref qm), (1, .int (iI i))] := hl
    refine lv_aload_n hx hb d_M_isFolder_0 rfl (lv_at hl 0 rfl) ?_
    refine lv_iload_n hx hb d_M_isFolder_1 rfl (lv_at hl 1 rfl) ?_
    refine lv_aload_n hx hb d_M_isFolder_2 rfl (lv_at hl 0 rfl) ?_
    refine va_get (ci := 8) (C := "ZipGuardModel") (T := F_M) (N := 31) hx hb ht zi_M hown hK hP 0 rfl rfl 15 (by decide) (ht _ zm_767) (fun _ h9 => h9) rfl d_M_isFolder_3 ?_
    refine lv_iload_n hx hb d_M_isFolder_6 rfl (lv_at hl 1 rfl) ?_
    refine zv_iald hx hb hK hP 2 1 rfl rfl (by omega) (by decide) d_M_isFolder_7 (fun x_1 hz_2 => ?_)
    refine lv_iconst (v := iI 1) hx hb d_M_isFolder_8 (by decide) ?_
    refine zv_isub (z := x_1 - 1) hx hb d_M_isFolder_9 (by omega) ?_
    refine zjR (va_runV (As := [.int (iI i), .int (iI (x_1 - 1))]) (rest := []) ⟨hx, hb, hml, hown, ht⟩ (m_nb l D qm qT len op fp bu ra en qMe qPk qSz qSu qDa qLo qLe qNa qNs qSt qSa qCo qWr to nw bt rf qLn qSm qCd qSc sy di th cNa fNa i (x_1 - 1) (by omega)) (cwV 2 ht (zt_goodV zm_928 zm_929 zm_45 zm_79 zm_930) rfl rfl rfl (by decide +kernel) ⟨Nat.le_of_ble_eq_true rfl, Nat.le_of_ble_eq_true rfl⟩) (zpreRV zBlind_t hK hP [0, 1] [0] rfl rfl (fun _ _ _ => trivial) (va_recv (q := ("ZipGuardModel", F_M, 31)) hK hP rfl (q0 := 0) (ci := 8) rfl)) rfl rfl hl.1 rfl (lv_room (Nat.le_of_ble_eq_true rfl)) d_M_isFolder_10 ⟨Nat.le_of_ble_eq_true rfl, Nat.le_of_ble_eq_true rfl⟩) (fun r3 hp4 => ?_)
    obtain ⟨x_5, he_6, hp4⟩ := hp4
    subst he_6
    refine lv_bipush (v := iI 47) hx hb d_M_isFolder_13 (by decide) ?_
    refine zv_icmp_ne (tgt := 22) hx hb d_M_isFolder_15 (by decide) (by omega) (by omega) (fun hc_7 => ?_) (fun hc_7 => ?_)
    · skip
      refine lv_iconst (v := iI 0) hx hb d_M_isFolder_22 (by decide) ?_
      exact zretRz hx hb hr hlk (⟨_, rfl, by have q7 := hz_2; subst q7; unfold zTf zrN; omega, by omega⟩) (zn01 (by omega)) d_M_isFolder_23
    · skip
      refine lv_iconst (v := iI 1) hx hb d_M_isFolder_18 (by decide) ?_
      refine lv_goto (tgt := 23) hx hb d_M_isFolder_19 (by decide) ?_
      exact zretRz hx hb hr hlk (⟨_, rfl, by have q7 := hz_2; subst q7; unfold zTf zrN; omega, by omega⟩) (zn01 (by omega)) d_M_isFolder_23)
set_option maxHeartbeats 4000000 in
set_option maxRecDepth 100000 in
theorem m_bs (l : Launch) (D : va_G) (qm : Nat) (qT : Nat) (len : Int) (op : Int) (fp : Int) (bu : Int) (ra : Int) (en : Int) (qMe : Nat) (qPk : Nat) (qSz : Nat) (qSu : Nat) (qDa : Nat) (qLo : Nat) (qLe : Nat) (qNa : Nat) (qNs : Nat) (qSt : Nat) (qSa : Nat) (qCo : Nat) (qWr : Nat) (to : Int) (nw : Int) (bt : Int) (rf : Int) (qLn : Nat) (qSm : Nat) (qCd : Nat) (qSc : Nat) (sy : Int) (di : Int) (th : Int) (cNa : ClassId) (fNa : Nat → Int32) (cNs : ClassId) (fNs : Nat → Int) (i : Int) (hi : 0 ≤ i ∧ i < 64) (h1 : 1 ≤ fNs i.toNat ∧ fNs i.toNat ≤ 60) : Met l y_M_bareSize (Cond.code y_M_bareSize prog_10_method_19_code 2 (Option.some Jvm.ClassFile.FieldType.int) :: zt) { frames := 2, cells := 0, slots := 0, locals := 43 } (zPcR [.ref qm, .int (iI i)] D [(qm, .inr (8, [.ref qT, .int (iI len), .int (iI op), .int (iI fp), .int (iI bu), .int (iI ra), .int (iI en), .ref qMe, .ref qPk, .ref qSz, .ref qSu, .ref qDa, .ref qLo, .ref qLe, .ref qNa, .ref qNs, .ref qSt, .ref qSa, .ref qCo, .ref qWr, .int (iI to), .int (iI nw), .int (iI bt), .int (iI rf), .ref qLn, .ref qSm, .ref qCd, .ref qSc, .int (iI sy), .int (iI di), .int (iI th)])), (qNa, .inl (cNa, 3840, .inl fNa)), (qNs, .inl (cNs, 64, .inl (fun k => iI (fNs k))))] [(cNa, .byte), (cNs, .int)] (fun _ => True)) (zQR (fun (r : Int32) => ∃ x : Int, r = iI x ∧ (x = zbs (fNs i.toNat) (zrN fNa i) ∧ 0 ≤ x ∧ x ≤ 60))) 0 0 (fun _ => False) :=
  zMetR (by decide) (Nat.le_of_ble_eq_true rfl) (fun p e s m below meth c ls hx hb hr hml hown ht hlk hK hP hX hl => by
    have hl : lv_has ls 2 [(0, .ref qm), (1, .int (iI i))] := hl
    refine lv_aload_n hx hb d_M_bareSize_0 rfl (lv_at hl 0 rfl) ?_
    refine va_get (ci := 8) (C := "ZipGuardModel") (T := F_M) (N := 31) hx hb ht zi_M hown hK hP 0 rfl rfl 15 (by decide) (ht _ zm_767) (fun _ h9 => h9) rfl d_M_bareSize_1 ?_
    refine lv_iload_n hx hb d_M_bareSize_4 rfl (lv_at hl 1 rfl) ?_
    refine zv_iald hx hb hK hP 2 1 rfl rfl (by omega) (by decide) d_M_bareSize_5 (fun x_1 hz_2 => ?_)
    refine lv_aload_n hx hb d_M_bareSize_6 rfl (lv_at hl 0 rfl) ?_
    refine lv_iload_n hx hb d_M_bareSize_7 rfl (lv_at hl 1 rfl) ?_
    refine zjR (va_runV (As := [.int (iI i)]) (rest := [.int (iI x_1)]) ⟨hx, hb, hml, hown, ht⟩ (m_fo l D qm qT len op fp bu ra en qMe qPk qSz qSu qDa qLo qLe qNa qNs qSt qSa qCo qWr to nw bt rf qLn qSm qCd qSc sy di th cNa fNa cNs fNs i (by omega) (by omega)) (cwV 1 ht (zt_goodV zm_925 zm_926 zm_44 zm_79 zm_927) rfl rfl rfl (by decide +kernel) ⟨Nat.le_of_ble_eq_true rfl, Nat.le_of_ble_eq_true rfl⟩) (zpreRV zBlind_t hK hP [0, 1, 2] [0, 1] rfl rfl (fun _ _ _ => trivial) (va_recv (q := ("ZipGuardModel", F_M, 31)) hK hP rfl (q0 := 0) (ci := 8) rfl)) rfl rfl hl.1 rfl (lv_room (Nat.le_of_ble_eq_true rfl)) d_M_bareSize_8 ⟨Nat.le_of_ble_eq_true rfl, Nat.le_of_ble_eq_true rfl⟩) (fun r3 hp4 => ?_)
    obtain ⟨x_5, he_6, hp4⟩ := hp4
    subst he_6
    refine zv_if_eq (tgt := 18) hx hb d_M_bareSize_11 (by decide) (by omega) (fun hc_7 => ?_) (fun hc_7 => ?_)
    · skip
      have htf_8 := zTf_f hp4.1 hc_7
      refine lv_iconst (v := iI 0) hx hb d_M_bareSize_18 (by decide) ?_
      refine zv_isub (z := x_1) hx hb d_M_bareSize_19 (by omega) ?_
      exact zretR hx hb hr hlk (⟨_, rfl, by unfold zbs; split <;> omega, by omega⟩) d_M_bareSize_20
    · skip
      have htf_9 := zTf_t hp4.1 hc_7
      refine lv_iconst (v := iI 1) hx hb d_M_bareSize_14 (by decide) ?_
      refine lv_goto (tgt := 19) hx hb d_M_bareSize_15 (by decide) ?_
      refine zv_isub (z := x_1 - 1) hx hb d_M_bareSize_19 (by omega) ?_
      exact zretR hx hb hr hlk (⟨_, rfl, by unfold zbs; split <;> omega, by omega⟩) d_M_bareSize_20)
set_option maxHeartbeats 4000000 in
set_option maxRecDepth 100000 in
theorem m_in (l : Launch) (D : va_G) (qm : Nat) (qT : Nat) (len : Int) (op : Int) (fp : Int) (bu : Int) (ra : Int) (en : Int) (qMe : Nat) (qPk : Nat) (qSz : Nat) (qSu : Nat) (qDa : Nat) (qLo : Nat) (qLe : Nat) (qNa : Nat) (qNs : Nat) (qSt : Nat) (qSa : Nat) (qCo : Nat) (qWr : Nat) (to : Int) (nw : Int) (bt : Int) (rf : Int) (qLn : Nat) (qSm : Nat) (qCd : Nat) (qSc : Nat) (sy : Int) (di : Int) (th : Int) (cNa : ClassId) (fNa : Nat → Int32) (cNs : ClassId) (fNs : Nat → Int) (i : Int) (k : Int) (ju : Int) (hi : 0 ≤ i ∧ i < 64) (hk : 0 ≤ k ∧ k < 64) (h1 : 1 ≤ fNs i.toNat ∧ fNs i.toNat ≤ 60) (h2 : 1 ≤ fNs k.toNat ∧ fNs k.toNat ≤ 60) (hj : 0 ≤ ju ∧ ju ≤ 1) : Met l y_M_isIn (Cond.code y_M_isIn prog_10_method_20_code 6 (Option.some Jvm.ClassFile.FieldType.boolean) :: zt) { frames := 3, cells := 0, slots := 0, locals := 64 } (zPcR [.ref qm, .int (iI i), .int (iI k), .int (iI ju)] D [(qm, .inr (8, [.ref qT, .int (iI len), .int (iI op), .int (iI fp), .int (iI bu), .int (iI ra), .int (iI en), .ref qMe, .ref qPk, .ref qSz, .ref qSu, .ref qDa, .ref qLo, .ref qLe, .ref qNa, .ref qNs, .ref qSt, .ref qSa, .ref qCo, .ref qWr, .int (iI to), .int (iI nw), .int (iI bt), .int (iI rf), .ref qLn, .ref qSm, .ref qCd, .ref qSc, .int (iI sy), .int (iI di), .int (iI th)])), (qNa, .inl (cNa, 3840, .inl fNa)), (qNs, .inl (cNs, 64, .inl (fun k => iI (fNs k))))] [(cNa, .byte), (cNs, .int)] (fun _ => True)) (zQR (fun (r : Int32) => ∃ x : Int, r = iI x ∧ ((zTf x (zIn (fNs i.toNat) (zrN fNa i) (fNs k.toNat) (zrN fNa k) ju)) ∧ 0 ≤ x ∧ x ≤ 1))) 0 0 (fun _ => False) :=
  zMetR (by decide) (Nat.le_of_ble_eq_true rfl) (fun p e s m below meth c ls hx hb hr hml hown ht hlk hK hP hX hl => by
    have hl : lv_has ls 6 [(0, .ref qm), (1, .int (iI i)), (2, .int (iI k)), (3, .int (iI ju))] := hl
    refine lv_aload_n hx hb d_M_isIn_0 rfl (lv_at hl 0 rfl) ?_
    refine lv_iload_n hx hb d_M_isIn_1 rfl (lv_at hl 2 rfl) ?_
    refine zjR (va_runV (As := [.int (iI k)]) (rest := []) ⟨hx, hb, hml, hown, ht⟩ (m_bs l D qm qT len op fp bu ra en qMe qPk qSz qSu qDa qLo qLe qNa qNs qSt qSa qCo qWr to nw bt rf qLn qSm qCd qSc sy di th cNa fNa cNs fNs k (by omega) h2) (cwV 1 ht (zt_goodV zm_922 zm_923 zm_43 zm_79 zm_924) rfl rfl rfl (by decide +kernel) ⟨Nat.le_of_ble_eq_true rfl, Nat.le_of_ble_eq_true rfl⟩) (zpreRV zBlind_t hK hP [0, 1, 2] [0, 1] rfl rfl (fun _ _ _ => trivial) (va_recv (q := ("ZipGuardModel", F_M, 31)) hK hP rfl (q0 := 0) (ci := 8) rfl)) rfl rfl hl.1 rfl (lv_room (Nat.le_of_ble_eq_true rfl)) d_M_isIn_2 ⟨Nat.le_of_ble_eq_true rfl, Nat.le_of_ble_eq_true rfl⟩) (fun r1 hp2 => ?_)
    obtain ⟨x_3, he_4, hp2⟩ := hp2
    subst he_4
    refine lv_istore (lv' := [(4, .int (iI x_3)), (0, .ref qm), (1, .int (iI i)), (2, .int (iI k)), (3, .int (iI ju))]) hx hb d_M_isIn_5 hl (by decide) rfl (fun ls hl => ?_)
    have jn_5 : ∀  (ls : Array Slot), ((¬ ju = 0 ∧ zbs (fNs i.toNat) (zrN fNa i) = x_3) ∨ (ju = 0 ∧ x_3 < zbs (fNs i.toNat) (zrN fNa i) ∧ zrI fNa (60 * i + x_3) = 47)) → lv_has ls 6 [(4, .int (iI x_3)), (0, .ref qm), (1, .int (iI i)), (2, .int (iI k)), (3, .int (iI ju))] → W p l e { frames := 3, cells := 0, slots := 0, locals := 64 } s m [.ref qm, .int (iI i), .int (iI k), .int (iI ju)].toArray below meth c s.heap [] 0 0 (MQ below (zQR (fun (r : Int32) => ∃ x : Int, r = iI x ∧ ((zTf x (zIn (fNs i.toNat) (zrN fNa i) (fNs k.toNat) (zrN fNa k) ju)) ∧ 0 ≤ x ∧ x ≤ 1))) [.ref qm, .int (iI i), .int (iI k), .int (iI ju)].toArray s 0 0 (fun _ => False)) (F0 m 59 ls []) := by
      intro  ls hC hl
      refine lv_iconst (v := iI 0) hx hb d_M_isIn_59 (by decide) ?_
      refine lv_istore (lv' := [(5, .int (iI 0)), (4, .int (iI x_3)), (0, .ref qm), (1, .int (iI i)), (2, .int (iI k)), (3, .int (iI ju))]) hx hb d_M_isIn_60 hl (by decide) rfl (fun ls hl => ?_)
      have lp62 : ∀ (j : Nat) (b : Int) (ls : Array Slot), (0 ≤ b ∧ b ≤ x_3) → (∀ t : Int, 0 ≤ t → t < b → zrN fNa i t = zrN fNa k t) → (60 - b < (j : Int)) → lv_has ls 6 [(5, .int (iI b)), (4, .int (iI x_3)), (0, .ref qm), (1, .int (iI i)), (2, .int (iI k)), (3, .int (iI ju))] → W p l e { frames := 3, cells := 0, slots := 0, locals := 64 } s m [.ref qm, .int (iI i), .int (iI k), .int (iI ju)].toArray below meth c s.heap [] 0 0 (MQ below (zQR (fun (r : Int32) => ∃ x : Int, r = iI x ∧ ((zTf x (zIn (fNs i.toNat) (zrN fNa i) (fNs k.toNat) (zrN fNa k) ju)) ∧ 0 ≤ x ∧ x ≤ 1))) [.ref qm, .int (iI i), .int (iI k), .int (iI ju)].toArray s 0 0 (fun _ => False)) (F0 m 62 ls []) := by
        intro j
        induction j with
        | zero => intro b ls hb1 hsm hj62 hl; exfalso; omega
        | succ j ih62 =>
          intro b ls hb1 hsm hj62 hl
          refine lv_iload hx hb d_M_isIn_62 (lv_at hl 0 rfl) ?_
          refine lv_iload hx hb d_M_isIn_64 (lv_at hl 1 rfl) ?_
          refine zv_icmp_ge (tgt := 94) hx hb d_M_isIn_66 (by decide) (by omega) (by omega) (fun hc_6 => ?_) (fun hc_6 => ?_)
          · skip
            refine lv_iconst (v := iI 1) hx hb d_M_isIn_94 (by decide) ?_
            exact zretRz hx hb hr hlk (⟨_, rfl, by have q7 := hp2.1; subst q7; exact zTf_1 (hC.elim (fun q => Or.inl ⟨q.1, q.2, fun t h1 h2 => hsm t h1 (by omega)⟩) (fun q => Or.inr ⟨q.1, q.2.1, q.2.2, fun t h1 h2 => hsm t h1 (by omega)⟩)), by omega⟩) (zn01 (by omega)) d_M_isIn_95
          · skip
            refine lv_aload_n hx hb d_M_isIn_69 rfl (lv_at hl 2 rfl) ?_
            refine lv_iload_n hx hb d_M_isIn_70 rfl (lv_at hl 3 rfl) ?_
            refine lv_iload hx hb d_M_isIn_71 (lv_at hl 0 rfl) ?_
            refine zjR (va_runV (As := [.int (iI i), .int (iI b)]) (rest := []) ⟨hx, hb, hml, hown, ht⟩ (m_nb l D qm qT len op fp bu ra en qMe qPk qSz qSu qDa qLo qLe qNa qNs qSt qSa qCo qWr to nw bt rf qLn qSm qCd qSc sy di th cNa fNa i b (by omega)) (cwV 2 ht (zt_goodV zm_928 zm_929 zm_45 zm_79 zm_930) rfl rfl rfl (by decide +kernel) ⟨Nat.le_of_ble_eq_true rfl, Nat.le_of_ble_eq_true rfl⟩) (zpreRV zBlind_t hK hP [0, 1] [0] rfl rfl (fun _ _ _ => trivial) (va_recv (q := ("ZipGuardModel", F_M, 31)) hK hP rfl (q0 := 0) (ci := 8) rfl)) rfl rfl hl.1 rfl (lv_room (Nat.le_of_ble_eq_true rfl)) d_M_isIn_73 ⟨Nat.le_of_ble_eq_true rfl, Nat.le_of_ble_eq_true rfl⟩) (fun r7 hp8 => ?_)
            obtain ⟨x_9, he_10, hp8⟩ := hp8
            subst he_10
            refine lv_aload_n hx hb d_M_isIn_76 rfl (lv_at hl 2 rfl) ?_
            refine lv_iload_n hx hb d_M_isIn_77 rfl (lv_at hl 4 rfl) ?_
            refine lv_iload hx hb d_M_isIn_78 (lv_at hl 0 rfl) ?_
            refine zjR (va_runV (As := [.int (iI k), .int (iI b)]) (rest := [.int (iI x_9)]) ⟨hx, hb, hml, hown, ht⟩ (m_nb l D qm qT len op fp bu ra en qMe qPk qSz qSu qDa qLo qLe qNa qNs qSt qSa qCo qWr to nw bt rf qLn qSm qCd qSc sy di th cNa fNa k b (by omega)) (cwV 2 ht (zt_goodV zm_928 zm_929 zm_45 zm_79 zm_930) rfl rfl rfl (by decide +kernel) ⟨Nat.le_of_ble_eq_true rfl, Nat.le_of_ble_eq_true rfl⟩) (zpreRV zBlind_t hK hP [0, 1] [0] rfl rfl (fun _ _ _ => trivial) (va_recv (q := ("ZipGuardModel", F_M, 31)) hK hP rfl (q0 := 0) (ci := 8) rfl)) rfl rfl hl.1 rfl (lv_room (Nat.le_of_ble_eq_true rfl)) d_M_isIn_80 ⟨Nat.le_of_ble_eq_true rfl, Nat.le_of_ble_eq_true rfl⟩) (fun r11 hp12 => ?_)
            obtain ⟨x_13, he_14, hp12⟩ := hp12
            subst he_14
            refine zv_icmp_eq (tgt := 88) hx hb d_M_isIn_83 (by decide) (by omega) (by omega) (fun hc_15 => ?_) (fun hc_15 => ?_)
            · skip
              refine lv_iinc (k := 0) (v := iI (b + 1)) (lv' := [(5, .int (iI (b + 1))), (4, .int (iI x_3)), (0, .ref qm), (1, .int (iI i)), (2, .int (iI k)), (3, .int (iI ju))]) hx hb d_M_isIn_88 hl rfl (zinc (by omega)) (by decide) rfl (fun ls hl => ?_)
              refine lv_goto (tgt := 62) hx hb d_M_isIn_91 (by decide) ?_
              exact ih62 (b + 1) _ (by omega) (zst_all hsm (by unfold zrN; omega)) (by omega) hl
            · skip
              refine lv_iconst (v := iI 0) hx hb d_M_isIn_86 (by decide) ?_
              exact zretRz hx hb hr hlk (⟨_, rfl, by have q7 := hp2.1; subst q7; exact zTf_0 (fun q => q.elim (fun q => absurd (q.2.2 b (by omega) (by omega)) (by unfold zrN; omega)) (fun q => absurd (q.2.2.2 b (by omega) (by omega)) (by unfold zrN; omega))), by omega⟩) (zn01 (by omega)) d_M_isIn_87
      exact lp62 ((60 - 0 + 1 : Int)).toNat 0 _ (by omega) (fun t h1 h2 => absurd h2 (by omega)) (by omega) hl
    refine lv_aload_n hx hb d_M_isIn_7 rfl (lv_at hl 1 rfl) ?_
    refine lv_iload_n hx hb d_M_isIn_8 rfl (lv_at hl 2 rfl) ?_
    refine zjR (va_runV (As := [.int (iI i)]) (rest := []) ⟨hx, hb, hml, hown, ht⟩ (m_bs l D qm qT len op fp bu ra en qMe qPk qSz qSu qDa qLo qLe qNa qNs qSt qSa qCo qWr to nw bt rf qLn qSm qCd qSc sy di th cNa fNa cNs fNs i (by omega) (by omega)) (cwV 1 ht (zt_goodV zm_922 zm_923 zm_43 zm_79 zm_924) rfl rfl rfl (by decide +kernel) ⟨Nat.le_of_ble_eq_true rfl, Nat.le_of_ble_eq_true rfl⟩) (zpreRV zBlind_t hK hP [0, 1, 2] [0, 1] rfl rfl (fun _ _ _ => trivial) (va_recv (q := ("ZipGuardModel", F_M, 31)) hK hP rfl (q0 := 0) (ci := 8) rfl)) rfl rfl hl.1 rfl (lv_room (Nat.le_of_ble_eq_true rfl)) d_M_isIn_9 ⟨Nat.le_of_ble_eq_true rfl, Nat.le_of_ble_eq_true rfl⟩) (fun r16 hp17 => ?_)
    obtain ⟨x_18, he_19, hp17⟩ := hp17
    subst he_19
    refine lv_iload hx hb d_M_isIn_12 (lv_at hl 0 rfl) ?_
    refine zv_icmp_lt (tgt := 57) hx hb d_M_isIn_14 (by decide) (by omega) (by omega) (fun hc_20 => ?_) (fun hc_20 => ?_)
    · skip
      refine lv_iconst (v := iI 0) hx hb d_M_isIn_57 (by decide) ?_
      exact zretRz hx hb hr hlk (⟨_, rfl, by have q7 := hp2.1; subst q7; exact zTf_0 (fun q => q.elim (fun q => by have q1 := q.1; have q2 := q.2.1; omega) (fun q => by have q1 := q.1; have q2 := q.2.1; have q3 : zrI fNa (60 * i + zbs (fNs k.toNat) (zrN fNa k)) = 47 := q.2.2.1; omega)), by omega⟩) (zn01 (by omega)) d_M_isIn_58
    · skip
      refine lv_iload_n hx hb d_M_isIn_17 rfl (lv_at hl 4 rfl) ?_
      refine zv_if_eq (tgt := 31) hx hb d_M_isIn_18 (by decide) (by omega) (fun hc_21 => ?_) (fun hc_21 => ?_)
      · skip
        refine lv_iload_n hx hb d_M_isIn_31 rfl (lv_at hl 4 rfl) ?_
        refine zv_if_ne (tgt := 59) hx hb d_M_isIn_32 (by decide) (by omega) (fun hc_22 => ?_) (fun hc_22 => ?_)
        · skip
          exact jn_5  _ (by omega) hl
        · skip
          refine lv_aload_n hx hb d_M_isIn_35 rfl (lv_at hl 1 rfl) ?_
          refine lv_iload_n hx hb d_M_isIn_36 rfl (lv_at hl 2 rfl) ?_
          refine zjR (va_runV (As := [.int (iI i)]) (rest := []) ⟨hx, hb, hml, hown, ht⟩ (m_bs l D qm qT len op fp bu ra en qMe qPk qSz qSu qDa qLo qLe qNa qNs qSt qSa qCo qWr to nw bt rf qLn qSm qCd qSc sy di th cNa fNa cNs fNs i (by omega) (by omega)) (cwV 1 ht (zt_goodV zm_922 zm_923 zm_43 zm_79 zm_924) rfl rfl rfl (by decide +kernel) ⟨Nat.le_of_ble_eq_true rfl, Nat.le_of_ble_eq_true rfl⟩) (zpreRV zBlind_t hK hP [0, 1, 2] [0, 1] rfl rfl (fun _ _ _ => trivial) (va_recv (q := ("ZipGuardModel", F_M, 31)) hK hP rfl (q0 := 0) (ci := 8) rfl)) rfl rfl hl.1 rfl (lv_room (Nat.le_of_ble_eq_true rfl)) d_M_isIn_37 ⟨Nat.le_of_ble_eq_true rfl, Nat.le_of_ble_eq_true rfl⟩) (fun r23 hp24 => ?_)
          obtain ⟨x_25, he_26, hp24⟩ := hp24
          subst he_26
          refine lv_iload hx hb d_M_isIn_40 (lv_at hl 0 rfl) ?_
          refine zv_icmp_eq (tgt := 57) hx hb d_M_isIn_42 (by decide) (by omega) (by omega) (fun hc_27 => ?_) (fun hc_27 => ?_)
          · skip
            refine lv_iconst (v := iI 0) hx hb d_M_isIn_57 (by decide) ?_
            exact zretRz hx hb hr hlk (⟨_, rfl, by have q7 := hp2.1; subst q7; exact zTf_0 (fun q => q.elim (fun q => by have q1 := q.1; have q2 := q.2.1; omega) (fun q => by have q1 := q.1; have q2 := q.2.1; have q3 : zrI fNa (60 * i + zbs (fNs k.toNat) (zrN fNa k)) = 47 := q.2.2.1; omega)), by omega⟩) (zn01 (by omega)) d_M_isIn_58
          · skip
            refine lv_aload_n hx hb d_M_isIn_45 rfl (lv_at hl 1 rfl) ?_
            refine lv_iload_n hx hb d_M_isIn_46 rfl (lv_at hl 2 rfl) ?_
            refine lv_iload hx hb d_M_isIn_47 (lv_at hl 0 rfl) ?_
            refine zjR (va_runV (As := [.int (iI i), .int (iI x_3)]) (rest := []) ⟨hx, hb, hml, hown, ht⟩ (m_nb l D qm qT len op fp bu ra en qMe qPk qSz qSu qDa qLo qLe qNa qNs qSt qSa qCo qWr to nw bt rf qLn qSm qCd qSc sy di th cNa fNa i x_3 (by omega)) (cwV 2 ht (zt_goodV zm_928 zm_929 zm_45 zm_79 zm_930) rfl rfl rfl (by decide +kernel) ⟨Nat.le_of_ble_eq_true rfl, Nat.le_of_ble_eq_true rfl⟩) (zpreRV zBlind_t hK hP [0, 1] [0] rfl rfl (fun _ _ _ => trivial) (va_recv (q := ("ZipGuardModel", F_M, 31)) hK hP rfl (q0 := 0) (ci := 8) rfl)) rfl rfl hl.1 rfl (lv_room (Nat.le_of_ble_eq_true rfl)) d_M_isIn_49 ⟨Nat.le_of_ble_eq_true rfl, Nat.le_of_ble_eq_true rfl⟩) (fun r28 hp29 => ?_)
            obtain ⟨x_30, he_31, hp29⟩ := hp29
            subst he_31
            refine lv_bipush (v := iI 47) hx hb d_M_isIn_52 (by decide) ?_
            refine zv_icmp_eq (tgt := 59) hx hb d_M_isIn_54 (by decide) (by omega) (by omega) (fun hc_32 => ?_) (fun hc_32 => ?_)
            · skip
              exact jn_5  _ (by omega) hl
            · skip
              refine lv_iconst (v := iI 0) hx hb d_M_isIn_57 (by decide) ?_
              exact zretRz hx hb hr hlk (⟨_, rfl, by have q7 := hp2.1; subst q7; exact zTf_0 (fun q => q.elim (fun q => by have q1 := q.1; have q2 := q.2.1; omega) (fun q => by have q1 := q.1; have q2 := q.2.1; have q3 : zrI fNa (60 * i + zbs (fNs k.toNat) (zrN fNa k)) = 47 := q.2.2.1; omega)), by omega⟩) (zn01 (by omega)) d_M_isIn_58
      · skip
        refine lv_aload_n hx hb d_M_isIn_21 rfl (lv_at hl 1 rfl) ?_
        refine lv_iload_n hx hb d_M_isIn_22 rfl (lv_at hl 2 rfl) ?_
        refine zjR (va_runV (As := [.int (iI i)]) (rest := []) ⟨hx, hb, hml, hown, ht⟩ (m_bs l D qm qT len op fp bu ra en qMe qPk qSz qSu qDa qLo qLe qNa qNs qSt qSa qCo qWr to nw bt rf qLn qSm qCd qSc sy di th cNa fNa cNs fNs i (by omega) (by omega)) (cwV 1 ht (zt_goodV zm_922 zm_923 zm_43 zm_79 zm_924) rfl rfl rfl (by decide +kernel) ⟨Nat.le_of_ble_eq_true rfl, Nat.le_of_ble_eq_true rfl⟩) (zpreRV zBlind_t hK hP [0, 1, 2] [0, 1] rfl rfl (fun _ _ _ => trivial) (va_recv (q := ("ZipGuardModel", F_M, 31)) hK hP rfl (q0 := 0) (ci := 8) rfl)) rfl rfl hl.1 rfl (lv_room (Nat.le_of_ble_eq_true rfl)) d_M_isIn_23 ⟨Nat.le_of_ble_eq_true rfl, Nat.le_of_ble_eq_true rfl⟩) (fun r33 hp34 => ?_)
        obtain ⟨x_35, he_36, hp34⟩ := hp34
        subst he_36
        refine lv_iload hx hb d_M_isIn_26 (lv_at hl 0 rfl) ?_
        refine zv_icmp_ne (tgt := 57) hx hb d_M_isIn_28 (by decide) (by omega) (by omega) (fun hc_37 => ?_) (fun hc_37 => ?_)
        · skip
          refine lv_iconst (v := iI 0) hx hb d_M_isIn_57 (by decide) ?_
          exact zretRz hx hb hr hlk (⟨_, rfl, by have q7 := hp2.1; subst q7; exact zTf_0 (fun q => q.elim (fun q => by have q1 := q.1; have q2 := q.2.1; omega) (fun q => by have q1 := q.1; have q2 := q.2.1; have q3 : zrI fNa (60 * i + zbs (fNs k.toNat) (zrN fNa k)) = 47 := q.2.2.1; omega)), by omega⟩) (zn01 (by omega)) d_M_isIn_58
        · skip
          refine lv_iload_n hx hb d_M_isIn_31 rfl (lv_at hl 4 rfl) ?_
          refine zv_if_ne (tgt := 59) hx hb d_M_isIn_32 (by decide) (by omega) (fun hc_38 => ?_) (fun hc_38 => ?_)
          · skip
            exact jn_5  _ (by omega) hl
          · skip
            refine lv_aload_n hx hb d_M_isIn_35 rfl (lv_at hl 1 rfl) ?_
            refine lv_iload_n hx hb d_M_isIn_36 rfl (lv_at hl 2 rfl) ?_
            refine zjR (va_runV (As := [.int (iI i)]) (rest := []) ⟨hx, hb, hml, hown, ht⟩ (m_bs l D qm qT len op fp bu ra en qMe qPk qSz qSu qDa qLo qLe qNa qNs qSt qSa qCo qWr to nw bt rf qLn qSm qCd qSc sy di th cNa fNa cNs fNs i (by omega) (by omega)) (cwV 1 ht (zt_goodV zm_922 zm_923 zm_43 zm_79 zm_924) rfl rfl rfl (by decide +kernel) ⟨Nat.le_of_ble_eq_true rfl, Nat.le_of_ble_eq_true rfl⟩) (zpreRV zBlind_t hK hP [0, 1, 2] [0, 1] rfl rfl (fun _ _ _ => trivial) (va_recv (q := ("ZipGuardModel", F_M, 31)) hK hP rfl (q0 := 0) (ci := 8) rfl)) rfl rfl hl.1 rfl (lv_room (Nat.le_of_ble_eq_true rfl)) d_M_isIn_37 ⟨Nat.le_of_ble_eq_true rfl, Nat.le_of_ble_eq_true rfl⟩) (fun r39 hp40 => ?_)
            obtain ⟨x_41, he_42, hp40⟩ := hp40
            subst he_42
            refine lv_iload hx hb d_M_isIn_40 (lv_at hl 0 rfl) ?_
            refine zv_icmp_eq (tgt := 57) hx hb d_M_isIn_42 (by decide) (by omega) (by omega) (fun hc_43 => ?_) (fun hc_43 => ?_)
            · skip
              refine lv_iconst (v := iI 0) hx hb d_M_isIn_57 (by decide) ?_
              exact zretRz hx hb hr hlk (⟨_, rfl, by have q7 := hp2.1; subst q7; exact zTf_0 (fun q => q.elim (fun q => by have q1 := q.1; have q2 := q.2.1; omega) (fun q => by have q1 := q.1; have q2 := q.2.1; have q3 : zrI fNa (60 * i + zbs (fNs k.toNat) (zrN fNa k)) = 47 := q.2.2.1; omega)), by omega⟩) (zn01 (by omega)) d_M_isIn_58
            · skip
              refine lv_aload_n hx hb d_M_isIn_45 rfl (lv_at hl 1 rfl) ?_
              refine lv_iload_n hx hb d_M_isIn_46 rfl (lv_at hl 2 rfl) ?_
              refine lv_iload hx hb d_M_isIn_47 (lv_at hl 0 rfl) ?_
              refine zjR (va_runV (As := [.int (iI i), .int (iI x_3)]) (rest := []) ⟨hx, hb, hml, hown, ht⟩ (m_nb l D qm qT len op fp bu ra en qMe qPk qSz qSu qDa qLo qLe qNa qNs qSt qSa qCo qWr to nw bt rf qLn qSm qCd qSc sy di th cNa fNa i x_3 (by omega)) (cwV 2 ht (zt_goodV zm_928 zm_929 zm_45 zm_79 zm_930) rfl rfl rfl (by decide +kernel) ⟨Nat.le_of_ble_eq_true rfl, Nat.le_of_ble_eq_true rfl⟩) (zpreRV zBlind_t hK hP [0, 1] [0] rfl rfl (fun _ _ _ => trivial) (va_recv (q := ("ZipGuardModel", F_M, 31)) hK hP rfl (q0 := 0) (ci := 8) rfl)) rfl rfl hl.1 rfl (lv_room (Nat.le_of_ble_eq_true rfl)) d_M_isIn_49 ⟨Nat.le_of_ble_eq_true rfl, Nat.le_of_ble_eq_true rfl⟩) (fun r44 hp45 => ?_)
              obtain ⟨x_46, he_47, hp45⟩ := hp45
              subst he_47
              refine lv_bipush (v := iI 47) hx hb d_M_isIn_52 (by decide) ?_
              refine zv_icmp_eq (tgt := 59) hx hb d_M_isIn_54 (by decide) (by omega) (by omega) (fun hc_48 => ?_) (fun hc_48 => ?_)
              · skip
                exact jn_5  _ (by omega) hl
              · skip
                refine lv_iconst (v := iI 0) hx hb d_M_isIn_57 (by decide) ?_
                exact zretRz hx hb hr hlk (⟨_, rfl, by have q7 := hp2.1; subst q7; exact zTf_0 (fun q => q.elim (fun q => by have q1 := q.1; have q2 := q.2.1; omega) (fun q => by have q1 := q.1; have q2 := q.2.1; have q3 : zrI fNa (60 * i + zbs (fNs k.toNat) (zrN fNa k)) = 47 := q.2.2.1; omega)), by omega⟩) (zn01 (by omega)) d_M_isIn_58)
set_option maxHeartbeats 4000000 in
set_option maxRecDepth 100000 in
theorem m_tw (l : Launch) (D : va_G) (qm : Nat) (qT : Nat) (len : Int) (op : Int) (fp : Int) (bu : Int) (ra : Int) (en : Int) (qMe : Nat) (qPk : Nat) (qSz : Nat) (qSu : Nat) (qDa : Nat) (qLo : Nat) (qLe : Nat) (qNa : Nat) (qNs : Nat) (qSt : Nat) (qSa : Nat) (qCo : Nat) (qWr : Nat) (to : Int) (nw : Int) (bt : Int) (rf : Int) (qLn : Nat) (qSm : Nat) (qCd : Nat) (qSc : Nat) (sy : Int) (di : Int) (th : Int) (cNa : ClassId) (fNa : Nat → Int32) (cNs : ClassId) (fNs : Nat → Int) (i : Int) (hi : 0 ≤ i ∧ i < 64) (hns : ∀ k : Int, 0 ≤ k → k ≤ i → 1 ≤ fNs k.toNat ∧ fNs k.toNat ≤ 60) : Met l y_M_isTwice (Cond.code y_M_isTwice prog_10_method_21_code 3 (Option.some Jvm.ClassFile.FieldType.boolean) :: zt) { frames := 4, cells := 0, slots := 0, locals := 89 } (zPcR [.ref qm, .int (iI i)] D [(qm, .inr (8, [.ref qT, .int (iI len), .int (iI op), .int (iI fp), .int (iI bu), .int (iI ra), .int (iI en), .ref qMe, .ref qPk, .ref qSz, .ref qSu, .ref qDa, .ref qLo, .ref qLe, .ref qNa, .ref qNs, .ref qSt, .ref qSa, .ref qCo, .ref qWr, .int (iI to), .int (iI nw), .int (iI bt), .int (iI rf), .ref qLn, .ref qSm, .ref qCd, .ref qSc, .int (iI sy), .int (iI di), .int (iI th)])), (qNa, .inl (cNa, 3840, .inl fNa)), (qNs, .inl (cNs, 64, .inl (fun k => iI (fNs k))))] [(cNa, .byte), (cNs, .int)] (fun _ => True)) (zQR (fun (r : Int32) => ∃ x : Int, r = iI x ∧ ((zTf x (∃ k : Int, 0 ≤ k ∧ k < i ∧ zTw (fNs i.toNat) (zrN fNa i) (fNs k.toNat) (zrN fNa k))) ∧ 0 ≤ x ∧ x ≤ 1))) 0 0 (fun _ => False) :=
  zMetR (by decide) (Nat.le_of_ble_eq_true rfl) (fun p e s m below meth c ls hx hb hr hml hown ht hlk hK hP hX hl => by
    have hl : lv_has ls 3 [(0, .ref qm), (1, .int (iI i))] := hl
    refine lv_iconst (v := iI 0) hx hb d_M_isTwice_0 (by decide) ?_
    refine lv_istore_n (lv' := [(2, .int (iI 0)), (0, .ref qm), (1, .int (iI i))]) hx hb d_M_isTwice_1 rfl hl (by decide) rfl (fun ls hl => ?_)
    have lp2 : ∀ (j : Nat) (k : Int) (ls : Array Slot), (0 ≤ k ∧ k ≤ i) → (∀ t : Int, 0 ≤ t → t < k → ¬ zTw (fNs i.toNat) (zrN fNa i) (fNs t.toNat) (zrN fNa t)) → (i - k < (j : Int)) → lv_has ls 3 [(2, .int (iI k)), (0, .ref qm), (1, .int (iI i))] → W p l e { frames := 4, cells := 0, slots := 0, locals := 89 } s m [.ref qm, .int (iI i)].toArray below meth c s.heap [] 0 0 (MQ below (zQR (fun (r : Int32) => ∃ x : Int, r = iI x ∧ ((zTf x (∃ k : Int, 0 ≤ k ∧ k < i ∧ zTw (fNs i.toNat) (zrN fNa i) (fNs k.toNat) (zrN fNa k))) ∧ 0 ≤ x ∧ x ≤ 1))) [.ref qm, .int (iI i)].toArray s 0 0 (fun _ => False)) (F0 m 2 ls []) := by
      intro j
      induction j with
      | zero => intro k ls hk1 hnt hj2 hl; exfalso; omega
      | succ j ih2 =>
        intro k ls hk1 hnt hj2 hl
        refine lv_iload_n hx hb d_M_isTwice_2 rfl (lv_at hl 0 rfl) ?_
        refine lv_iload_n hx hb d_M_isTwice_3 rfl (lv_at hl 2 rfl) ?_
        refine zv_icmp_ge (tgt := 61) hx hb d_M_isTwice_4 (by decide) (by omega) (by omega) (fun hc_1 => ?_) (fun hc_1 => ?_)
        · skip
          refine lv_iconst (v := iI 0) hx hb d_M_isTwice_61 (by decide) ?_
          exact zretRz hx hb hr hlk (⟨_, rfl, zTf_0 (fun q => q.elim (fun t q => hnt t q.1 (by omega) q.2.2)), by omega⟩) (zn01 (by omega)) d_M_isTwice_62
        · skip
          have jn_2 : ∀  (ls : Array Slot), (¬ zTw (fNs i.toNat) (zrN fNa i) (fNs k.toNat) (zrN fNa k)) → lv_has ls 3 [(2, .int (iI k)), (0, .ref qm), (1, .int (iI i))] → W p l e { frames := 4, cells := 0, slots := 0, locals := 89 } s m [.ref qm, .int (iI i)].toArray below meth c s.heap [] 0 0 (MQ below (zQR (fun (r : Int32) => ∃ x : Int, r = iI x ∧ ((zTf x (∃ k : Int, 0 ≤ k ∧ k < i ∧ zTw (fNs i.toNat) (zrN fNa i) (fNs k.toNat) (zrN fNa k))) ∧ 0 ≤ x ∧ x ≤ 1))) [.ref qm, .int (iI i)].toArray s 0 0 (fun _ => False)) (F0 m 55 ls []) := by
            intro  ls hj3 hl
            refine lv_iinc (k := 0) (v := iI (k + 1)) (lv' := [(2, .int (iI (k + 1))), (0, .ref qm), (1, .int (iI i))]) hx hb d_M_isTwice_55 hl rfl (zinc (by omega)) (by decide) rfl (fun ls hl => ?_)
            refine lv_goto (tgt := 2) hx hb d_M_isTwice_58 (by decide) ?_
            exact ih2 (k + 1) _ (by omega) (zno_all hnt hj3) (by omega) hl
          have jn_3 : ∀  (ls : Array Slot), (¬ zIn (fNs i.toNat) (zrN fNa i) (fNs k.toNat) (zrN fNa k) 1) → (zrN fNa k (fNs k.toNat - 1) = 47 ∨ ¬ zIn (fNs i.toNat) (zrN fNa i) (fNs k.toNat) (zrN fNa k) 0) → lv_has ls 3 [(2, .int (iI k)), (0, .ref qm), (1, .int (iI i))] → W p l e { frames := 4, cells := 0, slots := 0, locals := 89 } s m [.ref qm, .int (iI i)].toArray below meth c s.heap [] 0 0 (MQ below (zQR (fun (r : Int32) => ∃ x : Int, r = iI x ∧ ((zTf x (∃ k : Int, 0 ≤ k ∧ k < i ∧ zTw (fNs i.toNat) (zrN fNa i) (fNs k.toNat) (zrN fNa k))) ∧ 0 ≤ x ∧ x ≤ 1))) [.ref qm, .int (iI i)].toArray s 0 0 (fun _ => False)) (F0 m 35 ls []) := by
            intro  ls hj1 hj2 hl
            refine lv_aload_n hx hb d_M_isTwice_35 rfl (lv_at hl 1 rfl) ?_
            refine lv_iload_n hx hb d_M_isTwice_36 rfl (lv_at hl 2 rfl) ?_
            refine zjR (va_runV (As := [.int (iI i)]) (rest := []) ⟨hx, hb, hml, hown, ht⟩ (m_fo l D qm qT len op fp bu ra en qMe qPk qSz qSu qDa qLo qLe qNa qNs qSt qSa qCo qWr to nw bt rf qLn qSm qCd qSc sy di th cNa fNa cNs fNs i (by omega) (hns _ (by omega) (by omega))) (cwV 1 ht (zt_goodV zm_925 zm_926 zm_44 zm_79 zm_927) rfl rfl rfl (by decide +kernel) ⟨Nat.le_of_ble_eq_true rfl, Nat.le_of_ble_eq_true rfl⟩) (zpreRV zBlind_t hK hP [0, 1, 2] [0, 1] rfl rfl (fun _ _ _ => trivial) (va_recv (q := ("ZipGuardModel", F_M, 31)) hK hP rfl (q0 := 0) (ci := 8) rfl)) rfl rfl hl.1 rfl (lv_room (Nat.le_of_ble_eq_true rfl)) d_M_isTwice_37 ⟨Nat.le_of_ble_eq_true rfl, Nat.le_of_ble_eq_true rfl⟩) (fun r4 hp5 => ?_)
            obtain ⟨x_6, he_7, hp5⟩ := hp5
            subst he_7
            refine zv_if_ne (tgt := 55) hx hb d_M_isTwice_40 (by decide) (by omega) (fun hc_8 => ?_) (fun hc_8 => ?_)
            · skip
              have htf_9 := zTf_t hp5.1 hc_8
              exact jn_2  _ (zTw_no hj1 hj2 (by first | exact Or.inl (by assumption) | exact Or.inr (by assumption))) hl
            · skip
              have htf_10 := zTf_f hp5.1 hc_8
              refine lv_aload_n hx hb d_M_isTwice_43 rfl (lv_at hl 1 rfl) ?_
              refine lv_iload_n hx hb d_M_isTwice_44 rfl (lv_at hl 0 rfl) ?_
              refine lv_iload_n hx hb d_M_isTwice_45 rfl (lv_at hl 2 rfl) ?_
              refine lv_iconst (v := iI 0) hx hb d_M_isTwice_46 (by decide) ?_
              refine zjR (va_runV (As := [.int (iI k), .int (iI i), .int (iI 0)]) (rest := []) ⟨hx, hb, hml, hown, ht⟩ (m_in l D qm qT len op fp bu ra en qMe qPk qSz qSu qDa qLo qLe qNa qNs qSt qSa qCo qWr to nw bt rf qLn qSm qCd qSc sy di th cNa fNa cNs fNs k i 0 (by omega) (by omega) (hns _ (by omega) (by omega)) (hns _ (by omega) (by omega)) (by omega)) (cwV 3 ht (zt_goodV zm_919 zm_920 zm_42 zm_79 zm_921) rfl rfl rfl (by decide +kernel) ⟨Nat.le_of_ble_eq_true rfl, Nat.le_of_ble_eq_true rfl⟩) (zpreRV zBlind_t hK hP [0, 1, 2] [0, 1] rfl rfl (fun _ _ _ => trivial) (va_recv (q := ("ZipGuardModel", F_M, 31)) hK hP rfl (q0 := 0) (ci := 8) rfl)) rfl rfl hl.1 rfl (lv_room (Nat.le_of_ble_eq_true rfl)) d_M_isTwice_47 ⟨Nat.le_of_ble_eq_true rfl, Nat.le_of_ble_eq_true rfl⟩) (fun r11 hp12 => ?_)
              obtain ⟨x_13, he_14, hp12⟩ := hp12
              subst he_14
              refine zv_if_eq (tgt := 55) hx hb d_M_isTwice_50 (by decide) (by omega) (fun hc_15 => ?_) (fun hc_15 => ?_)
              · skip
                have htf_16 := zTf_f hp12.1 hc_15
                exact jn_2  _ (zTw_no hj1 hj2 (by first | exact Or.inl (by assumption) | exact Or.inr (by assumption))) hl
              · skip
                have htf_17 := zTf_t hp12.1 hc_15
                refine lv_iconst (v := iI 1) hx hb d_M_isTwice_53 (by decide) ?_
                exact zretRz hx hb hr hlk (⟨_, rfl, zTf_1 ⟨k, by omega, by omega, by first | exact Or.inl (by assumption) | exact Or.inr (Or.inl ⟨by assumption, by assumption⟩) | exact Or.inr (Or.inr ⟨by assumption, by assumption⟩)⟩, by omega⟩) (zn01 (by omega)) d_M_isTwice_54
          refine lv_aload_n hx hb d_M_isTwice_7 rfl (lv_at hl 1 rfl) ?_
          refine lv_iload_n hx hb d_M_isTwice_8 rfl (lv_at hl 2 rfl) ?_
          refine lv_iload_n hx hb d_M_isTwice_9 rfl (lv_at hl 0 rfl) ?_
          refine lv_iconst (v := iI 1) hx hb d_M_isTwice_10 (by decide) ?_
          refine zjR (va_runV (As := [.int (iI i), .int (iI k), .int (iI 1)]) (rest := []) ⟨hx, hb, hml, hown, ht⟩ (m_in l D qm qT len op fp bu ra en qMe qPk qSz qSu qDa qLo qLe qNa qNs qSt qSa qCo qWr to nw bt rf qLn qSm qCd qSc sy di th cNa fNa cNs fNs i k 1 (by omega) (by omega) (hns _ (by omega) (by omega)) (hns _ (by omega) (by omega)) (by omega)) (cwV 3 ht (zt_goodV zm_919 zm_920 zm_42 zm_79 zm_921) rfl rfl rfl (by decide +kernel) ⟨Nat.le_of_ble_eq_true rfl, Nat.le_of_ble_eq_true rfl⟩) (zpreRV zBlind_t hK hP [0, 1, 2] [0, 1] rfl rfl (fun _ _ _ => trivial) (va_recv (q := ("ZipGuardModel", F_M, 31)) hK hP rfl (q0 := 0) (ci := 8) rfl)) rfl rfl hl.1 rfl (lv_room (Nat.le_of_ble_eq_true rfl)) d_M_isTwice_11 ⟨Nat.le_of_ble_eq_true rfl, Nat.le_of_ble_eq_true rfl⟩) (fun r18 hp19 => ?_)
          obtain ⟨x_20, he_21, hp19⟩ := hp19
          subst he_21
          refine zv_if_ne (tgt := 53) hx hb d_M_isTwice_14 (by decide) (by omega) (fun hc_22 => ?_) (fun hc_22 => ?_)
          · skip
            have htf_23 := zTf_t hp19.1 hc_22
            refine lv_iconst (v := iI 1) hx hb d_M_isTwice_53 (by decide) ?_
            exact zretRz hx hb hr hlk (⟨_, rfl, zTf_1 ⟨k, by omega, by omega, by first | exact Or.inl (by assumption) | exact Or.inr (Or.inl ⟨by assumption, by assumption⟩) | exact Or.inr (Or.inr ⟨by assumption, by assumption⟩)⟩, by omega⟩) (zn01 (by omega)) d_M_isTwice_54
          · skip
            have htf_24 := zTf_f hp19.1 hc_22
            refine lv_aload_n hx hb d_M_isTwice_17 rfl (lv_at hl 1 rfl) ?_
            refine lv_iload_n hx hb d_M_isTwice_18 rfl (lv_at hl 0 rfl) ?_
            refine zjR (va_runV (As := [.int (iI k)]) (rest := []) ⟨hx, hb, hml, hown, ht⟩ (m_fo l D qm qT len op fp bu ra en qMe qPk qSz qSu qDa qLo qLe qNa qNs qSt qSa qCo qWr to nw bt rf qLn qSm qCd qSc sy di th cNa fNa cNs fNs k (by omega) (hns _ (by omega) (by omega))) (cwV 1 ht (zt_goodV zm_925 zm_926 zm_44 zm_79 zm_927) rfl rfl rfl (by decide +kernel) ⟨Nat.le_of_ble_eq_true rfl, Nat.le_of_ble_eq_true rfl⟩) (zpreRV zBlind_t hK hP [0, 1, 2] [0, 1] rfl rfl (fun _ _ _ => trivial) (va_recv (q := ("ZipGuardModel", F_M, 31)) hK hP rfl (q0 := 0) (ci := 8) rfl)) rfl rfl hl.1 rfl (lv_room (Nat.le_of_ble_eq_true rfl)) d_M_isTwice_19 ⟨Nat.le_of_ble_eq_true rfl, Nat.le_of_ble_eq_true rfl⟩) (fun r25 hp26 => ?_)
            obtain ⟨x_27, he_28, hp26⟩ := hp26
            subst he_28
            refine zv_if_ne (tgt := 35) hx hb d_M_isTwice_22 (by decide) (by omega) (fun hc_29 => ?_) (fun hc_29 => ?_)
            · skip
              have htf_30 := zTf_t hp26.1 hc_29
              exact jn_3  _ (by assumption) (by first | exact Or.inl (by assumption) | exact Or.inr (by assumption)) hl
            · skip
              have htf_31 := zTf_f hp26.1 hc_29
              refine lv_aload_n hx hb d_M_isTwice_25 rfl (lv_at hl 1 rfl) ?_
              refine lv_iload_n hx hb d_M_isTwice_26 rfl (lv_at hl 2 rfl) ?_
              refine lv_iload_n hx hb d_M_isTwice_27 rfl (lv_at hl 0 rfl) ?_
              refine lv_iconst (v := iI 0) hx hb d_M_isTwice_28 (by decide) ?_
              refine zjR (va_runV (As := [.int (iI i), .int (iI k), .int (iI 0)]) (rest := []) ⟨hx, hb, hml, hown, ht⟩ (m_in l D qm qT len op fp bu ra en qMe qPk qSz qSu qDa qLo qLe qNa qNs qSt qSa qCo qWr to nw bt rf qLn qSm qCd qSc sy di th cNa fNa cNs fNs i k 0 (by omega) (by omega) (hns _ (by omega) (by omega)) (hns _ (by omega) (by omega)) (by omega)) (cwV 3 ht (zt_goodV zm_919 zm_920 zm_42 zm_79 zm_921) rfl rfl rfl (by decide +kernel) ⟨Nat.le_of_ble_eq_true rfl, Nat.le_of_ble_eq_true rfl⟩) (zpreRV zBlind_t hK hP [0, 1, 2] [0, 1] rfl rfl (fun _ _ _ => trivial) (va_recv (q := ("ZipGuardModel", F_M, 31)) hK hP rfl (q0 := 0) (ci := 8) rfl)) rfl rfl hl.1 rfl (lv_room (Nat.le_of_ble_eq_true rfl)) d_M_isTwice_29 ⟨Nat.le_of_ble_eq_true rfl, Nat.le_of_ble_eq_true rfl⟩) (fun r32 hp33 => ?_)
              obtain ⟨x_34, he_35, hp33⟩ := hp33
              subst he_35
              refine zv_if_ne (tgt := 53) hx hb d_M_isTwice_32 (by decide) (by omega) (fun hc_36 => ?_) (fun hc_36 => ?_)
              · skip
                have htf_37 := zTf_t hp33.1 hc_36
                refine lv_iconst (v := iI 1) hx hb d_M_isTwice_53 (by decide) ?_
                exact zretRz hx hb hr hlk (⟨_, rfl, zTf_1 ⟨k, by omega, by omega, by first | exact Or.inl (by assumption) | exact Or.inr (Or.inl ⟨by assumption, by assumption⟩) | exact Or.inr (Or.inr ⟨by assumption, by assumption⟩)⟩, by omega⟩) (zn01 (by omega)) d_M_isTwice_54
              · skip
                have htf_38 := zTf_f hp33.1 hc_36
                exact jn_3  _ (by assumption) (by first | exact Or.inl (by assumption) | exact Or.inr (by assumption)) hl
    exact lp2 ((i - 0 + 1 : Int)).toNat 0 _ (by omega) (fun t h1 h2 => absurd h2 (by omega)) (by omega) hl)
set_option maxHeartbeats 4000000 in
set_option maxRecDepth 100000 in
theorem m_ov (l : Launch) (D : va_G) (qm : Nat) (qT : Nat) (len : Int) (op : Int) (fp : Int) (bu : Int) (ra : Int) (en : Int) (qMe : Nat) (qPk : Nat) (qSz : Nat) (qSu : Nat) (qDa : Nat) (qLo : Nat) (qLe : Nat) (qNa : Nat) (qNs : Nat) (qSt : Nat) (qSa : Nat) (qCo : Nat) (qWr : Nat) (to : Int) (nw : Int) (bt : Int) (rf : Int) (qLn : Nat) (qSm : Nat) (qCd : Nat) (qSc : Nat) (sy : Int) (di : Int) (th : Int) (cLo : ClassId) (fLo : Nat → Int) (cLe : ClassId) (fLe : Nat → Int) (i : Int) (hi : 0 ≤ i ∧ i < 64) (hlb : ∀ k : Int, 0 ≤ k → k ≤ i → 0 ≤ fLo k.toNat ∧ fLo k.toNat ≤ 20000 ∧ 0 ≤ fLe k.toNat ∧ fLe k.toNat ≤ 20000) : Met l y_M_isOver (Cond.code y_M_isOver prog_10_method_23_code 3 (Option.some Jvm.ClassFile.FieldType.boolean) :: zt) { frames := 0, cells := 0, slots := 0, locals := 0 } (zPcR [.ref qm, .int (iI i)] D [(qm, .inr (8, [.ref qT, .int (iI len), .int (iI op), .int (iI fp), .int (iI bu), .int (iI ra), .int (iI en), .ref qMe, .ref qPk, .ref qSz, .ref qSu, .ref qDa, .ref qLo, .ref qLe, .ref qNa, .ref qNs, .ref qSt, .ref qSa, .ref qCo, .ref qWr, .int (iI to), .int (iI nw), .int (iI bt), .int (iI rf), .ref qLn, .ref qSm, .ref qCd, .ref qSc, .int (iI sy), .int (iI di), .int (iI th)])), (qLo, .inl (cLo, 64, .inl (fun k => iI (fLo k)))), (qLe, .inl (cLe, 64, .inl (fun k => iI (fLe k))))] [(cLo, .int), (cLe, .int)] (fun _ => True)) (zQR (fun (r : Int32) => ∃ x : Int, r = iI x ∧ ((zTf x (∃ k : Int, 0 ≤ k ∧ k < i ∧ (fLo i.toNat < fLe k.toNat ∧ fLo k.toNat < fLe i.toNat))) ∧ 0 ≤ x ∧ x ≤ 1))) 0 0 (fun _ => False) :=
  zMetR (by decide) (Nat.le_of_ble_eq_true rfl) (fun p e s m below meth c ls hx hb hr hml hown ht hlk hK hP hX hl => by
    have hl : lv_has ls 3 [(0, .ref qm), (1, .int (iI i))] := hl
    refine lv_iconst (v := iI 0) hx hb d_M_isOver_0 (by decide) ?_
    refine lv_istore_n (lv' := [(2, .int (iI 0)), (0, .ref qm), (1, .int (iI i))]) hx hb d_M_isOver_1 rfl hl (by decide) rfl (fun ls hl => ?_)
    have lp2 : ∀ (j : Nat) (k : Int) (ls : Array Slot), (0 ≤ k ∧ k ≤ i) → (∀ t : Int, 0 ≤ t → t < k → ¬ (fLo i.toNat < fLe t.toNat ∧ fLo t.toNat < fLe i.toNat)) → (i - k < (j : Int)) → lv_has ls 3 [(2, .int (iI k)), (0, .ref qm), (1, .int (iI i))] → W p l e { frames := 0, cells := 0, slots := 0, locals := 0 } s m [.ref qm, .int (iI i)].toArray below meth c s.heap [] 0 0 (MQ below (zQR (fun (r : Int32) => ∃ x : Int, r = iI x ∧ ((zTf x (∃ k : Int, 0 ≤ k ∧ k < i ∧ (fLo i.toNat < fLe k.toNat ∧ fLo k.toNat < fLe i.toNat))) ∧ 0 ≤ x ∧ x ≤ 1))) [.ref qm, .int (iI i)].toArray s 0 0 (fun _ => False)) (F0 m 2 ls []) := by
      intro j
      induction j with
      | zero => intro k ls hk1 hnt hj2 hl; exfalso; omega
      | succ j ih2 =>
        intro k ls hk1 hnt hj2 hl
        refine lv_iload_n hx hb d_M_isOver_2 rfl (lv_at hl 0 rfl) ?_
        refine lv_iload_n hx hb d_M_isOver_3 rfl (lv_at hl 2 rfl) ?_
        refine zv_icmp_ge (tgt := 45) hx hb d_M_isOver_4 (by decide) (by omega) (by omega) (fun hc_1 => ?_) (fun hc_1 => ?_)
        · skip
          refine lv_iconst (v := iI 0) hx hb d_M_isOver_45 (by decide) ?_
          exact zretRz hx hb hr hlk (⟨_, rfl, zTf_0 (fun q => q.elim (fun t q => hnt t q.1 (by omega) q.2.2)), by omega⟩) (zn01 (by omega)) d_M_isOver_46
        · skip
          have hl8 := hlb i (by omega) (by omega)
          have hl7 := hlb k (by omega) (by omega)
          refine lv_aload_n hx hb d_M_isOver_7 rfl (lv_at hl 1 rfl) ?_
          refine va_get (ci := 8) (C := "ZipGuardModel") (T := F_M) (N := 31) hx hb ht zi_M hown hK hP 0 rfl rfl 12 (by decide) (ht _ zm_764) (fun _ h9 => h9) rfl d_M_isOver_8 ?_
          refine lv_iload_n hx hb d_M_isOver_11 rfl (lv_at hl 2 rfl) ?_
          refine zv_iald hx hb hK hP 1 0 rfl rfl (by omega) (by decide) d_M_isOver_12 (fun x_2 hz_3 => ?_)
          refine lv_aload_n hx hb d_M_isOver_13 rfl (lv_at hl 1 rfl) ?_
          refine va_get (ci := 8) (C := "ZipGuardModel") (T := F_M) (N := 31) hx hb ht zi_M hown hK hP 0 rfl rfl 13 (by decide) (ht _ zm_765) (fun _ h9 => h9) rfl d_M_isOver_14 ?_
          refine lv_iload_n hx hb d_M_isOver_17 rfl (lv_at hl 0 rfl) ?_
          refine zv_iald hx hb hK hP 2 1 rfl rfl (by omega) (by decide) d_M_isOver_18 (fun x_4 hz_5 => ?_)
          refine zv_icmp_ge (tgt := 39) hx hb d_M_isOver_19 (by decide) (by omega) (by omega) (fun hc_6 => ?_) (fun hc_6 => ?_)
          · skip
            refine lv_iinc (k := 0) (v := iI (k + 1)) (lv' := [(2, .int (iI (k + 1))), (0, .ref qm), (1, .int (iI i))]) hx hb d_M_isOver_39 hl rfl (zinc (by omega)) (by decide) rfl (fun ls hl => ?_)
            refine lv_goto (tgt := 2) hx hb d_M_isOver_42 (by decide) ?_
            exact ih2 (k + 1) _ (by omega) (zno_all hnt (by omega)) (by omega) hl
          · skip
            refine lv_aload_n hx hb d_M_isOver_22 rfl (lv_at hl 1 rfl) ?_
            refine va_get (ci := 8) (C := "ZipGuardModel") (T := F_M) (N := 31) hx hb ht zi_M hown hK hP 0 rfl rfl 12 (by decide) (ht _ zm_764) (fun _ h9 => h9) rfl d_M_isOver_23 ?_
            refine lv_iload_n hx hb d_M_isOver_26 rfl (lv_at hl 0 rfl) ?_
            refine zv_iald hx hb hK hP 1 0 rfl rfl (by omega) (by decide) d_M_isOver_27 (fun x_7 hz_8 => ?_)
            refine lv_aload_n hx hb d_M_isOver_28 rfl (lv_at hl 1 rfl) ?_
            refine va_get (ci := 8) (C := "ZipGuardModel") (T := F_M) (N := 31) hx hb ht zi_M hown hK hP 0 rfl rfl 13 (by decide) (ht _ zm_765) (fun _ h9 => h9) rfl d_M_isOver_29 ?_
            refine lv_iload_n hx hb d_M_isOver_32 rfl (lv_at hl 2 rfl) ?_
            refine zv_iald hx hb hK hP 2 1 rfl rfl (by omega) (by decide) d_M_isOver_33 (fun x_9 hz_10 => ?_)
            refine zv_icmp_ge (tgt := 39) hx hb d_M_isOver_34 (by decide) (by omega) (by omega) (fun hc_11 => ?_) (fun hc_11 => ?_)
            · skip
              refine lv_iinc (k := 0) (v := iI (k + 1)) (lv' := [(2, .int (iI (k + 1))), (0, .ref qm), (1, .int (iI i))]) hx hb d_M_isOver_39 hl rfl (zinc (by omega)) (by decide) rfl (fun ls hl => ?_)
              refine lv_goto (tgt := 2) hx hb d_M_isOver_42 (by decide) ?_
              exact ih2 (k + 1) _ (by omega) (zno_all hnt (by omega)) (by omega) hl
            · skip
              refine lv_iconst (v := iI 1) hx hb d_M_isOver_37 (by decide) ?_
              exact zretRz hx hb hr hlk (⟨_, rfl, zTf_1 ⟨k, by omega, by omega, by omega⟩, by omega⟩) (zn01 (by omega)) d_M_isOver_38
    exact lp2 ((i - 0 + 1 : Int)).toNat 0 _ (by omega) (fun t h1 h2 => absurd h2 (by omega)) (by omega) hl)
set_option maxHeartbeats 4000000 in
set_option maxRecDepth 100000 in
theorem m_ri (l : Launch) (D : va_G) (ar : Nat) (cR : ClassId) (NN : Nat) (g : Nat → Int) (fm : Int) (n : Int) (fw : Int) (d : Nat → Nat) (hN : NN < 2147483648) (hfn : 0 ≤ fm ∧ 0 ≤ n ∧ fm + n ≤ NN) (hg : ∀ k : Nat, 0 ≤ g k ∧ g k ≤ 15) (hw : 0 ≤ fw ∧ fw ≤ 1) (hn3 : n ≤ 320) (hd : ∀ k : Int, 0 ≤ k → k < n → g (fm + k).toNat = (d k.toNat : Int)) : Met l y_M_isRight (Cond.code y_M_isRight prog_10_method_33_code 10 (Option.some Jvm.ClassFile.FieldType.boolean) :: zt) { frames := 0, cells := 0, slots := 0, locals := 0 } (zPcR [.ref ar, .int (iI fm), .int (iI n), .int (iI fw)] D [(ar, .inl (cR, NN, .inl (fun k => iI (g k))))] [(cR, .int)] (fun _ => True)) (zQR (fun (r : Int32) => ∃ x : Int, r = iI x ∧ ((zTf x (zRt d n.toNat fw)) ∧ 0 ≤ x ∧ x ≤ 1))) 0 0 (fun _ => False) :=
  zMetR (by decide) (Nat.le_of_ble_eq_true rfl) (fun p e s m below meth c ls hx hb hr hml hown ht hlk hK hP hX hl => by
    have hl : lv_has ls 10 [(0, .ref ar), (1, .int (iI fm)), (2, .int (iI n)), (3, .int (iI fw))] := hl
    refine lv_lconst (v := lI 0) hx hb d_M_isRight_0 (by decide) ?_
    refine lv_lstore (lv' := [(4, .long (lI 0)), (0, .ref ar), (1, .int (iI fm)), (2, .int (iI n)), (3, .int (iI fw))]) hx hb d_M_isRight_1 hl (by decide) rfl (fun ls hl => ?_)
    refine lv_iconst (v := iI 0) hx hb d_M_isRight_3 (by decide) ?_
    refine lv_istore (lv' := [(6, .int (iI 0)), (4, .long (lI 0)), (0, .ref ar), (1, .int (iI fm)), (2, .int (iI n)), (3, .int (iI fw))]) hx hb d_M_isRight_4 hl (by decide) rfl (fun ls hl => ?_)
    refine lv_iconst (v := iI 0) hx hb d_M_isRight_6 (by decide) ?_
    refine lv_istore (lv' := [(7, .int (iI 0)), (6, .int (iI 0)), (4, .long (lI 0)), (0, .ref ar), (1, .int (iI fm)), (2, .int (iI n)), (3, .int (iI fw))]) hx hb d_M_isRight_7 hl (by decide) rfl (fun ls hl => ?_)
    refine lv_iconst (v := iI 0) hx hb d_M_isRight_9 (by decide) ?_
    refine lv_istore (lv' := [(8, .int (iI 0)), (7, .int (iI 0)), (6, .int (iI 0)), (4, .long (lI 0)), (0, .ref ar), (1, .int (iI fm)), (2, .int (iI n)), (3, .int (iI fw))]) hx hb d_M_isRight_10 hl (by decide) rfl (fun ls hl => ?_)
    have lp12 : ∀ (j : Nat) (k : Int) (on : Int) (so : Int) (su : Int) (ls : Array Slot), (0 ≤ k ∧ k ≤ n) → (su = (zks d k.toNat : Int)) → (so = (zst d k.toNat 16 : Int)) → (on = (zcn d k.toNat 1 : Int)) → (0 ≤ su ∧ su ≤ 16384 * k ∧ 0 ≤ so ∧ so ≤ k ∧ 0 ≤ on ∧ on ≤ k) → (n - k < (j : Int)) → lv_has ls 10 [(8, .int (iI k)), (7, .int (iI on)), (6, .int (iI so)), (4, .long (lI su)), (0, .ref ar), (1, .int (iI fm)), (2, .int (iI n)), (3, .int (iI fw))] → W p l e { frames := 0, cells := 0, slots := 0, locals := 0 } s m [.ref ar, .int (iI fm), .int (iI n), .int (iI fw)].toArray below meth c s.heap [] 0 0 (MQ below (zQR (fun (r : Int32) => ∃ x : Int, r = iI x ∧ ((zTf x (zRt d n.toNat fw)) ∧ 0 ≤ x ∧ x ≤ 1))) [.ref ar, .int (iI fm), .int (iI n), .int (iI fw)].toArray s 0 0 (fun _ => False)) (F0 m 12 ls []) := by
      intro j
      induction j with
      | zero => intro k on so su ls hs4 hs1 hs2 hs3 hsb hj12 hl; exfalso; omega
      | succ j ih12 =>
        intro k on so su ls hs4 hs1 hs2 hs3 hsb hj12 hl
        refine lv_iload hx hb d_M_isRight_12 (lv_at hl 0 rfl) ?_
        refine lv_iload_n hx hb d_M_isRight_14 rfl (lv_at hl 6 rfl) ?_
        refine zv_icmp_ge (tgt := 71) hx hb d_M_isRight_15 (by decide) (by omega) (by omega) (fun hc_1 => ?_) (fun hc_1 => ?_)
        · skip
          refine lv_lload hx hb d_M_isRight_71 (lv_at hl 3 rfl) ?_
          refine lv_ldc2 (v := 32768) hx hb hown (ht _ zm_993) d_M_isRight_73 ?_
          refine zv_litL 32768 (by decide) ?_
          refine zv_lcmp_eq (tgt := 101) hx hb d_M_isRight_76 d_M_isRight_77 (by decide) (by omega) (by omega) (fun hc_2 => ?_) (fun hc_2 => ?_)
          · skip
            refine lv_iconst (v := iI 1) hx hb d_M_isRight_101 (by decide) ?_
            refine lv_goto (tgt := 106) hx hb d_M_isRight_102 (by decide) ?_
            exact zretRz hx hb hr hlk (⟨_, rfl, by rw [show k = n by omega] at hs1 hs2 hs3; unfold zTf zRt; omega, by omega⟩) (zn01 (by omega)) d_M_isRight_106
          · skip
            refine lv_iload_n hx hb d_M_isRight_80 rfl (lv_at hl 7 rfl) ?_
            refine zv_if_eq (tgt := 105) hx hb d_M_isRight_81 (by decide) (by omega) (fun hc_3 => ?_) (fun hc_3 => ?_)
            · skip
              refine lv_iconst (v := iI 0) hx hb d_M_isRight_105 (by decide) ?_
              exact zretRz hx hb hr hlk (⟨_, rfl, by rw [show k = n by omega] at hs1 hs2 hs3; unfold zTf zRt; omega, by omega⟩) (zn01 (by omega)) d_M_isRight_106
            · skip
              refine lv_iload hx hb d_M_isRight_84 (lv_at hl 2 rfl) ?_
              refine zv_if_eq (tgt := 101) hx hb d_M_isRight_86 (by decide) (by omega) (fun hc_4 => ?_) (fun hc_4 => ?_)
              · skip
                refine lv_iconst (v := iI 1) hx hb d_M_isRight_101 (by decide) ?_
                refine lv_goto (tgt := 106) hx hb d_M_isRight_102 (by decide) ?_
                exact zretRz hx hb hr hlk (⟨_, rfl, by rw [show k = n by omega] at hs1 hs2 hs3; unfold zTf zRt; omega, by omega⟩) (zn01 (by omega)) d_M_isRight_106
              · skip
                refine lv_iload hx hb d_M_isRight_89 (lv_at hl 2 rfl) ?_
                refine lv_iconst (v := iI 1) hx hb d_M_isRight_91 (by decide) ?_
                refine zv_icmp_ne (tgt := 105) hx hb d_M_isRight_92 (by decide) (by omega) (by omega) (fun hc_5 => ?_) (fun hc_5 => ?_)
                · skip
                  refine lv_iconst (v := iI 0) hx hb d_M_isRight_105 (by decide) ?_
                  exact zretRz hx hb hr hlk (⟨_, rfl, by rw [show k = n by omega] at hs1 hs2 hs3; unfold zTf zRt; omega, by omega⟩) (zn01 (by omega)) d_M_isRight_106
                · skip
                  refine lv_iload hx hb d_M_isRight_95 (lv_at hl 1 rfl) ?_
                  refine lv_iconst (v := iI 1) hx hb d_M_isRight_97 (by decide) ?_
                  refine zv_icmp_ne (tgt := 105) hx hb d_M_isRight_98 (by decide) (by omega) (by omega) (fun hc_6 => ?_) (fun hc_6 => ?_)
                  · skip
                    refine lv_iconst (v := iI 0) hx hb d_M_isRight_105 (by decide) ?_
                    exact zretRz hx hb hr hlk (⟨_, rfl, by rw [show k = n by omega] at hs1 hs2 hs3; unfold zTf zRt; omega, by omega⟩) (zn01 (by omega)) d_M_isRight_106
                  · skip
                    refine lv_iconst (v := iI 1) hx hb d_M_isRight_101 (by decide) ?_
                    refine lv_goto (tgt := 106) hx hb d_M_isRight_102 (by decide) ?_
                    exact zretRz hx hb hr hlk (⟨_, rfl, by rw [show k = n by omega] at hs1 hs2 hs3; unfold zTf zRt; omega, by omega⟩) (zn01 (by omega)) d_M_isRight_106
        · skip
          refine lv_aload_n hx hb d_M_isRight_18 rfl (lv_at hl 4 rfl) ?_
          refine lv_iload_n hx hb d_M_isRight_19 rfl (lv_at hl 5 rfl) ?_
          refine lv_iload hx hb d_M_isRight_20 (lv_at hl 0 rfl) ?_
          refine zv_iadd (z := fm + k) hx hb d_M_isRight_22 (by omega) ?_
          refine zv_iald hx hb hK hP 0 0 rfl rfl (by omega) (by omega) d_M_isRight_23 (fun x_7 hz_8 => ?_)
          refine lv_istore (lv' := [(9, .int (iI x_7)), (8, .int (iI k)), (7, .int (iI on)), (6, .int (iI so)), (4, .long (lI su)), (0, .ref ar), (1, .int (iI fm)), (2, .int (iI n)), (3, .int (iI fw))]) hx hb d_M_isRight_24 hl (by decide) rfl (fun ls hl => ?_)
          have hf_9 := hg (fm + k).toNat
          have hdk := hd k (by omega) (by omega)
          have hkl := zks_le d k.toNat
          refine lv_iload hx hb d_M_isRight_26 (lv_at hl 0 rfl) ?_
          refine zv_if_ne (tgt := 34) hx hb d_M_isRight_28 (by decide) (by omega) (fun hc_10 => ?_) (fun hc_10 => ?_)
          · skip
            refine lv_lload hx hb d_M_isRight_34 (lv_at hl 4 rfl) ?_
            refine lv_lconst (v := lI 1) hx hb d_M_isRight_36 (by decide) ?_
            refine lv_bipush (v := iI 15) hx hb d_M_isRight_37 (by decide) ?_
            refine lv_iload hx hb d_M_isRight_39 (lv_at hl 0 rfl) ?_
            refine zv_isub (z := -x_7 + 15) hx hb d_M_isRight_41 (by omega) ?_
            refine zv_lshlx hx hb d_M_isRight_42 (by omega) rfl ?_
            refine zv_nmL (fun x_11 hz_12 => ?_)
            have hz1 : x_11 = zp (15 - (d k.toNat : Int)) := by rw [hz_12, Int.one_mul]; exact congrArg zp (by omega)
            have hz2 := zp_le (a := 15 - (d k.toNat : Int)) (b := 14) (by omega)
            have hz3 : zp 14 = 16384 := by decide
            have hz4 := zp_pos (15 - (d k.toNat : Int))
            refine zv_ladd (z := su + x_11) hx hb d_M_isRight_43 (by omega) ?_
            refine lv_lstore (lv' := [(4, .long (lI (su + x_11))), (9, .int (iI x_7)), (8, .int (iI k)), (7, .int (iI on)), (6, .int (iI so)), (0, .ref ar), (1, .int (iI fm)), (2, .int (iI n)), (3, .int (iI fw))]) hx hb d_M_isRight_44 hl (by decide) rfl (fun ls hl => ?_)
            refine lv_iinc (k := 4) (v := iI (so + 1)) (lv' := [(6, .int (iI (so + 1))), (4, .long (lI (su + x_11))), (9, .int (iI x_7)), (8, .int (iI k)), (7, .int (iI on)), (0, .ref ar), (1, .int (iI fm)), (2, .int (iI n)), (3, .int (iI fw))]) hx hb d_M_isRight_46 hl rfl (zinc (by omega)) (by decide) rfl (fun ls hl => ?_)
            refine lv_iload hx hb d_M_isRight_49 (lv_at hl 4 rfl) ?_
            refine lv_iload hx hb d_M_isRight_51 (lv_at hl 2 rfl) ?_
            refine lv_iconst (v := iI 1) hx hb d_M_isRight_53 (by decide) ?_
            refine zv_icmp_ne (tgt := 61) hx hb d_M_isRight_54 (by decide) (by omega) (by omega) (fun hc_13 => ?_) (fun hc_13 => ?_)
            · skip
              refine lv_iconst (v := iI 0) hx hb d_M_isRight_61 (by decide) ?_
              refine zv_iadd (z := on) hx hb d_M_isRight_62 (by omega) ?_
              refine lv_istore (lv' := [(7, .int (iI on)), (6, .int (iI (so + 1))), (4, .long (lI (su + x_11))), (9, .int (iI x_7)), (8, .int (iI k)), (0, .ref ar), (1, .int (iI fm)), (2, .int (iI n)), (3, .int (iI fw))]) hx hb d_M_isRight_63 hl (by decide) rfl (fun ls hl => ?_)
              refine lv_iinc (k := 4) (v := iI (k + 1)) (lv' := [(8, .int (iI (k + 1))), (7, .int (iI on)), (6, .int (iI (so + 1))), (4, .long (lI (su + x_11))), (9, .int (iI x_7)), (0, .ref ar), (1, .int (iI fm)), (2, .int (iI n)), (3, .int (iI fw))]) hx hb d_M_isRight_65 hl rfl (zinc (by omega)) (by decide) rfl (fun ls hl => ?_)
              refine lv_goto (tgt := 12) hx hb d_M_isRight_68 (by decide) ?_
              exact ih12 (k + 1) on (so + 1) (su + x_11) _ (by omega) (by have h9 := zks_t (d := d) (k := k) (by omega); split at h9 <;> omega) (by have h9 := zst_i (d := d) (k := k) (by omega); split at h9 <;> omega) (by have h9 := zcn_i (d := d) (k := k) 1 (by omega); split at h9 <;> omega) (by omega) (by omega) (lv_sub hl [0, 1, 2, 3, 5, 6, 7, 8] rfl)
            · skip
              refine lv_iconst (v := iI 1) hx hb d_M_isRight_57 (by decide) ?_
              refine lv_goto (tgt := 62) hx hb d_M_isRight_58 (by decide) ?_
              refine zv_iadd (z := on + 1) hx hb d_M_isRight_62 (by omega) ?_
              refine lv_istore (lv' := [(7, .int (iI (on + 1))), (6, .int (iI (so + 1))), (4, .long (lI (su + x_11))), (9, .int (iI x_7)), (8, .int (iI k)), (0, .ref ar), (1, .int (iI fm)), (2, .int (iI n)), (3, .int (iI fw))]) hx hb d_M_isRight_63 hl (by decide) rfl (fun ls hl => ?_)
              refine lv_iinc (k := 4) (v := iI (k + 1)) (lv' := [(8, .int (iI (k + 1))), (7, .int (iI (on + 1))), (6, .int (iI (so + 1))), (4, .long (lI (su + x_11))), (9, .int (iI x_7)), (0, .ref ar), (1, .int (iI fm)), (2, .int (iI n)), (3, .int (iI fw))]) hx hb d_M_isRight_65 hl rfl (zinc (by omega)) (by decide) rfl (fun ls hl => ?_)
              refine lv_goto (tgt := 12) hx hb d_M_isRight_68 (by decide) ?_
              exact ih12 (k + 1) (on + 1) (so + 1) (su + x_11) _ (by omega) (by have h9 := zks_t (d := d) (k := k) (by omega); split at h9 <;> omega) (by have h9 := zst_i (d := d) (k := k) (by omega); split at h9 <;> omega) (by have h9 := zcn_i (d := d) (k := k) 1 (by omega); split at h9 <;> omega) (by omega) (by omega) (lv_sub hl [0, 1, 2, 3, 5, 6, 7, 8] rfl)
          · skip
            refine lv_goto (tgt := 65) hx hb d_M_isRight_31 (by decide) ?_
            refine lv_iinc (k := 1) (v := iI (k + 1)) (lv' := [(8, .int (iI (k + 1))), (9, .int (iI x_7)), (7, .int (iI on)), (6, .int (iI so)), (4, .long (lI su)), (0, .ref ar), (1, .int (iI fm)), (2, .int (iI n)), (3, .int (iI fw))]) hx hb d_M_isRight_65 hl rfl (zinc (by omega)) (by decide) rfl (fun ls hl => ?_)
            refine lv_goto (tgt := 12) hx hb d_M_isRight_68 (by decide) ?_
            exact ih12 (k + 1) on so su _ (by omega) (by have h9 := zks_t (d := d) (k := k) (by omega); split at h9 <;> omega) (by have h9 := zst_i (d := d) (k := k) (by omega); split at h9 <;> omega) (by have h9 := zcn_i (d := d) (k := k) 1 (by omega); split at h9 <;> omega) (by omega) (by omega) (lv_sub hl [0, 2, 3, 4, 5, 6, 7, 8] rfl)
    exact lp12 ((n - 0 + 1 : Int)).toNat 0 0 0 0 _ (by omega) rfl (by rw [show ((0 : Int)).toNat = 0 from rfl, zst_0]; rfl) rfl (by omega) (by omega) hl)
set_option maxHeartbeats 4000000 in
set_option maxRecDepth 100000 in
theorem m_so (l : Launch) (D : va_G) (k : Int) (hk : 0 ≤ k ∧ k < 19) : Met l y_M_smallOf (Cond.code y_M_smallOf prog_10_method_36_code 2 (Option.some Jvm.ClassFile.FieldType.int) :: zt) { frames := 0, cells := 0, slots := 0, locals := 0 } (zPcR [.int (iI k)] D [] [] (fun _ => True)) (zQR (fun (r : Int32) => ∃ x : Int, r = iI x ∧ (x = zSo k ∧ 0 ≤ x ∧ x ≤ 18))) 0 0 (fun _ => False) :=
  zMetR (by decide) (Nat.le_of_ble_eq_true rfl) (fun p e s m below meth c ls hx hb hr hml hown ht hlk hK hP hX hl => by
    have hl : lv_has ls 2 [(0, .int (iI k))] := hl
    refine lv_iload_n hx hb d_M_smallOf_0 rfl (lv_at hl 0 rfl) ?_
    refine lv_iconst (v := iI 3) hx hb d_M_smallOf_1 (by decide) ?_
    refine zv_icmp_ge (tgt := 10) hx hb d_M_smallOf_2 (by decide) (by omega) (by omega) (fun hc_1 => ?_) (fun hc_1 => ?_)
    · skip
      refine lv_iload_n hx hb d_M_smallOf_10 rfl (lv_at hl 0 rfl) ?_
      refine lv_iconst (v := iI 3) hx hb d_M_smallOf_11 (by decide) ?_
      refine zv_icmp_ne (tgt := 17) hx hb d_M_smallOf_12 (by decide) (by omega) (by omega) (fun hc_2 => ?_) (fun hc_2 => ?_)
      · skip
        refine lv_iload_n hx hb d_M_smallOf_17 rfl (lv_at hl 0 rfl) ?_
        refine lv_iconst (v := iI 4) hx hb d_M_smallOf_18 (by decide) ?_
        refine zv_isub (z := k - 4) hx hb d_M_smallOf_19 (by omega) ?_
        refine lv_iconst (v := iI 1) hx hb d_M_smallOf_20 (by decide) ?_
        refine zv_iadd (z := k - 3) hx hb d_M_smallOf_21 (by omega) ?_
        refine lv_iconst (v := iI 2) hx hb d_M_smallOf_22 (by decide) ?_
        refine zv_idiv hx hb d_M_smallOf_23 (by omega) (by omega) rfl ?_
        refine zv_nm (fun x_3 hz_4 => ?_)
        refine lv_istore_n (lv' := [(1, .int (iI x_3)), (0, .int (iI k))]) hx hb d_M_smallOf_24 rfl hl (by decide) rfl (fun ls hl => ?_)
        refine lv_iload_n hx hb d_M_smallOf_25 rfl (lv_at hl 1 rfl) ?_
        refine lv_iconst (v := iI 2) hx hb d_M_smallOf_26 (by decide) ?_
        refine zv_irem hx hb d_M_smallOf_27 (by omega) (by omega) rfl ?_
        refine zv_nm (fun x_5 hz_6 => ?_)
        refine zv_if_ne (tgt := 38) hx hb d_M_smallOf_28 (by decide) (by omega) (fun hc_7 => ?_) (fun hc_7 => ?_)
        · skip
          refine lv_bipush (v := iI 8) hx hb d_M_smallOf_38 (by decide) ?_
          refine lv_iload_n hx hb d_M_smallOf_40 rfl (lv_at hl 0 rfl) ?_
          refine zv_isub (z := -x_3 + 8) hx hb d_M_smallOf_41 (by omega) ?_
          exact zretR hx hb hr hlk (⟨_, rfl, by rw [zSo_t (by omega)]; split <;> (try split) <;> (try split) <;> omega, by omega⟩) d_M_smallOf_42
        · skip
          refine lv_bipush (v := iI 8) hx hb d_M_smallOf_31 (by decide) ?_
          refine lv_iload_n hx hb d_M_smallOf_33 rfl (lv_at hl 0 rfl) ?_
          refine zv_iadd (z := x_3 + 8) hx hb d_M_smallOf_34 (by omega) ?_
          refine lv_goto (tgt := 42) hx hb d_M_smallOf_35 (by decide) ?_
          exact zretR hx hb hr hlk (⟨_, rfl, by rw [zSo_t (by omega)]; split <;> (try split) <;> (try split) <;> omega, by omega⟩) d_M_smallOf_42
      · skip
        refine lv_iconst (v := iI 0) hx hb d_M_smallOf_15 (by decide) ?_
        exact zretR hx hb hr hlk (⟨_, rfl, by rw [zSo_t (by omega)]; split <;> (try split) <;> (try split) <;> omega, by omega⟩) d_M_smallOf_16
    · skip
      refine lv_bipush (v := iI 16) hx hb d_M_smallOf_5 (by decide) ?_
      refine lv_iload_n hx hb d_M_smallOf_7 rfl (lv_at hl 0 rfl) ?_
      refine zv_iadd (z := k + 16) hx hb d_M_smallOf_8 (by omega) ?_
      exact zretR hx hb hr hlk (⟨_, rfl, by rw [zSo_t (by omega)]; split <;> (try split) <;> (try split) <;> omega, by omega⟩) d_M_smallOf_9)
set_option maxHeartbeats 4000000 in
set_option maxRecDepth 100000 in
theorem m_sum (l : Launch) (D : va_G) (qm : Nat) (qT : Nat) (len : Int) (op : Int) (fp : Int) (bu : Int) (ra : Int) (en : Int) (qMe : Nat) (qPk : Nat) (qSz : Nat) (qSu : Nat) (qDa : Nat) (qLo : Nat) (qLe : Nat) (qNa : Nat) (qNs : Nat) (qSt : Nat) (qSa : Nat) (qCo : Nat) (qWr : Nat) (to : Int) (nw : Int) (bt : Int) (rf : Int) (qLn : Nat) (qSm : Nat) (qCd : Nat) (qSc : Nat) (sy : Int) (di : Int) (th : Int) (cSa : ClassId) (fSa : Nat → Int) (cCo : ClassId) (fCo : Nat → Int) (cWr : ClassId) (fWr : Nat → Int32) (i : Int) (hi : 0 ≤ i ∧ i < 64) (hs : 0 ≤ fSa i.toNat ∧ 0 ≤ fCo i.toNat ∧ fSa i.toNat + fCo i.toNat ≤ 40000) : Met l y_M_sumOf (Cond.code y_M_sumOf prog_10_method_44_code 5 (Option.some Jvm.ClassFile.FieldType.int) :: zt) { frames := 0, cells := 0, slots := 0, locals := 0 } (zPcR [.ref qm, .int (iI i)] D [(qm, .inr (8, [.ref qT, .int (iI len), .int (iI op), .int (iI fp), .int (iI bu), .int (iI ra), .int (iI en), .ref qMe, .ref qPk, .ref qSz, .ref qSu, .ref qDa, .ref qLo, .ref qLe, .ref qNa, .ref qNs, .ref qSt, .ref qSa, .ref qCo, .ref qWr, .int (iI to), .int (iI nw), .int (iI bt), .int (iI rf), .ref qLn, .ref qSm, .ref qCd, .ref qSc, .int (iI sy), .int (iI di), .int (iI th)])), (qSa, .inl (cSa, 64, .inl (fun k => iI (fSa k)))), (qCo, .inl (cCo, 64, .inl (fun k => iI (fCo k)))), (qWr, .inl (cWr, 40000, .inl fWr))] [(cSa, .int), (cCo, .int), (cWr, .byte)] (fun _ => True)) (zQR (fun (r : Int32) => ∃ x : Int, r = iI x ∧ ((zsB fWr (fSa i.toNat).toNat (fCo i.toNat).toNat ^^^ iI (-1) = iI x) ∧ -2147483648 ≤ x ∧ x ≤ 2147483647))) 0 0 (fun _ => False) :=
  zMetR (by decide) (Nat.le_of_ble_eq_true rfl) (fun p e s m below meth c ls hx hb hr hml hown ht hlk hK hP hX hl => by
    have hl : lv_has ls 5 [(0, .ref qm), (1, .int (iI i))] := hl
    refine lv_iconst (v := iI (-1)) hx hb d_M_sumOf_0 (by decide) ?_
    refine lv_istore_n (lv' := [(2, .int (iI (-1))), (0, .ref qm), (1, .int (iI i))]) hx hb d_M_sumOf_1 rfl hl (by decide) rfl (fun ls hl => ?_)
    refine lv_iconst (v := iI 0) hx hb d_M_sumOf_2 (by decide) ?_
    refine lv_istore_n (lv' := [(3, .int (iI 0)), (2, .int (iI (-1))), (0, .ref qm), (1, .int (iI i))]) hx hb d_M_sumOf_3 rfl hl (by decide) rfl (fun ls hl => ?_)
    have lp4 : ∀ (j : Nat) (k : Int) (cv : Int32) (ls : Array Slot), (0 ≤ k ∧ k ≤ fCo i.toNat) → (cv = zsB fWr (fSa i.toNat).toNat k.toNat) → (fCo i.toNat - k < (j : Int)) → lv_has ls 5 [(3, .int (iI k)), (2, .int cv), (0, .ref qm), (1, .int (iI i))] → W p l e { frames := 0, cells := 0, slots := 0, locals := 0 } s m [.ref qm, .int (iI i)].toArray below meth c s.heap [] 0 0 (MQ below (zQR (fun (r : Int32) => ∃ x : Int, r = iI x ∧ ((zsB fWr (fSa i.toNat).toNat (fCo i.toNat).toNat ^^^ iI (-1) = iI x) ∧ -2147483648 ≤ x ∧ x ≤ 2147483647))) [.ref qm, .int (iI i)].toArray s 0 0 (fun _ => False)) (F0 m 4 ls []) := by
      intro j
      induction j with
      | zero => intro k cv ls hv2 hcv hj4 hl; exfalso; omega
      | succ j ih4 =>
        intro k cv ls hv2 hcv hj4 hl
        refine lv_iload_n hx hb d_M_sumOf_4 rfl (lv_at hl 0 rfl) ?_
        refine lv_aload_n hx hb d_M_sumOf_5 rfl (lv_at hl 2 rfl) ?_
        refine va_get (ci := 8) (C := "ZipGuardModel") (T := F_M) (N := 31) hx hb ht zi_M hown hK hP 0 rfl rfl 18 (by decide) (ht _ zm_770) (fun _ h9 => h9) rfl d_M_sumOf_6 ?_
        refine lv_iload_n hx hb d_M_sumOf_9 rfl (lv_at hl 3 rfl) ?_
        refine zv_iald hx hb hK hP 2 1 rfl rfl (by omega) (by decide) d_M_sumOf_10 (fun x_1 hz_2 => ?_)
        refine zv_icmp_ge (tgt := 77) hx hb d_M_sumOf_11 (by decide) (by omega) (by omega) (fun hc_3 => ?_) (fun hc_3 => ?_)
        · skip
          refine lv_iload_n hx hb d_M_sumOf_77 rfl (lv_at hl 1 rfl) ?_
          refine lv_iconst (v := iI (-1)) hx hb d_M_sumOf_78 (by decide) ?_
          refine lv_ixor hx hb d_M_sumOf_79 ?_
          obtain ⟨x_4, hz_5, ha_6, ha_7⟩ := iI_of (cv ^^^ iI (-1))
          refine zv_lit x_4 hz_5 ?_
          exact zretR hx hb hr hlk (⟨_, rfl, by rw [← hz_5, hcv, show k = fCo i.toNat by omega], by omega⟩) d_M_sumOf_80
        · skip
          refine lv_iload_n hx hb d_M_sumOf_14 rfl (lv_at hl 1 rfl) ?_
          refine lv_aload_n hx hb d_M_sumOf_15 rfl (lv_at hl 2 rfl) ?_
          refine va_get (ci := 8) (C := "ZipGuardModel") (T := F_M) (N := 31) hx hb ht zi_M hown hK hP 0 rfl rfl 19 (by decide) (ht _ zm_771) (fun _ h9 => h9) rfl d_M_sumOf_16 ?_
          refine lv_aload_n hx hb d_M_sumOf_19 rfl (lv_at hl 2 rfl) ?_
          refine va_get (ci := 8) (C := "ZipGuardModel") (T := F_M) (N := 31) hx hb ht zi_M hown hK hP 0 rfl rfl 17 (by decide) (ht _ zm_769) (fun _ h9 => h9) rfl d_M_sumOf_20 ?_
          refine lv_iload_n hx hb d_M_sumOf_23 rfl (lv_at hl 3 rfl) ?_
          refine zv_iald hx hb hK hP 1 0 rfl rfl (by omega) (by decide) d_M_sumOf_24 (fun x_8 hz_9 => ?_)
          refine lv_iload_n hx hb d_M_sumOf_25 rfl (lv_at hl 0 rfl) ?_
          refine zv_iadd (z := x_8 + k) hx hb d_M_sumOf_26 (by omega) ?_
          refine zv_bald hx hb hK hP 3 2 rfl rfl (by omega) (by decide) d_M_sumOf_27 (fun x_10 hz_11 ha_12 ha_13 => ?_)
          refine lv_sipush (v := iI 255) hx hb d_M_sumOf_28 (by decide) ?_
          refine zv_byte (f := fWr) (k := x_8 + k) hx hb d_M_sumOf_31 hz_11 (fun x_14 hz_15 ha_16 ha_17 => ?_)
          refine lv_ixor hx hb d_M_sumOf_32 ?_
          refine lv_istore_n (lv' := [(2, .int (cv ^^^ iI x_14)), (3, .int (iI k)), (0, .ref qm), (1, .int (iI i))]) hx hb d_M_sumOf_33 rfl hl (by decide) rfl (fun ls hl => ?_)
          refine lv_iconst (v := iI 0) hx hb d_M_sumOf_34 (by decide) ?_
          refine lv_istore (lv' := [(4, .int (iI 0)), (2, .int (cv ^^^ iI x_14)), (3, .int (iI k)), (0, .ref qm), (1, .int (iI i))]) hx hb d_M_sumOf_35 hl (by decide) rfl (fun ls hl => ?_)
          have lp37 : ∀ (j : Nat) (b2 : Int) (cw : Int32) (ls : Array Slot), (0 ≤ b2 ∧ b2 ≤ 8) → (cw = zr (cv ^^^ iI x_14) b2.toNat) → (8 - b2 < (j : Int)) → lv_has ls 5 [(4, .int (iI b2)), (2, .int cw), (3, .int (iI k)), (0, .ref qm), (1, .int (iI i))] → W p l e { frames := 0, cells := 0, slots := 0, locals := 0 } s m [.ref qm, .int (iI i)].toArray below meth c s.heap [] 0 0 (MQ below (zQR (fun (r : Int32) => ∃ x : Int, r = iI x ∧ ((zsB fWr (fSa i.toNat).toNat (fCo i.toNat).toNat ^^^ iI (-1) = iI x) ∧ -2147483648 ≤ x ∧ x ≤ 2147483647))) [.ref qm, .int (iI i)].toArray s 0 0 (fun _ => False)) (F0 m 37 ls []) := by
            intro j
            induction j with
            | zero => intro b2 cw ls hw2 hcw hj37 hl; exfalso; omega
            | succ j ih37 =>
              intro b2 cw ls hw2 hcw hj37 hl
              refine lv_iload hx hb d_M_sumOf_37 (lv_at hl 0 rfl) ?_
              refine lv_bipush (v := iI 8) hx hb d_M_sumOf_39 (by decide) ?_
              refine zv_icmp_ge (tgt := 71) hx hb d_M_sumOf_41 (by decide) (by omega) (by omega) (fun hc_18 => ?_) (fun hc_18 => ?_)
              · skip
                refine lv_iinc (k := 2) (v := iI (k + 1)) (lv' := [(3, .int (iI (k + 1))), (4, .int (iI b2)), (2, .int cw), (0, .ref qm), (1, .int (iI i))]) hx hb d_M_sumOf_71 hl rfl (zinc (by omega)) (by decide) rfl (fun ls hl => ?_)
                refine lv_goto (tgt := 4) hx hb d_M_sumOf_74 (by decide) ?_
                exact ih4 (k + 1) cw _ (by omega) (by rw [hcw, show b2 = 8 by omega, hcv]; exact zsB_r hz_15 (by omega) (by omega)) (by omega) (lv_sub hl [0, 2, 3, 4] rfl)
              · skip
                refine lv_iload_n hx hb d_M_sumOf_44 rfl (lv_at hl 1 rfl) ?_
                refine lv_iconst (v := iI 1) hx hb d_M_sumOf_45 (by decide) ?_
                refine zv_and1r hx hb d_M_sumOf_46 (fun x_19 hz_20 => ?_)
                refine lv_iconst (v := iI 1) hx hb d_M_sumOf_47 (by decide) ?_
                refine zv_icmp_ne (tgt := 61) hx hb d_M_sumOf_48 (by decide) (by omega) (by omega) (fun hc_21 => ?_) (fun hc_21 => ?_)
                · skip
                  refine lv_iload_n hx hb d_M_sumOf_61 rfl (lv_at hl 1 rfl) ?_
                  refine lv_iconst (v := iI 1) hx hb d_M_sumOf_62 (by decide) ?_
                  refine lv_iushr hx hb d_M_sumOf_63 rfl ?_
                  refine lv_istore_n (lv' := [(2, .int ((cw.toUInt32 >>> ((iI 1).toUInt32 &&& Int32.toUInt32 31)).toInt32)), (4, .int (iI b2)), (3, .int (iI k)), (0, .ref qm), (1, .int (iI i))]) hx hb d_M_sumOf_64 rfl hl (by decide) rfl (fun ls hl => ?_)
                  refine lv_iinc (k := 1) (v := iI (b2 + 1)) (lv' := [(4, .int (iI (b2 + 1))), (2, .int ((cw.toUInt32 >>> ((iI 1).toUInt32 &&& Int32.toUInt32 31)).toInt32)), (3, .int (iI k)), (0, .ref qm), (1, .int (iI i))]) hx hb d_M_sumOf_65 hl rfl (zinc (by omega)) (by decide) rfl (fun ls hl => ?_)
                  refine lv_goto (tgt := 37) hx hb d_M_sumOf_68 (by decide) ?_
                  exact ih37 (b2 + 1) ((cw.toUInt32 >>> ((iI 1).toUInt32 &&& Int32.toUInt32 31)).toInt32) _ (by omega) (by rw [← zr_s hcw (by omega)]; unfold zr1; rw [if_neg (by exact hz_20.elim (fun q => absurd q.1 (by omega)) (fun q => q.2))]) (by omega) hl
                · skip
                  refine lv_iload_n hx hb d_M_sumOf_51 rfl (lv_at hl 1 rfl) ?_
                  refine lv_iconst (v := iI 1) hx hb d_M_sumOf_52 (by decide) ?_
                  refine lv_iushr hx hb d_M_sumOf_53 rfl ?_
                  refine lv_ldcw (v := (-306674912)) hx hb hown (ht _ zm_1012) d_M_sumOf_54 ?_
                  refine zv_lit (-306674912) (by decide) ?_
                  refine lv_ixor hx hb d_M_sumOf_57 ?_
                  refine lv_goto (tgt := 64) hx hb d_M_sumOf_58 (by decide) ?_
                  refine lv_istore_n (lv' := [(2, .int (((cw.toUInt32 >>> ((iI 1).toUInt32 &&& Int32.toUInt32 31)).toInt32) ^^^ iI (-306674912))), (4, .int (iI b2)), (3, .int (iI k)), (0, .ref qm), (1, .int (iI i))]) hx hb d_M_sumOf_64 rfl hl (by decide) rfl (fun ls hl => ?_)
                  refine lv_iinc (k := 1) (v := iI (b2 + 1)) (lv' := [(4, .int (iI (b2 + 1))), (2, .int (((cw.toUInt32 >>> ((iI 1).toUInt32 &&& Int32.toUInt32 31)).toInt32) ^^^ iI (-306674912))), (3, .int (iI k)), (0, .ref qm), (1, .int (iI i))]) hx hb d_M_sumOf_65 hl rfl (zinc (by omega)) (by decide) rfl (fun ls hl => ?_)
                  refine lv_goto (tgt := 37) hx hb d_M_sumOf_68 (by decide) ?_
                  exact ih37 (b2 + 1) (((cw.toUInt32 >>> ((iI 1).toUInt32 &&& Int32.toUInt32 31)).toInt32) ^^^ iI (-306674912)) _ (by omega) (by rw [← zr_s hcw (by omega)]; unfold zr1; rw [if_pos (by exact hz_20.elim (fun q => q.2) (fun q => absurd q.1 (by omega)))]) (by omega) hl
          exact lp37 ((8 - 0 + 1 : Int)).toNat 0 (cv ^^^ iI x_14) _ (by omega) rfl (by omega) hl
    exact lp4 ((fCo i.toNat - 0 + 1 : Int)).toNat 0 (iI (-1)) _ (by omega) rfl (by omega) hl)
set_option maxHeartbeats 4000000 in
set_option maxRecDepth 100000 in
theorem m_is (l : Launch) (D : va_G) (qm : Nat) (qT : Nat) (len : Int) (op : Int) (fp : Int) (bu : Int) (ra : Int) (en : Int) (qMe : Nat) (qPk : Nat) (qSz : Nat) (qSu : Nat) (qDa : Nat) (qLo : Nat) (qLe : Nat) (qNa : Nat) (qNs : Nat) (qSt : Nat) (qSa : Nat) (qCo : Nat) (qWr : Nat) (to : Int) (nw : Int) (bt : Int) (rf : Int) (qLn : Nat) (qSm : Nat) (qCd : Nat) (qSc : Nat) (sy : Int) (di : Int) (th : Int) (i : Int) (hi : -2147483648 ≤ i ∧ i ≤ 2147483647) (he : -2147483648 ≤ en ∧ en ≤ 2147483647) : Met l y_M_isThere (Cond.code y_M_isThere prog_10_method_46_code 2 (Option.some Jvm.ClassFile.FieldType.boolean) :: zt) { frames := 0, cells := 0, slots := 0, locals := 0 } (zPcR [.ref qm, .int (iI i)] D [(qm, .inr (8, [.ref qT, .int (iI len), .int (iI op), .int (iI fp), .int (iI bu), .int (iI ra), .int (iI en), .ref qMe, .ref qPk, .ref qSz, .ref qSu, .ref qDa, .ref qLo, .ref qLe, .ref qNa, .ref qNs, .ref qSt, .ref qSa, .ref qCo, .ref qWr, .int (iI to), .int (iI nw), .int (iI bt), .int (iI rf), .ref qLn, .ref qSm, .ref qCd, .ref qSc, .int (iI sy), .int (iI di), .int (iI th)]))] [] (fun _ => True)) (zQR (fun (r : Int32) => ∃ x : Int, r = iI x ∧ (0 ≤ x ∧ x ≤ 1 ∧ (x = 1 → 0 ≤ i ∧ i < en) ∧ (x = 0 → i < 0 ∨ en ≤ i)))) 0 0 (fun _ => False) :=
  zMetR (by decide) (Nat.le_of_ble_eq_true rfl) (fun p e s m below meth c ls hx hb hr hml hown ht hlk hK hP hX hl => by
    have hl : lv_has ls 2 [(0, .ref qm), (1, .int (iI i))] := hl
    refine lv_iload_n hx hb d_M_isThere_0 rfl (lv_at hl 1 rfl) ?_
    refine zv_if_lt (tgt := 16) hx hb d_M_isThere_1 (by decide) (by omega) (fun hc_1 => ?_) (fun hc_1 => ?_)
    · skip
      refine lv_iconst (v := iI 0) hx hb d_M_isThere_16 (by decide) ?_
      exact zretRz hx hb hr hlk (⟨_, rfl, by omega⟩) (zn01 (by omega)) d_M_isThere_17
    · skip
      refine lv_iload_n hx hb d_M_isThere_4 rfl (lv_at hl 1 rfl) ?_
      refine lv_aload_n hx hb d_M_isThere_5 rfl (lv_at hl 0 rfl) ?_
      refine va_get (ci := 8) (C := "ZipGuardModel") (T := F_M) (N := 31) hx hb ht zi_M hown hK hP 0 rfl rfl 6 (by decide) (ht _ zm_758) (fun _ h9 => h9) rfl d_M_isThere_6 ?_
      refine zv_icmp_ge (tgt := 16) hx hb d_M_isThere_9 (by decide) (by omega) (by omega) (fun hc_2 => ?_) (fun hc_2 => ?_)
      · skip
        refine lv_iconst (v := iI 0) hx hb d_M_isThere_16 (by decide) ?_
        exact zretRz hx hb hr hlk (⟨_, rfl, by omega⟩) (zn01 (by omega)) d_M_isThere_17
      · skip
        refine lv_iconst (v := iI 1) hx hb d_M_isThere_12 (by decide) ?_
        refine lv_goto (tgt := 17) hx hb d_M_isThere_13 (by decide) ?_
        exact zretRz hx hb hr hlk (⟨_, rfl, by omega⟩) (zn01 (by omega)) d_M_isThere_17)
set_option maxHeartbeats 4000000 in
set_option maxRecDepth 100000 in
theorem m_thr (l : Launch) (D : va_G) (qm : Nat) (qT : Nat) (len : Int) (op : Int) (fp : Int) (bu : Int) (ra : Int) (en : Int) (qMe : Nat) (qPk : Nat) (qSz : Nat) (qSu : Nat) (qDa : Nat) (qLo : Nat) (qLe : Nat) (qNa : Nat) (qNs : Nat) (qSt : Nat) (qSa : Nat) (qCo : Nat) (qWr : Nat) (to : Int) (nw : Int) (bt : Int) (rf : Int) (qLn : Nat) (qSm : Nat) (qCd : Nat) (qSc : Nat) (sy : Int) (di : Int) (th : Int)  : Met l y_M_thrown (Cond.code y_M_thrown prog_10_method_2_code 1 (Option.some Jvm.ClassFile.FieldType.int) :: zt) { frames := 0, cells := 0, slots := 0, locals := 0 } (zPcR [.ref qm] D [(qm, .inr (8, [.ref qT, .int (iI len), .int (iI op), .int (iI fp), .int (iI bu), .int (iI ra), .int (iI en), .ref qMe, .ref qPk, .ref qSz, .ref qSu, .ref qDa, .ref qLo, .ref qLe, .ref qNa, .ref qNs, .ref qSt, .ref qSa, .ref qCo, .ref qWr, .int (iI to), .int (iI nw), .int (iI bt), .int (iI rf), .ref qLn, .ref qSm, .ref qCd, .ref qSc, .int (iI sy), .int (iI di), .int (iI th)]))] [] (fun _ => True)) (zQR (fun (r : Int32) => ∃ x : Int, r = iI x ∧ (x = th))) 0 0 (fun _ => False) :=
  zMetR (by decide) (Nat.le_of_ble_eq_true rfl) (fun p e s m below meth c ls hx hb hr hml hown ht hlk hK hP hX hl => by
    have hl : lv_has ls 1 [(0, .ref qm)] := hl
    refine lv_aload_n hx hb d_M_thrown_0 rfl (lv_at hl 0 rfl) ?_
    refine va_get (ci := 8) (C := "ZipGuardModel") (T := F_M) (N := 31) hx hb ht zi_M hown hK hP 0 rfl rfl 30 (by decide) (ht _ zm_782) (fun _ h9 => h9) rfl d_M_thrown_1 ?_
    exact zretR hx hb hr hlk (⟨_, rfl, by omega⟩) d_M_thrown_4)
