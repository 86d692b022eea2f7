/-! numbers told by whole numbers: iI and lI -/
def iI (x : Int) : Int32 := Int32.ofInt x
def lI (x : Int) : Int64 := Int64.ofInt x
/-- x is a number of 32 bits -/
def i3 (x : Int) : Prop := -2147483648 ≤ x ∧ x ≤ 2147483647
def i6 (x : Int) : Prop := -9223372036854775808 ≤ x ∧ x ≤ 9223372036854775807
theorem iI_toInt {x : Int} (h : -2147483648 ≤ x ∧ x ≤ 2147483647) : (iI x).toInt = x := Int32.toInt_ofInt_of_le (by have := h.1; simp; omega) (by have := h.2; simp; omega)
theorem lI_toInt {x : Int} (h : -9223372036854775808 ≤ x ∧ x ≤ 9223372036854775807) : (lI x).toInt = x := Int64.toInt_ofInt_of_le (by have := h.1; simp; omega) (by have := h.2; simp; omega)
theorem iI_of (v : Int32) : ∃ x : Int, v = iI x ∧ -2147483648 ≤ x ∧ x ≤ 2147483647 := ⟨v.toInt, (Int32.ofInt_toInt v).symm, by have := v.le_toInt; simpa using this, by have := v.toInt_lt; omega⟩
theorem lI_of (v : Int64) : ∃ x : Int, v = lI x ∧ -9223372036854775808 ≤ x ∧ x ≤ 9223372036854775807 := ⟨v.toInt, (Int64.ofInt_toInt v).symm, by have := v.le_toInt; simpa using this, by have := v.toInt_lt; omega⟩
theorem iI_nI (k : Nat) : nI k = iI (k : Int) := (Int32.ofInt_eq_ofNat (n := k)).symm
theorem iI_nn {x : Int} (h : 0 ≤ x) : iI x = nI x.toNat := by rw [iI_nI, Int.toNat_of_nonneg h]
theorem iI_add (x y : Int) : iI x + iI y = iI (x + y) := (Int32.ofInt_add x y).symm
theorem iI_sub (x y : Int) : iI x - iI y = iI (x - y) := (Int32.ofInt_sub x y).symm
theorem iI_mul (x y : Int) : iI x * iI y = iI (x * y) := (Int32.ofInt_mul x y).symm
theorem iI_neg (x : Int) : - iI x = iI (-x) := (Int32.ofInt_neg x).symm
theorem lI_add (x y : Int) : lI x + lI y = lI (x + y) := (Int64.ofInt_add x y).symm
theorem lI_sub (x y : Int) : lI x - lI y = lI (x - y) := (Int64.ofInt_sub x y).symm
theorem lI_mul (x y : Int) : lI x * lI y = lI (x * y) := (Int64.ofInt_mul x y).symm
theorem iI_lt {x y : Int} (hx : -2147483648 ≤ x ∧ x ≤ 2147483647) (hy : -2147483648 ≤ y ∧ y ≤ 2147483647) : iI x < iI y ↔ x < y := by rw [Int32.lt_iff_toInt_lt, iI_toInt hx, iI_toInt hy]
theorem iI_le {x y : Int} (hx : -2147483648 ≤ x ∧ x ≤ 2147483647) (hy : -2147483648 ≤ y ∧ y ≤ 2147483647) : iI x ≤ iI y ↔ x ≤ y := by rw [Int32.le_iff_toInt_le, iI_toInt hx, iI_toInt hy]
theorem iI_eq {x y : Int} (hx : -2147483648 ≤ x ∧ x ≤ 2147483647) (hy : -2147483648 ≤ y ∧ y ≤ 2147483647) : iI x = iI y ↔ x = y := by rw [← Int32.toInt_inj, iI_toInt hx, iI_toInt hy]
theorem iI_0 : iI 0 = 0 := by decide
theorem iI_clamp {x : Int} (h0 : 0 ≤ x) (h1 : x ≤ 2147483647) : (iI x).toNatClampNeg = x.toNat := by
  rw [← Int32.toNat_toInt, iI_toInt ⟨by omega, h1⟩]
theorem iI_in {x : Int} {n : Nat} (h0 : 0 ≤ x) (h1 : x < n) (hn : n < 2147483648) : vp_in (iI x) n := by
  unfold vp_in
  rw [iI_clamp h0 (by omega), ← iI_0, iI_lt (by omega) (by omega)]
  omega
theorem iI_l {x : Int} (h : -2147483648 ≤ x ∧ x ≤ 2147483647) : (iI x).toInt64 = lI x := Int64.toInt_inj.mp (by rw [Int32.toInt_toInt64, iI_toInt h, lI_toInt (by omega)])
theorem lI_i (x : Int) : (lI x).toInt32 = iI x := by
  unfold lI iI
  exact Int64.toInt32_ofInt
theorem lI_cmp {x y : Int} (hx : -9223372036854775808 ≤ x ∧ x ≤ 9223372036854775807) (hy : -9223372036854775808 ≤ y ∧ y ≤ 9223372036854775807) : lg_cmp (lI x) (lI y) = iI (if x < y then -1 else if x = y then 0 else 1) := by
  unfold lg_cmp
  have h1 : lI x > lI y ↔ y < x := by rw [gt_iff_lt, Int64.lt_iff_toInt_lt, lI_toInt hx, lI_toInt hy]
  have h2 : lI x = lI y ↔ x = y := by rw [← Int64.toInt_inj, lI_toInt hx, lI_toInt hy]
  by_cases c1 : y < x
  · rw [if_pos (h1.mpr c1), if_neg (by omega), if_neg (by omega)]; rfl
  · rw [if_neg (mt h1.mp c1)]
    by_cases c2 : x = y
    · rw [if_pos (h2.mpr c2), if_neg (by omega), if_pos c2]; rfl
    · rw [if_neg (mt h2.mp c2), if_pos (by omega)]; rfl
theorem iI_bv {v : Int32} {n : Nat} (h : v.toBitVec.toNat = n) (hn : n < 2147483648) : v = iI n := by
  rw [← iI_nI]
  apply Int32.toBitVec_inj.mp
  apply BitVec.eq_of_toNat_eq
  rw [h]
  show n = (BitVec.ofNat 32 n).toNat
  rw [BitVec.toNat_ofNat]
  omega
theorem iI_tb {x : Int} (h0 : 0 ≤ x) (h1 : x ≤ 2147483647) : (iI x).toBitVec.toNat = x.toNat := by
  rw [iI_nn h0]
  show (BitVec.ofNat 32 x.toNat).toNat = _
  rw [BitVec.toNat_ofNat]
  omega
/-- x & y, y not below 0 -/
theorem iI_and (v : Int32) {y : Int} (h0 : 0 ≤ y) (h1 : y ≤ 2147483647) : ∃ z : Int, v &&& iI y = iI z ∧ 0 ≤ z ∧ z ≤ y := by
  have hb : (v &&& iI y).toBitVec.toNat ≤ y.toNat := by
    rw [Int32.toBitVec_and, BitVec.toNat_and, iI_tb h0 h1]
    exact Nat.and_le_right
  exact ⟨((v &&& iI y).toBitVec.toNat : Int), iI_bv rfl (by omega), by omega, by omega⟩
theorem iI_or {x y : Int} (k : Nat) (hk : k ≤ 31) (hx : 0 ≤ x ∧ x < 2 ^ k) (hy : 0 ≤ y ∧ y < 2 ^ k) : ∃ z : Int, iI x ||| iI y = iI z ∧ 0 ≤ z ∧ z < 2 ^ k := by
  have h2 : (2 : Nat) ^ k ≤ 2 ^ 31 := Nat.pow_le_pow_right (by decide) hk
  have h3 : ((2 ^ k : Nat) : Int) = 2 ^ k := by norm_cast
  have hb : (iI x ||| iI y).toBitVec.toNat < 2 ^ k := by
    rw [Int32.toBitVec_or, BitVec.toNat_or, iI_tb hx.1 (by omega), iI_tb hy.1 (by omega)]
    exact Nat.or_lt_two_pow (by omega) (by omega)
  exact ⟨((iI x ||| iI y).toBitVec.toNat : Int), iI_bv rfl (by omega), by omega, by omega⟩
theorem iI_sm : ∀ k : Nat, k < 32 → (iI (k : Int) &&& 31).toBitVec.smod 32 = BitVec.ofNat 32 k := by decide +kernel
/-- x << k -/
theorem iI_shl {x : Int} (k : Nat) (hk : k < 32) : iI x <<< (iI k &&& 31) = iI (x * 2 ^ k) := by
  apply Int32.toBitVec_inj.mp
  rw [Int32.toBitVec_shiftLeft, iI_sm k hk]
  show (BitVec.ofInt 32 x) <<< (BitVec.ofNat 32 k) = BitVec.ofInt 32 (x * 2 ^ k)
  rw [BitVec.ofInt_mul, BitVec.shiftLeft_eq', BitVec.toNat_ofNat, Nat.mod_eq_of_lt (by omega), BitVec.shiftLeft_eq_mul_twoPow]
  congr 1
  apply BitVec.eq_of_toNat_eq
  rw [BitVec.toNat_twoPow, BitVec.toNat_ofInt]
  have h3 : ((2 ^ k : Nat) : Int) = 2 ^ k := by norm_cast
  rw [← h3]
  norm_cast
theorem iI_shr {x : Int} (k : Nat) (hk : k < 32) (hx : 0 ≤ x ∧ x ≤ 2147483647) : iI x >>> (iI k &&& 31) = iI (x / 2 ^ k) := by
  have h3 : ((2 ^ k : Nat) : Int) = 2 ^ k := by norm_cast
  have h4 : x / 2 ^ k = ((x.toNat / 2 ^ k : Nat) : Int) := by rw [← h3, Int.natCast_ediv, Int.toNat_of_nonneg hx.1]
  have h5 : x.toNat / 2 ^ k ≤ x.toNat := Nat.div_le_self _ _
  rw [h4]
  refine iI_bv ?_ (by omega)
  rw [Int32.toBitVec_shiftRight, iI_sm k hk, BitVec.sshiftRight_eq', BitVec.toNat_ofNat, Nat.mod_eq_of_lt (by omega), BitVec.sshiftRight_eq_of_msb_false, BitVec.toNat_ushiftRight, iI_tb hx.1 hx.2, Nat.shiftRight_eq_div_pow]
  rw [BitVec.msb_eq_false_iff_two_mul_lt, iI_tb hx.1 hx.2]
  omega
theorem iI_div {x y : Int} (hx : 0 ≤ x ∧ x ≤ 2147483647) (hy : 0 < y ∧ y ≤ 2147483647) : iI x / iI y = iI (x / y) := by
  have h1 : 0 ≤ x / y := Int.ediv_nonneg hx.1 (by omega)
  have h2 : x / y ≤ x := Int.ediv_le_self _ hx.1
  apply Int32.toInt_inj.mp
  rw [Int32.toInt_div, iI_toInt (by omega), iI_toInt (by omega), iI_toInt (by omega), Int.tdiv_eq_ediv_of_nonneg hx.1, Int.bmod_eq_of_le]
  · omega
  · omega
theorem lI_div {x y : Int} (hx : 0 ≤ x ∧ x ≤ 9223372036854775807) (hy : 0 < y ∧ y ≤ 9223372036854775807) : lI x / lI y = lI (x / y) := by
  have h1 : 0 ≤ x / y := Int.ediv_nonneg hx.1 (by omega)
  have h2 : x / y ≤ x := Int.ediv_le_self _ hx.1
  apply Int64.toInt_inj.mp
  rw [Int64.toInt_div, lI_toInt (by omega), lI_toInt (by omega), lI_toInt (by omega), Int.tdiv_eq_ediv_of_nonneg hx.1, Int.bmod_eq_of_le]
  · omega
  · omega
theorem lI_bv {v : Int64} {n : Nat} (h : v.toBitVec.toNat = n) (hn : n < 9223372036854775808) : v = lI n := by
  have e1 : lI (n : Int) = Int64.ofNat n := Int64.ofInt_eq_ofNat (n := n)
  rw [e1]
  apply Int64.toBitVec_inj.mp
  apply BitVec.eq_of_toNat_eq
  rw [h]
  show n = (BitVec.ofNat 64 n).toNat
  rw [BitVec.toNat_ofNat]
  omega
theorem lI_tb {x : Int} (h0 : 0 ≤ x) (h1 : x ≤ 9223372036854775807) : (lI x).toBitVec.toNat = x.toNat := by
  have e1 : lI x = Int64.ofNat x.toNat := by
    have := Int64.ofInt_eq_ofNat (n := x.toNat)
    rw [Int.toNat_of_nonneg h0] at this
    exact this
  rw [e1]
  show (BitVec.ofNat 64 x.toNat).toNat = _
  rw [BitVec.toNat_ofNat]
  omega
theorem lI_or {x y : Int} (k : Nat) (hk : k ≤ 63) (hx : 0 ≤ x ∧ x < 2 ^ k) (hy : 0 ≤ y ∧ y < 2 ^ k) : ∃ z : Int, lI x ||| lI y = lI z ∧ 0 ≤ z ∧ z < 2 ^ k := by
  have h2 : (2 : Nat) ^ k ≤ 2 ^ 63 := Nat.pow_le_pow_right (by decide) hk
  have h3 : ((2 ^ k : Nat) : Int) = 2 ^ k := by norm_cast
  have hb : (lI x ||| lI y).toBitVec.toNat < 2 ^ k := by
    rw [Int64.toBitVec_or, BitVec.toNat_or, lI_tb hx.1 (by omega), lI_tb hy.1 (by omega)]
    exact Nat.or_lt_two_pow (by omega) (by omega)
  exact ⟨((lI x ||| lI y).toBitVec.toNat : Int), lI_bv rfl (by omega), by omega, by omega⟩
theorem lI_sm : ∀ k : Nat, k < 64 → ((iI (k : Int)).toInt64 &&& 63).toBitVec.smod 64 = BitVec.ofNat 64 k := by decide +kernel
theorem lI_shl {x : Int} (k : Nat) (hk : k < 64) : lI x <<< ((iI k).toInt64 &&& 63) = lI (x * 2 ^ k) := by
  apply Int64.toBitVec_inj.mp
  rw [Int64.toBitVec_shiftLeft, lI_sm k hk]
  show (BitVec.ofInt 64 x) <<< (BitVec.ofNat 64 k) = BitVec.ofInt 64 (x * 2 ^ k)
  rw [BitVec.ofInt_mul, BitVec.shiftLeft_eq', BitVec.toNat_ofNat, Nat.mod_eq_of_lt (by omega), BitVec.shiftLeft_eq_mul_twoPow]
  congr 1
  apply BitVec.eq_of_toNat_eq
  rw [BitVec.toNat_twoPow, BitVec.toNat_ofInt]
  have h3 : ((2 ^ k : Nat) : Int) = 2 ^ k := by norm_cast
  rw [← h3]
  norm_cast
theorem iI_orA {x y : Int} (n : Nat) (hx : 0 ≤ x ∧ x < 2 ^ n) (hy : 0 ≤ y) (h : x + y * 2 ^ n ≤ 2147483647) : iI x ||| iI (y * 2 ^ n) = iI (x + y * 2 ^ n) := by
  have h3 : ((2 ^ n : Nat) : Int) = 2 ^ n := by norm_cast
  have h4 : 0 ≤ y * 2 ^ n := Int.mul_nonneg hy (by rw [← h3]; omega)
  have h5 : (y * 2 ^ n).toNat = y.toNat <<< n := by
    rw [Nat.shiftLeft_eq, ← h3]
    have : y * ((2 ^ n : Nat) : Int) = ((y.toNat * 2 ^ n : Nat) : Int) := by rw [Int.natCast_mul, Int.toNat_of_nonneg hy]
    rw [this]
    rfl
  have h6 : x + y * 2 ^ n = ((y.toNat <<< n + x.toNat : Nat) : Int) := by omega
  rw [h6]
  refine iI_bv ?_ (by omega)
  rw [Int32.toBitVec_or, BitVec.toNat_or, iI_tb hx.1 (by omega), iI_tb h4 (by omega), h5, Nat.or_comm]
  exact (Nat.shiftLeft_add_eq_or_of_lt (by omega) _).symm
theorem lI_orA {x y : Int} (n : Nat) (hx : 0 ≤ x ∧ x < 2 ^ n) (hy : 0 ≤ y) (h : x + y * 2 ^ n ≤ 9223372036854775807) : lI x ||| lI (y * 2 ^ n) = lI (x + y * 2 ^ n) := by
  have h3 : ((2 ^ n : Nat) : Int) = 2 ^ n := by norm_cast
  have h4 : 0 ≤ y * 2 ^ n := Int.mul_nonneg hy (by rw [← h3]; omega)
  have h5 : (y * 2 ^ n).toNat = y.toNat <<< n := by
    rw [Nat.shiftLeft_eq, ← h3]
    have : y * ((2 ^ n : Nat) : Int) = ((y.toNat * 2 ^ n : Nat) : Int) := by rw [Int.natCast_mul, Int.toNat_of_nonneg hy]
    rw [this]
    rfl
  have h6 : x + y * 2 ^ n = ((y.toNat <<< n + x.toNat : Nat) : Int) := by omega
  rw [h6]
  refine lI_bv ?_ (by omega)
  rw [Int64.toBitVec_or, BitVec.toNat_or, lI_tb hx.1 (by omega), lI_tb h4 (by omega), h5, Nat.or_comm]
  exact (Nat.shiftLeft_add_eq_or_of_lt (by omega) _).symm
/-- the bytes, pairs and fours of a tape, as whole numbers -/
def zB1 (f : Nat → Int32) (k : Int) : Int := (f k.toNat &&& 255).toInt
theorem zB1_eq (f : Nat → Int32) (k : Int) : f k.toNat &&& iI 255 = iI (zB1 f k) := by
  unfold zB1
  rw [show iI 255 = 255 by decide]
  exact (Int32.ofInt_toInt _).symm
theorem zB1_b (f : Nat → Int32) (k : Int) : 0 ≤ zB1 f k ∧ zB1 f k ≤ 255 := by
  obtain ⟨z, h1, h2, h3⟩ := iI_and (f k.toNat) (y := 255) (by decide) (by decide)
  unfold zB1
  rw [show (255 : Int32) = iI 255 by decide, h1, iI_toInt (by omega)]
  omega
def zB2 (f : Nat → Int32) (k : Int) : Int := zB1 f k + 256 * zB1 f (k + 1)
def zB4 (f : Nat → Int32) (k : Int) : Int := zB2 f k + 65536 * zB2 f (k + 2)
theorem zB2_b (f : Nat → Int32) (k : Int) : 0 ≤ zB2 f k ∧ zB2 f k ≤ 65535 := by
  have h1 := zB1_b f k
  have h2 := zB1_b f (k + 1)
  unfold zB2
  omega
theorem zB4_b (f : Nat → Int32) (k : Int) : 0 ≤ zB4 f k ∧ zB4 f k ≤ 4294967295 := by
  have h1 := zB2_b f k
  have h2 := zB2_b f (k + 2)
  unfold zB4
  omega
/-- 2 to the k -/
def zp (k : Int) : Int := 2 ^ k.toNat
theorem zp_nat (k : Int) : zp k = ((2 ^ k.toNat : Nat) : Int) := by unfold zp; norm_cast
theorem zp_pos (k : Int) : 1 ≤ zp k := by
  rw [zp_nat]
  have := Nat.two_pow_pos k.toNat
  omega
theorem zp_le {a b : Int} (h : a ≤ b) : zp a ≤ zp b := by
  rw [zp_nat, zp_nat]
  have := Nat.pow_le_pow_right (n := 2) (by decide) (show a.toNat ≤ b.toNat by omega)
  omega
theorem zp_s {k : Int} (h : 0 ≤ k) : zp (k + 1) = 2 * zp k := by
  rw [zp_nat, zp_nat, show (k + 1).toNat = k.toNat + 1 by omega, Nat.pow_succ]
  omega
theorem iI_or0 (x : Int32) : x ||| iI 0 = x := by
  rw [iI_0]
  exact Int32.or_zero
theorem iI_bitor {k z v : Int} (hk : 0 ≤ k ∧ k ≤ 30) (hz : 0 ≤ z ∧ z ≤ 1) (hv : 0 ≤ v ∧ v < zp k) : ∃ y : Int, iI v ||| (iI z <<< (iI k &&& 31)) = iI y ∧ 0 ≤ y ∧ y < zp (k + 1) := by
  have e1 : iI k = iI ((k.toNat : Nat) : Int) := by rw [Int.toNat_of_nonneg hk.1]
  have h2 := zp_s hk.1
  rw [e1, iI_shl k.toNat (by omega)]
  have h3 : zp (k + 1) = 2 ^ (k.toNat + 1) := by unfold zp; rw [show (k + 1).toNat = k.toNat + 1 by omega]
  have h4 : z * 2 ^ k.toNat ≤ zp k := by
    have : z = 0 ∨ z = 1 := by omega
    rcases this with rfl | rfl
    · rw [Int.zero_mul]; have := zp_pos k; omega
    · rw [Int.one_mul]; exact Int.le_refl _
  have h5 : 0 ≤ z * 2 ^ k.toNat := by
    have : z = 0 ∨ z = 1 := by omega
    rcases this with rfl | rfl
    · rw [Int.zero_mul]; omega
    · rw [Int.one_mul]; have := zp_pos k; unfold zp at this; omega
  obtain ⟨y, e2, h6, h7⟩ := iI_or (x := v) (y := z * 2 ^ k.toNat) (k.toNat + 1) (by omega) (by rw [← h3]; have := zp_pos k; omega) (by rw [← h3]; have := zp_pos k; omega)
  exact ⟨y, e2, h6, by rw [h3]; exact h7⟩
theorem zmulb {a b : Int} (ha : 0 ≤ a ∧ a ≤ 2000) (hb : 0 ≤ b ∧ b ≤ 20000) : 0 ≤ a * b ∧ a * b ≤ 40000000 := ⟨Int.mul_nonneg ha.1 hb.1, by
  have h1 : a * b ≤ 2000 * b := Int.mul_le_mul_of_nonneg_right ha.2 hb.1
  omega⟩
theorem zmulc {a b A B : Int} (ha : 0 ≤ a ∧ a ≤ A) (hb : 0 ≤ b ∧ b ≤ B) : 0 ≤ a * b ∧ a * b ≤ A * B := ⟨Int.mul_nonneg ha.1 hb.1, Int.le_trans (Int.mul_le_mul_of_nonneg_right ha.2 hb.1) (Int.mul_le_mul_of_nonneg_left hb.2 (Int.le_trans ha.1 ha.2))⟩
theorem iI_shlV {x k : Int} (hk : 0 ≤ k ∧ k < 32) : iI x <<< (iI k &&& 31) = iI (x * zp k) := by
  have e1 : iI k = iI ((k.toNat : Nat) : Int) := by rw [Int.toNat_of_nonneg hk.1]
  rw [e1, iI_shl k.toNat (by omega)]
  rfl

/-! what feed() and alter() do to the tape's bytes -/
theorem zud_at (f : Nat → Int32) (i : Nat) (v : Int32) : upd f i v i = v := by unfold upd; rw [if_pos rfl]
theorem zud_ne {f : Nat → Int32} {i k : Nat} {v : Int32} (h : k ≠ i) : upd f i v k = f k := by unfold upd; rw [if_neg h]
def zfy (a sh : Int) : Int32 := vp_nar .byte (iI a >>> (iI sh &&& 31)).toInt8.toInt32
def zcb (b : Int) : Int32 := vp_nar .byte (iI b).toInt8.toInt32
def zsel (a0 a1 a2 a3 a4 j : Int) : Int := if j < 4 then a0 else if j < 8 then a1 else if j < 12 then a2 else if j < 16 then a3 else a4
def zfb (a0 a1 a2 a3 a4 j : Int) : Int32 := zfy (zsel a0 a1 a2 a3 a4 j) (24 - 8 * (j % 4))
/-- four bytes more -/
def zAp (f f1 : Nat → Int32) (L nu : Int) : Prop := (∀ k : Nat, ((k : Int) < L ∨ L + 4 ≤ (k : Int)) → f1 k = f k) ∧ (∀ j : Int, 0 ≤ j → j < 4 → f1 (L + j).toNat = zfy nu (24 - 8 * j))
/-- twenty bytes more -/
def zFd (f f1 : Nat → Int32) (L a0 a1 a2 a3 a4 : Int) : Prop := (∀ k : Nat, ((k : Int) < L ∨ L + 20 ≤ (k : Int)) → f1 k = f k) ∧ (∀ j : Int, 0 ≤ j → j < 20 → f1 (L + j).toNat = zfb a0 a1 a2 a3 a4 j)
def zFq (f f1 : Nat → Int32) (L a0 a1 a2 a3 a4 : Int) : Prop := (L + 20 ≤ 20000 → zFd f f1 L a0 a1 a2 a3 a4) ∧ (20000 < L + 20 → f1 = f)
def zAq (f f1 : Nat → Int32) (L i b x : Int) : Prop := (0 ≤ i ∧ i < L → x = zB1 f i ∧ f1 = upd f i.toNat (zcb b)) ∧ (i < 0 ∨ L ≤ i → f1 = f)
theorem zap_lo {f f2 g : Nat → Int32} {L L2 W : Int} {v : Int32} (hg : g = upd f2 L2.toNat v) (h0 : 0 ≤ L ∧ L ≤ L2 ∧ L2 < L + W) (hlo : ∀ k : Nat, ((k : Int) < L ∨ L + W ≤ (k : Int)) → f2 k = f k) : ∀ k : Nat, ((k : Int) < L ∨ L + W ≤ (k : Int)) → g k = f k := fun k hk => by
  rw [hg, zud_ne (by omega)]
  exact hlo k hk
theorem zap_hi {f2 g : Nat → Int32} {L L2 sh nu : Int} (hg : g = upd f2 L2.toNat (zfy nu sh)) (h0 : 0 ≤ L) (h8 : 8 * (L2 - L) = 24 - sh) (hhi : ∀ j : Int, 0 ≤ j → 8 * j < 24 - sh → f2 (L + j).toNat = zfy nu (24 - 8 * j)) : ∀ j : Int, 0 ≤ j → 8 * j < 24 - (sh - 8) → g (L + j).toNat = zfy nu (24 - 8 * j) := fun j h1 h2 => by
  by_cases h3 : 8 * j < 24 - sh
  · rw [hg, zud_ne (by omega)]
    exact hhi j h1 h3
  · have h4 : 24 - 8 * j = sh := by omega
    rw [hg, show (L + j).toNat = L2.toNat by omega, zud_at, h4]
theorem zfd_hi {f2 g : Nat → Int32} {L k a0 a1 a2 a3 a4 w sh : Int} (hg : g = upd f2 (L + k).toNat (zfy w sh)) (hw : w = zsel a0 a1 a2 a3 a4 k) (hz : sh = 24 - 8 * (k % 4)) (h0 : 0 ≤ L) (hk : 0 ≤ k) (hhi : ∀ j : Int, 0 ≤ j → j < k → f2 (L + j).toNat = zfb a0 a1 a2 a3 a4 j) : ∀ j : Int, 0 ≤ j → j < k + 1 → g (L + j).toNat = zfb a0 a1 a2 a3 a4 j := fun j h1 h2 => by
  by_cases h3 : j = k
  · rw [hg, h3, zud_at, hw, hz]
    rfl
  · rw [hg, zud_ne (by omega)]
    exact hhi j h1 (by omega)
theorem zfeed5 {f f1 f2 f3 f4 f5 : Nat → Int32} {L L1 L2 L3 L4 a0 a1 a2 a3 a4 : Int} (h0 : 0 ≤ L) (e1 : L1 = L + 4) (e2 : L2 = L + 8) (e3 : L3 = L + 12) (e4 : L4 = L + 16) (q1 : zAp f f1 L a0) (q2 : zAp f1 f2 L1 a1) (q3 : zAp f2 f3 L2 a2) (q4 : zAp f3 f4 L3 a3) (q5 : zAp f4 f5 L4 a4) : zFd f f5 L a0 a1 a2 a3 a4 := by
  subst e1 e2 e3 e4
  refine ⟨fun k hk => ?_, fun j h1 h2 => ?_⟩
  · rw [q5.1 k (by omega), q4.1 k (by omega), q3.1 k (by omega), q2.1 k (by omega), q1.1 k (by omega)]
  · unfold zfb
    by_cases c1 : j < 4
    · rw [q5.1 _ (by omega), q4.1 _ (by omega), q3.1 _ (by omega), q2.1 _ (by omega), q1.2 j h1 c1, show j % 4 = j by omega]
      unfold zsel
      rw [if_pos c1]
    · by_cases c2 : j < 8
      · rw [q5.1 _ (by omega), q4.1 _ (by omega), q3.1 _ (by omega), show (L + j).toNat = (L + 4 + (j - 4)).toNat by omega, q2.2 (j - 4) (by omega) (by omega), show j % 4 = j - 4 by omega]
        unfold zsel
        rw [if_neg c1, if_pos c2]
      · by_cases c3 : j < 12
        · rw [q5.1 _ (by omega), q4.1 _ (by omega), show (L + j).toNat = (L + 8 + (j - 8)).toNat by omega, q3.2 (j - 8) (by omega) (by omega), show j % 4 = j - 8 by omega]
          unfold zsel
          rw [if_neg c1, if_neg c2, if_pos c3]
        · by_cases c4 : j < 16
          · rw [q5.1 _ (by omega), show (L + j).toNat = (L + 12 + (j - 12)).toNat by omega, q4.2 (j - 12) (by omega) (by omega), show j % 4 = j - 12 by omega]
            unfold zsel
            rw [if_neg c1, if_neg c2, if_neg c3, if_pos c4]
          · rw [show (L + j).toNat = (L + 16 + (j - 16)).toNat by omega, q5.2 (j - 16) (by omega) (by omega), show j % 4 = j - 16 by omega]
            unfold zsel
            rw [if_neg c1, if_neg c2, if_neg c3, if_neg c4]
theorem zFq_eq {f f1 g g1 : Nat → Int32} {L n a0 a1 a2 a3 a4 : Int} (q1 : zFq f f1 L a0 a1 a2 a3 a4) (q2 : zFq g g1 n a0 a1 a2 a3 a4) (hn : n = L) (h0 : 0 ≤ L) (hfg : f = g) : f1 = g1 := by
  subst hn hfg
  by_cases c : n + 20 ≤ 20000
  · have r1 := q1.1 c
    have r2 := q2.1 c
    funext k
    by_cases c2 : (k : Int) < n ∨ n + 20 ≤ (k : Int)
    · rw [r1.1 k c2, r2.1 k c2]
    · have e1 : k = (n + ((k : Int) - n)).toNat := by omega
      rw [e1, r1.2 _ (by omega) (by omega), r2.2 _ (by omega) (by omega)]
  · rw [q1.2 (by omega), q2.2 (by omega)]
theorem zAq_x {f f1 g g1 : Nat → Int32} {L n i b x y : Int} (q1 : zAq f f1 L i b x) (q2 : zAq g g1 n i b y) (hn : n = L) (hfg : f = g) : 0 ≤ i ∧ i < L → x = y := fun hi => by
  subst hn hfg
  rw [(q1.1 hi).1, (q2.1 hi).1]
theorem zAq_eq {f f1 g g1 : Nat → Int32} {L n i b x y : Int} (q1 : zAq f f1 L i b x) (q2 : zAq g g1 n i b y) (hn : n = L) (hfg : f = g) : f1 = g1 := by
  subst hn hfg
  by_cases c : 0 ≤ i ∧ i < n
  · rw [(q1.1 c).2, (q2.1 c).2]
  · rw [q1.2 (by omega), q2.2 (by omega)]
/-! what an archive's directory must hold, over g: what the tape reads at a place -/
def zTf (x : Int) (P : Prop) : Prop := (x = 1 ∧ P) ∨ (x = 0 ∧ ¬ P)
theorem zTf_t {x : Int} {P : Prop} (q : zTf x P) (hx : ¬ x = 0) : P := by
  rcases q with q | q
  · exact q.2
  · exact absurd q.1 hx
theorem zTf_f {x : Int} {P : Prop} (q : zTf x P) (hx : x = 0) : ¬ P := by
  rcases q with q | q
  · omega
  · exact q.2
theorem zTf_1 {P : Prop} (q : P) : zTf 1 P := Or.inl ⟨rfl, q⟩
theorem zTf_0 {P : Prop} (q : ¬ P) : zTf 0 P := Or.inr ⟨rfl, q⟩
theorem zTf_b {x : Int} {P : Prop} (q : zTf x P) : 0 ≤ x ∧ x ≤ 1 := by unfold zTf at q; omega
theorem zTf_w {x : Int} {P Q : Prop} (q : zTf x P) (pq : P ↔ Q) : zTf x Q := by
  unfold zTf at *
  grind
def zC1 (f : Nat → Int32) (L i : Int) : Int := if 0 ≤ i ∧ i < L then zB1 f i else 0
theorem zC1_b (f : Nat → Int32) (L i : Int) : 0 ≤ zC1 f L i ∧ zC1 f L i ≤ 255 := by
  unfold zC1
  have q := zB1_b f i
  split <;> omega
theorem zC1_in {f : Nat → Int32} {L i : Int} (q : 0 ≤ i ∧ i < L) : zC1 f L i = zB1 f i := if_pos q
theorem zC1_fun {f g : Nat → Int32} {L n : Int} (hn : n = L) (q : ∀ k : Nat, (k : Int) < L → f k = g k) : zC1 f L = zC1 g n := by
  subst hn
  funext i
  unfold zC1
  split
  · unfold zB1
    rw [q _ (by omega)]
  · rfl
def zg2 (g : Int → Int) (i : Int) : Int := g i + 256 * g (i + 1)
def zg4 (g : Int → Int) (i : Int) : Int := g i + 256 * g (i + 1) + 65536 * g (i + 2) + 16777216 * g (i + 3)
theorem zg4_2 (g : Int → Int) (i : Int) : zg4 g i = zg2 g i + 65536 * zg2 g (i + 2) := by
  unfold zg4 zg2
  rw [show i + 2 + 1 = i + 3 by omega]
  omega
def zanI (x y : Int) : Int := (iI x &&& iI y).toInt
/-- the four bytes of a mark -/
def zMk (g : Int → Int) (i u v : Int) : Prop := g i = 80 ∧ g (i + 1) = 75 ∧ g (i + 2) = u ∧ g (i + 3) = v
def zEd (g : Int → Int) (L i : Int) : Prop := zMk g i 5 6 ∧ i + 22 + zg2 g (i + 20) = L
def zFE (g : Int → Int) (L x : Int) : Prop := (x = -1 ∧ ∀ i : Int, 0 ≤ i → i + 22 ≤ L → ¬ zEd g L i) ∨ (0 ≤ x ∧ x + 22 ≤ L ∧ zEd g L x ∧ ∀ i : Int, x < i → i + 22 ≤ L → ¬ zEd g L i)
theorem zFE_eq {g : Int → Int} {L x y : Int} (q : zFE g L x) (r : zFE g L y) : x = y := by
  unfold zFE at *
  rcases q with ⟨q1, q2⟩ | ⟨q1, q2, q3, q4⟩ <;> rcases r with ⟨r1, r2⟩ | ⟨r1, r2, r3, r4⟩
  · omega
  · exact absurd r3 (q2 y r1 r2)
  · exact absurd q3 (r2 x q1 q2)
  · rcases Int.lt_trichotomy x y with c | c | c
    · exact absurd r3 (q4 y c r2)
    · exact c
    · exact absurd q3 (r4 x c q2)
/-- the end's own numbers: the fault, and where -/
def zHd (g : Int → Int) (u x p : Int) : Prop :=
  (¬ zg4 g (u + 4) = 0 ∧ x = -2 ∧ p = u + 4) ∨ (zg4 g (u + 4) = 0 ∧ ¬ zg2 g (u + 8) = zg2 g (u + 10) ∧ x = -2 ∧ p = u + 8) ∨ (zg4 g (u + 4) = 0 ∧ zg2 g (u + 8) = zg2 g (u + 10) ∧ ¬ zg4 g (u + 12) + zg4 g (u + 16) = u ∧ x = -3 ∧ p = u + 12) ∨ (zg4 g (u + 4) = 0 ∧ zg2 g (u + 8) = zg2 g (u + 10) ∧ zg4 g (u + 12) + zg4 g (u + 16) = u ∧ 64 < zg2 g (u + 10) ∧ x = -4 ∧ p = u + 10) ∨ (zg4 g (u + 4) = 0 ∧ zg2 g (u + 8) = zg2 g (u + 10) ∧ zg4 g (u + 12) + zg4 g (u + 16) = u ∧ zg2 g (u + 10) ≤ 64 ∧ x = 0)
/-- behind an entry -/
def zBh (g : Int → Int) (u : Int) : Int := u + 46 + zg2 g (u + 28) + zg2 g (u + 30) + zg2 g (u + 32)
def zSp (g : Int → Int) (u w : Int) : Prop := u + 46 ≤ w ∧ zMk g u 1 2 ∧ zBh g u ≤ w
/-- its sizes -/
def zRs (g : Int → Int) (u : Int) : Prop := ¬ (zg2 g (u + 10) = 0 ∧ ¬ zg4 g (u + 20) = zg4 g (u + 24)) ∧ (¬ (0 < zg2 g (u + 28) ∧ g (u + zg2 g (u + 28) + 45) = 47) ∨ (zg2 g (u + 10) = 0 ∧ zg4 g (u + 20) = 0 ∧ zg4 g (u + 24) = 0))
/-- where its first wrong number stands; 0: nowhere -/
def zNp (g : Int → Int) (u p : Int) : Prop :=
  (20 < zg2 g (u + 6) ∧ p = u + 6) ∨ (zg2 g (u + 6) ≤ 20 ∧ ¬ zanI (zg2 g (u + 8)) (-2055) = 0 ∧ p = u + 8) ∨ (zg2 g (u + 6) ≤ 20 ∧ zanI (zg2 g (u + 8)) (-2055) = 0 ∧ ¬ (zg2 g (u + 10) = 0 ∨ zg2 g (u + 10) = 8) ∧ p = u + 10) ∨ (zg2 g (u + 6) ≤ 20 ∧ zanI (zg2 g (u + 8)) (-2055) = 0 ∧ (zg2 g (u + 10) = 0 ∨ zg2 g (u + 10) = 8) ∧ ¬ zg2 g (u + 34) = 0 ∧ p = u + 34) ∨ (zg2 g (u + 6) ≤ 20 ∧ zanI (zg2 g (u + 8)) (-2055) = 0 ∧ (zg2 g (u + 10) = 0 ∨ zg2 g (u + 10) = 8) ∧ zg2 g (u + 34) = 0 ∧ ¬ zRs g u ∧ p = u + 20) ∨ (zg2 g (u + 6) ≤ 20 ∧ zanI (zg2 g (u + 8)) (-2055) = 0 ∧ (zg2 g (u + 10) = 0 ∨ zg2 g (u + 10) = 8) ∧ zg2 g (u + 34) = 0 ∧ zRs g u ∧ p = 0)
theorem zNp_eq {g : Int → Int} {u p q : Int} (h1 : zNp g u p) (h2 : zNp g u q) : p = q := by
  unfold zNp at *
  rcases h1 with h1 | h1 | h1 | h1 | h1 | h1 <;> rcases h2 with h2 | h2 | h2 | h2 | h2 | h2 <;> first | omega | exact absurd h1.2.2.2.2.1 h2.2.2.2.2.1 | exact absurd h2.2.2.2.2.1 h1.2.2.2.2.1
/-- a byte that a name may hold -/
def zpl (b : Int) : Prop := 32 ≤ b ∧ b ≤ 126 ∧ ¬ b = 92 ∧ ¬ b = 58 ∧ ¬ b = 42 ∧ ¬ b = 63 ∧ ¬ b = 34 ∧ ¬ b = 60 ∧ ¬ b = 62 ∧ ¬ b = 124
/-- where the part that holds byte k begins; how many ended before -/
def zpb (g : Int → Int) (a : Int) : Nat → Int
  | 0 => 0
  | k + 1 => if g (a + (k : Int)) = 47 then (k : Int) + 1 else zpb g a k
def zpn (g : Int → Int) (a : Int) : Nat → Int
  | 0 => 0
  | k + 1 => if g (a + (k : Int)) = 47 then zpn g a k + 1 else zpn g a k
def zpt (g : Int → Int) (s n : Int) : Prop := 0 < n ∧ ¬ (n = 1 ∧ g s = 46) ∧ ¬ (n = 2 ∧ g s = 46 ∧ g (s + 1) = 46)
def zbk (g : Int → Int) (a k : Int) : Prop := zpl (g (a + k)) ∧ (g (a + k) = 47 → zpt g (a + zpb g a k.toNat) (k - zpb g a k.toNat))
/-- the last part, where no '/' ends the name; how many parts there are -/
def zlp (g : Int → Int) (a n : Int) : Prop := zpb g a n.toNat < n → zpt g (a + zpb g a n.toNat) (n - zpb g a n.toNat)
def zpc (g : Int → Int) (a n : Int) : Int := if zpb g a n.toNat < n then zpn g a n.toNat + 1 else zpn g a n.toNat
def zNm (g : Int → Int) (a n : Int) : Prop := 1 ≤ n ∧ n ≤ 60 ∧ (∀ k : Int, 0 ≤ k → k < n → zbk g a k) ∧ zlp g a n ∧ zpc g a n ≤ 8
theorem zpb_s {g : Int → Int} {a k : Int} (h0 : 0 ≤ k) : zpb g a (k + 1).toNat = if g (a + k) = 47 then k + 1 else zpb g a k.toNat := by
  obtain ⟨n, rfl⟩ := Int.eq_ofNat_of_zero_le h0
  rw [show ((n : Int) + 1).toNat = n + 1 by omega, show ((n : Int)).toNat = n by omega]
  rfl
theorem zpn_s {g : Int → Int} {a k : Int} (h0 : 0 ≤ k) : zpn g a (k + 1).toNat = if g (a + k) = 47 then zpn g a k.toNat + 1 else zpn g a k.toNat := by
  obtain ⟨n, rfl⟩ := Int.eq_ofNat_of_zero_le h0
  rw [show ((n : Int) + 1).toNat = n + 1 by omega, show ((n : Int)).toNat = n by omega]
  rfl
theorem zpb_b (g : Int → Int) (a : Int) (n : Nat) : 0 ≤ zpb g a n ∧ zpb g a n ≤ n ∧ 0 ≤ zpn g a n ∧ zpn g a n ≤ n := by
  induction n with
  | zero =>
    unfold zpb zpn
    omega
  | succ n ih =>
    unfold zpb zpn
    split <;> omega
/-- one program's loop: it looks at the last part with the last byte -/
def zNi (g : Int → Int) (a n k pa ps : Int) : Prop := (∀ t : Int, 0 ≤ t → t < k → zbk g a t) ∧ (k < n → pa = zpn g a k.toNat ∧ ps = zpb g a k.toNat) ∧ (k = n → pa = zpc g a n ∧ zlp g a n)
/-- the other's: with a byte more -/
def zNj (g : Int → Int) (a n k pa ps : Int) : Prop := (∀ t : Int, 0 ≤ t → t < k → t < n → zbk g a t) ∧ (k ≤ n → pa = zpn g a k.toNat ∧ ps = zpb g a k.toNat) ∧ (k = n + 1 → pa = zpc g a n ∧ zlp g a n)
theorem zNi_0 {g : Int → Int} {a n : Int} (hn : 1 ≤ n) : zNi g a n 0 0 0 := ⟨fun t h1 h2 => by omega, fun _ => ⟨rfl, rfl⟩, fun q => by omega⟩
theorem zNj_0 {g : Int → Int} {a n : Int} (hn : 1 ≤ n) : zNj g a n 0 0 0 := ⟨fun t h1 h2 => by omega, fun _ => ⟨rfl, rfl⟩, fun q => by omega⟩
theorem zNi_end {g : Int → Int} {a n k pa ps : Int} (q : zNi g a n k pa ps) (hk : k = n) (hn : 1 ≤ n ∧ n ≤ 60) : zNm g a n ↔ pa ≤ 8 := by
  subst hk
  have r := q.2.2 rfl
  unfold zNm
  constructor
  · intro w
    rw [r.1]
    exact w.2.2.2.2
  · intro w
    exact ⟨hn.1, hn.2, q.1, r.2, by rw [← r.1]; exact w⟩
theorem zNj_end {g : Int → Int} {a n k pa ps : Int} (q : zNj g a n k pa ps) (hk : k = n + 1) (hn : 1 ≤ n ∧ n ≤ 60) : zNm g a n ↔ pa ≤ 8 := by
  have r := q.2.2 hk
  unfold zNm
  constructor
  · intro w
    rw [r.1]
    exact w.2.2.2.2
  · intro w
    exact ⟨hn.1, hn.2, fun t h1 h2 => q.1 t h1 (by omega) h2, r.2, by rw [← r.1]; exact w⟩
/-- not a name: byte k -/
theorem zNm_byte {g : Int → Int} {a n k : Int} (hk : 0 ≤ k ∧ k < n) (q : ¬ zpl (g (a + k))) : ¬ zNm g a n := fun w => q (w.2.2.1 k hk.1 hk.2).1
theorem zNm_part {g : Int → Int} {a n k s z : Int} (hk : 0 ≤ k ∧ k < n) (hs : g (a + k) = 47) (hb : s = a + zpb g a k.toNat) (hz : z = k - zpb g a k.toNat) (q : ¬ zpt g s z) : ¬ zNm g a n := fun w => q (by rw [hb, hz]; exact (w.2.2.1 k hk.1 hk.2).2 hs)
theorem zNi_slash {g : Int → Int} {a n k pa ps : Int} (q : zNi g a n k pa ps) (hk : 0 ≤ k ∧ k < n) (hp : zpl (g (a + k))) (hs : g (a + k) = 47) (hz : zpt g (a + ps) (k - ps)) : zNi g a n (k + 1) (pa + 1) (k + 1) := by
  have r := q.2.1 hk.2
  have e1 : zpb g a (k + 1).toNat = k + 1 := by rw [zpb_s hk.1, if_pos hs]
  have e2 : zpn g a (k + 1).toNat = pa + 1 := by rw [zpn_s hk.1, if_pos hs, r.1]
  refine ⟨fun t h1 h2 => ?_, fun _ => ⟨e2.symm, e1.symm⟩, fun hn => ?_⟩
  · by_cases c : t = k
    · subst c
      exact ⟨hp, fun _ => by rw [← r.2]; exact hz⟩
    · exact q.1 t h1 (by omega)
  · subst hn
    unfold zpc zlp
    rw [e1, e2, if_neg (by omega)]
    exact ⟨rfl, fun w => by omega⟩
theorem zNi_plain {g : Int → Int} {a n k pa ps : Int} (q : zNi g a n k pa ps) (hk : 0 ≤ k ∧ k + 1 < n) (hp : zpl (g (a + k))) (hs : ¬ g (a + k) = 47) : zNi g a n (k + 1) pa ps := by
  have r := q.2.1 (by omega)
  refine ⟨fun t h1 h2 => ?_, fun _ => ⟨by rw [zpn_s hk.1, if_neg hs]; exact r.1, by rw [zpb_s hk.1, if_neg hs]; exact r.2⟩, fun hn => by omega⟩
  by_cases c : t = k
  · subst c
    exact ⟨hp, fun w => absurd w hs⟩
  · exact q.1 t h1 (by omega)
theorem zNi_last {g : Int → Int} {a n k pa ps x : Int} (q : zNi g a n k pa ps) (hk : 0 ≤ k ∧ k + 1 = n) (hp : zpl (g (a + k))) (hs : ¬ g (a + k) = 47) (hz : zpt g (a + ps) (n - ps)) : zNi g a n (k + 1) (pa + 1) x := by
  have r := q.2.1 (by omega)
  have hb := zpb_b g a k.toNat
  refine ⟨fun t h1 h2 => ?_, fun hn => by omega, fun hn => ?_⟩
  · by_cases c : t = k
    · subst c
      exact ⟨hp, fun w => absurd w hs⟩
    · exact q.1 t h1 (by omega)
  · have e1 : zpb g a n.toNat = ps := by rw [← hk.2, zpb_s hk.1, if_neg hs, r.2]
    have e2 : zpn g a n.toNat = pa := by rw [← hk.2, zpn_s hk.1, if_neg hs, r.1]
    unfold zpc zlp
    rw [e1, e2, if_pos (by omega)]
    exact ⟨rfl, fun _ => hz⟩
theorem zNm_last {g : Int → Int} {a n k pa ps : Int} (q : zNi g a n k pa ps) (hk : 0 ≤ k ∧ k + 1 = n) (hs : ¬ g (a + k) = 47) (hz : ¬ zpt g (a + ps) (n - ps)) : ¬ zNm g a n := fun w => by
  have r := q.2.1 (by omega)
  have hb := zpb_b g a k.toNat
  have e1 : zpb g a n.toNat = ps := by rw [← hk.2, zpb_s hk.1, if_neg hs, r.2]
  have w4 := w.2.2.2.1
  unfold zlp at w4
  rw [e1] at w4
  exact hz (w4 (by omega))
theorem zNj_slash {g : Int → Int} {a n k pa ps : Int} (q : zNj g a n k pa ps) (hk : 0 ≤ k ∧ k < n) (hp : zpl (g (a + k))) (hs : g (a + k) = 47) (hz : zpt g (a + ps) (k - ps)) : zNj g a n (k + 1) (pa + 1) (k + 1) := by
  have r := q.2.1 (by omega)
  have e1 : zpb g a (k + 1).toNat = k + 1 := by rw [zpb_s hk.1, if_pos hs]
  have e2 : zpn g a (k + 1).toNat = pa + 1 := by rw [zpn_s hk.1, if_pos hs, r.1]
  refine ⟨fun t h1 h2 h3 => ?_, fun _ => ⟨e2.symm, e1.symm⟩, fun hn => by omega⟩
  by_cases c : t = k
  · subst c
    exact ⟨hp, fun _ => by rw [← r.2]; exact hz⟩
  · exact q.1 t h1 (by omega) h3
theorem zNj_plain {g : Int → Int} {a n k pa ps : Int} (q : zNj g a n k pa ps) (hk : 0 ≤ k ∧ k < n) (hp : zpl (g (a + k))) (hs : ¬ g (a + k) = 47) : zNj g a n (k + 1) pa ps := by
  have r := q.2.1 (by omega)
  refine ⟨fun t h1 h2 h3 => ?_, fun _ => ⟨by rw [zpn_s hk.1, if_neg hs]; exact r.1, by rw [zpb_s hk.1, if_neg hs]; exact r.2⟩, fun hn => by omega⟩
  by_cases c : t = k
  · subst c
    exact ⟨hp, fun w => absurd w hs⟩
  · exact q.1 t h1 (by omega) h3
/-- the byte behind the last one: a part ends there, if one has begun -/
theorem zNj_last {g : Int → Int} {a n k pa ps p1 x : Int} (q : zNj g a n k pa ps) (hk : 1 ≤ n ∧ k = n) (h1 : k - ps = 0 ∧ p1 = pa ∨ 0 < k - ps ∧ p1 = pa + 1 ∧ zpt g (a + ps) (k - ps)) : zNj g a n (k + 1) p1 x := by
  have r := q.2.1 (by omega)
  have e0 := hk.2
  subst e0
  refine ⟨fun t h1 h2 h3 => q.1 t h1 h3 h3, fun hn => by omega, fun _ => ?_⟩
  unfold zpc zlp
  rw [← r.1, ← r.2]
  rcases h1 with w | w
  · rw [if_neg (by omega)]
    exact ⟨w.2, fun w2 => by omega⟩
  · rw [if_pos (by omega)]
    exact ⟨w.2.1, fun _ => w.2.2⟩
theorem zNm_lastj {g : Int → Int} {a n k pa ps : Int} (q : zNj g a n k pa ps) (hk : k = n) (hz : 0 < k - ps ∧ ¬ zpt g (a + ps) (k - ps)) : ¬ zNm g a n := fun w => by
  have r := q.2.1 (by omega)
  subst hk
  have w4 := w.2.2.2.1
  unfold zlp at w4
  rw [← r.2] at w4
  exact hz.2 (w4 (by omega))
/-- one step of either loop, as the programs lay them -/
theorem zNi_step {g : Int → Int} {a n k pa ps b sl pe : Int} (q : zNi g a n k pa ps) (hk : 0 ≤ k ∧ k < n) (hb : b = g (a + k)) (hp : zpl b) (hsl : sl = 1 ∧ b = 47 ∨ sl = 0 ∧ ¬ b = 47) (hpe : sl = 1 ∧ pe = k ∨ sl = 0 ∧ pe = n) (hc : sl = 1 ∨ k = n - 1) (hz : zpt g (a + ps) (pe - ps)) : zNi g a n (k + 1) (pa + 1) (k + 1) := by
  subst hb
  by_cases c : sl = 1
  · have e1 : pe = k := by omega
    subst e1
    exact zNi_slash q hk hp (by omega) hz
  · have e1 : pe = n := by omega
    subst e1
    exact zNi_last q (by omega) hp (by omega) hz
theorem zNm_step {g : Int → Int} {a n k pa ps b sl pe : Int} (q : zNi g a n k pa ps) (hk : 0 ≤ k ∧ k < n) (hb : b = g (a + k)) (hsl : sl = 1 ∧ b = 47 ∨ sl = 0 ∧ ¬ b = 47) (hpe : sl = 1 ∧ pe = k ∨ sl = 0 ∧ pe = n) (hc : sl = 1 ∨ k = n - 1) (hz : ¬ zpt g (a + ps) (pe - ps)) : ¬ zNm g a n := by
  subst hb
  have r := q.2.1 hk.2
  by_cases c : sl = 1
  · exact zNm_part hk (by omega) (by rw [r.2]) (by rw [← r.2]; omega) hz
  · have e1 : pe = n := by omega
    subst e1
    exact zNm_last q (by omega) (by omega) hz
theorem zNi_next {g : Int → Int} {a n k pa ps b : Int} (q : zNi g a n k pa ps) (hk : 0 ≤ k ∧ k + 1 < n) (hb : b = g (a + k)) (hp : zpl b) (hs : ¬ b = 47) : zNi g a n (k + 1) pa ps := by
  subst hb
  exact zNi_plain q hk hp hs
theorem zNm_b {g : Int → Int} {a n k b : Int} (hk : 0 ≤ k ∧ k < n) (hb : b = g (a + k)) (q : ¬ zpl b) : ¬ zNm g a n := by
  subst hb
  exact zNm_byte hk q
theorem zNj_next {g : Int → Int} {a n k pa ps b : Int} (q : zNj g a n k pa ps) (hk : 0 ≤ k) (hb : k < n ∧ b = g (a + k) ∨ k = n ∧ b = 47) (hp : zpl b) (hs : ¬ b = 47) : zNj g a n (k + 1) pa ps := by
  have hb2 : b = g (a + k) := by omega
  subst hb2
  exact zNj_plain q (by omega) hp hs
theorem zNj_step {g : Int → Int} {a n k pa ps b z p1 dt : Int} (q : zNj g a n k pa ps) (hk : 0 ≤ k ∧ k ≤ n ∧ 1 ≤ n) (hb : k < n ∧ b = g (a + k) ∨ k = n ∧ b = 47) (hp : zpl b) (hs : b = 47) (hz : z = k - ps) (hdt : (dt = 1 ∧ (z = 1 ∧ g (a + ps) = 46 ∨ z = 2 ∧ g (a + ps) = 46 ∧ g (a + ps + 1) = 46)) ∨ (dt = 0 ∧ ¬ (z = 1 ∧ g (a + ps) = 46 ∨ z = 2 ∧ g (a + ps) = 46 ∧ g (a + ps + 1) = 46))) (hd0 : dt = 0) (hz0 : ¬ (z = 0 ∧ (k < n ∨ k = 0))) (h1 : 0 < z ∧ p1 = pa + 1 ∨ z ≤ 0 ∧ p1 = pa) : zNj g a n (k + 1) p1 (k + 1) := by
  have r := q.2.1 hk.2.1
  have hbb := zpb_b g a k.toNat
  by_cases c : k < n
  · have hb2 : b = g (a + k) := by omega
    have e1 : p1 = pa + 1 := by omega
    subst e1
    have hz2 : zpt g (a + ps) (k - ps) := by
      unfold zpt
      omega
    exact zNj_slash q ⟨hk.1, c⟩ (by rw [← hb2]; exact hp) (by omega) hz2
  · refine zNj_last q (by omega) ?_
    by_cases c2 : z = 0
    · exact Or.inl (by omega)
    · refine Or.inr ⟨by omega, by omega, ?_⟩
      unfold zpt
      omega
theorem zNm_stepj {g : Int → Int} {a n k pa ps b z dt : Int} (q : zNj g a n k pa ps) (hk : 0 ≤ k ∧ k ≤ n ∧ 1 ≤ n) (hb : k < n ∧ b = g (a + k) ∨ k = n ∧ b = 47) (hs : b = 47) (hz : z = k - ps) (hdt : (dt = 1 ∧ (z = 1 ∧ g (a + ps) = 46 ∨ z = 2 ∧ g (a + ps) = 46 ∧ g (a + ps + 1) = 46)) ∨ (dt = 0 ∧ ¬ (z = 1 ∧ g (a + ps) = 46 ∨ z = 2 ∧ g (a + ps) = 46 ∧ g (a + ps + 1) = 46))) (hz0 : ¬ dt = 0 ∨ (z = 0 ∧ (k < n ∨ k = 0))) : ¬ zNm g a n := by
  have r := q.2.1 hk.2.1
  by_cases c : k < n
  · refine zNm_part (k := k) (s := a + ps) (z := k - ps) ⟨hk.1, c⟩ (by omega) (by rw [r.2]) (by rw [r.2]) ?_
    unfold zpt
    omega
  · refine zNm_lastj q (by omega) ⟨by omega, ?_⟩
    unfold zpt
    omega
theorem zNm_bj {g : Int → Int} {a n k b : Int} (hk : 0 ≤ k) (hb : k < n ∧ b = g (a + k) ∨ k = n ∧ b = 47) (q : ¬ zpl b) : ¬ zNm g a n := by
  by_cases c : k < n
  · exact zNm_b ⟨hk, c⟩ (by omega) q
  · refine absurd ?_ q
    have e1 : b = 47 := by omega
    subst e1
    unfold zpl
    omega
theorem zNm_no {g : Int → Int} {a n : Int} (hn : n < 1 ∨ 60 < n) : ¬ zNm g a n := fun w => by
  have w1 := w.1
  have w2 := w.2.1
  omega
def zSm (g : Int → Int) (i k n : Int) : Prop := ∀ t : Int, 0 ≤ t → t < n → g (i + t) = g (k + t)
theorem zSm_s {g : Int → Int} {i k n : Int} (q : zSm g i k n) (r : g (i + n) = g (k + n)) : zSm g i k (n + 1) := fun t h1 h2 => by
  by_cases c : t = n
  · rw [c]; exact r
  · exact q t h1 (by omega)
theorem zSm_no {g : Int → Int} {i k n t : Int} (h1 : 0 ≤ t ∧ t < n) (r : ¬ g (i + t) = g (k + t)) : ¬ zSm g i k n := fun q => r (q t h1.1 h1.2)
theorem zSm_le {g : Int → Int} {i k n z : Int} (q : zSm g i k n) (h1 : z ≤ n) : zSm g i k z := fun t h1 h2 => q t h1 (by omega)
theorem zst_all {r s : Int → Int} {n : Int} (q : ∀ t : Int, 0 ≤ t → t < n → r t = s t) (h1 : r n = s n) : ∀ t : Int, 0 ≤ t → t < n + 1 → r t = s t := fun t t1 t2 => by
  by_cases c : t = n
  · rw [c]; exact h1
  · exact q t t1 (by omega)
theorem zno_all {P : Int → Prop} {n : Int} (q : ∀ t : Int, 0 ≤ t → t < n → ¬ P t) (h1 : ¬ P n) : ∀ t : Int, 0 ≤ t → t < n + 1 → ¬ P t := fun t t1 t2 => by
  by_cases c : t = n
  · rw [c]; exact h1
  · exact q t t1 (by omega)
theorem zFE_s {g : Int → Int} {L k : Int} (q : ∀ i : Int, k < i → i + 22 ≤ L → ¬ zEd g L i) (r : ¬ zEd g L k) : ∀ i : Int, k - 1 < i → i + 22 ≤ L → ¬ zEd g L i := fun i h1 h2 => by
  by_cases c : i = k
  · rw [c]; exact r
  · exact q i (by omega) h2
/-- a row of bytes, read as numbers -/
def zrI (f : Nat → Int32) (t : Int) : Int := (f t.toNat).toInt
def zrN (f : Nat → Int32) (i t : Int) : Int := zrI f (60 * i + t)
theorem zrI_of {f : Nat → Int32} {x z : Int} (q : f x.toNat = iI z) (h1 : -2147483648 ≤ z) (h2 : z ≤ 2147483647) : z = zrI f x := by
  unfold zrI
  rw [q, iI_toInt ⟨h1, h2⟩]
theorem zrI_at {f f1 : Nat → Int32} {i : Int} {v : Int32} (q : f1 = upd f i.toNat v) : zrI f1 i = v.toInt := by
  unfold zrI
  rw [q, zud_at]
theorem zrI_ne {f f1 : Nat → Int32} {i t : Int} {v : Int32} (q : f1 = upd f i.toNat v) (h0 : 0 ≤ i ∧ 0 ≤ t ∧ ¬ t = i) : zrI f1 t = zrI f t := by
  unfold zrI
  rw [q, zud_ne (by omega)]
/-- a byte as a name keeps it -/
def zkb (g : Int → Int) (a t : Int) : Int := (zcb (g (a + t))).toInt
def zrw (g : Int → Int) (u t : Int) : Int := zkb g (u + 46) t
theorem zkn_s {f f1 : Nat → Int32} {g : Int → Int} {a k b o : Int} (q : f1 = upd f (o + k).toNat (zcb b)) (hb : b = g (a + k)) (hk : 0 ≤ k ∧ 0 ≤ o) (r : ∀ t : Int, 0 ≤ t → t < k → zrI f (o + t) = zkb g a t) : ∀ t : Int, 0 ≤ t → t < k + 1 → zrI f1 (o + t) = zkb g a t := fun t h1 h2 => by
  by_cases c : t = k
  · rw [c, zrI_at q, hb]
    rfl
  · rw [zrI_ne q (by omega)]
    exact r t h1 (by omega)
theorem zkn_0 {f f1 : Nat → Int32} {g : Int → Int} {a k b : Int} (q : f1 = upd f k.toNat (zcb b)) (hb : b = g (a + k)) (hk : 0 ≤ k) (r : ∀ t : Int, 0 ≤ t → t < k → zrI f t = zkb g a t) : ∀ t : Int, 0 ≤ t → t < k + 1 → zrI f1 t = zkb g a t := fun t h1 h2 => by
  by_cases c : t = k
  · rw [c, zrI_at q, hb]
    rfl
  · rw [zrI_ne q (by omega)]
    exact r t h1 (by omega)
/-- both names are one, or one lies in the other, which is a file -/
def zCl (n1 : Int) (r1 : Int → Int) (n2 : Int) (r2 : Int → Int) : Prop :=
  (n1 ≤ n2 ∧ (∀ t : Int, 0 ≤ t → t < n1 → r1 t = r2 t) ∧ (n1 = n2 ∨ (¬ r1 (n1 - 1) = 47 ∧ r2 n1 = 47))) ∨ (n2 < n1 ∧ (∀ t : Int, 0 ≤ t → t < n2 → r2 t = r1 t) ∧ (¬ r2 (n2 - 1) = 47 ∧ r1 n2 = 47))
def zbs (n : Int) (r : Int → Int) : Int := if r (n - 1) = 47 then n - 1 else n
def zIn (n1 : Int) (r1 : Int → Int) (n2 : Int) (r2 : Int → Int) (ju : Int) : Prop :=
  (¬ ju = 0 ∧ zbs n1 r1 = zbs n2 r2 ∧ ∀ t : Int, 0 ≤ t → t < zbs n2 r2 → r1 t = r2 t) ∨ (ju = 0 ∧ zbs n2 r2 < zbs n1 r1 ∧ r1 (zbs n2 r2) = 47 ∧ ∀ t : Int, 0 ≤ t → t < zbs n2 r2 → r1 t = r2 t)
/-- the same, told the other way -/
def zTw (n1 : Int) (r1 : Int → Int) (n2 : Int) (r2 : Int → Int) : Prop := zIn n1 r1 n2 r2 1 ∨ (¬ r2 (n2 - 1) = 47 ∧ zIn n1 r1 n2 r2 0) ∨ (¬ r1 (n1 - 1) = 47 ∧ zIn n2 r2 n1 r1 0)
theorem zTw_no {n1 n2 : Int} {r1 r2 : Int → Int} (q1 : ¬ zIn n1 r1 n2 r2 1) (q2 : r2 (n2 - 1) = 47 ∨ ¬ zIn n1 r1 n2 r2 0) (q3 : r1 (n1 - 1) = 47 ∨ ¬ zIn n2 r2 n1 r1 0) : ¬ zTw n1 r1 n2 r2 := fun q => by
  rcases q with q | q | q
  · exact q1 q
  · exact q2.elim (fun w => q.1 w) (fun w => w q.2)
  · exact q3.elim (fun w => q.1 w) (fun w => w q.2)
theorem zTw_iff {n1 n2 : Int} {r1 r2 : Int → Int} (h1 : 1 ≤ n1) (h2 : 1 ≤ n2) : zTw n1 r1 n2 r2 ↔ zCl n1 r1 n2 r2 := by
  have c1 : (r1 (n1 - 1) = 47 ∧ zbs n1 r1 = n1 - 1) ∨ (¬ r1 (n1 - 1) = 47 ∧ zbs n1 r1 = n1) := by
    unfold zbs
    by_cases c : r1 (n1 - 1) = 47
    · exact Or.inl ⟨c, if_pos c⟩
    · exact Or.inr ⟨c, if_neg c⟩
  have c2 : (r2 (n2 - 1) = 47 ∧ zbs n2 r2 = n2 - 1) ∨ (¬ r2 (n2 - 1) = 47 ∧ zbs n2 r2 = n2) := by
    unfold zbs
    by_cases c : r2 (n2 - 1) = 47
    · exact Or.inl ⟨c, if_pos c⟩
    · exact Or.inr ⟨c, if_neg c⟩
  unfold zTw zIn zCl
  generalize zbs n1 r1 = z1 at *
  generalize zbs n2 r2 = z2 at *
  constructor
  · rintro (q | ⟨q0, q⟩ | ⟨q0, q⟩)
    · rcases q with ⟨_, q1, q2⟩ | ⟨q1, _⟩
      · rcases c1 with ⟨d1, e1⟩ | ⟨d1, e1⟩ <;> rcases c2 with ⟨d2, e2⟩ | ⟨d2, e2⟩
        · have : n1 = n2 := by omega
          subst this
          refine Or.inl ⟨by omega, fun t t1 t2 => ?_, Or.inl rfl⟩
          by_cases c : t = n1 - 1
          · rw [c, d1, d2]
          · exact q2 t t1 (by omega)
        · refine Or.inr ⟨by omega, fun t t1 t2 => (q2 t t1 (by omega)).symm, d2, ?_⟩
          rw [show n2 = n1 - 1 by omega]; exact d1
        · refine Or.inl ⟨by omega, fun t t1 t2 => q2 t t1 (by omega), Or.inr ⟨d1, ?_⟩⟩
          rw [show n1 = n2 - 1 by omega]; exact d2
        · exact Or.inl ⟨by omega, fun t t1 t2 => q2 t t1 (by omega), Or.inl (by omega)⟩
      · omega
    · rcases q with ⟨q1, _⟩ | ⟨_, q1, q2, q3⟩
      · omega
      · have e2 : z2 = n2 := by rcases c2 with c | c; exact absurd c.1 q0; exact c.2
        subst e2
        exact Or.inr ⟨by omega, fun t t1 t2 => (q3 t t1 t2).symm, q0, q2⟩
    · rcases q with ⟨q1, _⟩ | ⟨_, q1, q2, q3⟩
      · omega
      · have e2 : z1 = n1 := by rcases c1 with c | c; exact absurd c.1 q0; exact c.2
        subst e2
        exact Or.inl ⟨by omega, fun t t1 t2 => (q3 t t1 t2).symm, Or.inr ⟨q0, q2⟩⟩
  · rintro (⟨q1, q2, q3⟩ | ⟨q1, q2, q3, q4⟩)
    · by_cases c : n1 = n2
      · subst c
        have d : r1 (n1 - 1) = r2 (n1 - 1) := q2 _ (by omega) (by omega)
        refine Or.inl (Or.inl ⟨by omega, ?_, fun t t1 t2 => q2 t t1 (by omega)⟩)
        rcases c1 with ⟨d1, e1⟩ | ⟨d1, e1⟩ <;> rcases c2 with ⟨d2, e2⟩ | ⟨d2, e2⟩
        · omega
        · exact absurd (d ▸ d1) d2
        · exact absurd (d.trans d2) d1
        · omega
      · have q4 : ¬ r1 (n1 - 1) = 47 ∧ r2 n1 = 47 := by rcases q3 with w | w; exact absurd w c; exact w
        have e1 : z1 = n1 := by rcases c1 with w | w; exact absurd w.1 q4.1; exact w.2
        subst e1
        by_cases c3 : n2 = z1 + 1
        · have e2 : z2 = z1 := by
            rcases c2 with w | w
            · omega
            · exact absurd (by rw [show n2 - 1 = z1 by omega]; exact q4.2) w.1
          exact Or.inl (Or.inl ⟨by omega, e2.symm, fun t t1 t2 => q2 t t1 (by omega)⟩)
        · refine Or.inr (Or.inr ⟨q4.1, Or.inr ⟨rfl, by omega, q4.2, fun t t1 t2 => (q2 t t1 t2).symm⟩⟩)
    · have e2 : z2 = n2 := by rcases c2 with w | w; exact absurd w.1 q3; exact w.2
      subst e2
      by_cases c3 : n1 = z2 + 1
      · have e1 : z1 = z2 := by
          rcases c1 with w | w
          · omega
          · exact absurd (by rw [show n1 - 1 = z2 by omega]; exact q4) w.1
        exact Or.inl (Or.inl ⟨by omega, e1, fun t t1 t2 => (q2 t t1 t2).symm⟩)
      · exact Or.inr (Or.inl ⟨q3, Or.inr ⟨rfl, by omega, q4, fun t t1 t2 => (q2 t t1 t2).symm⟩⟩)
theorem zCl_w {n1 n2 : Int} {r1 r2 s1 s2 : Int → Int} (h1 : 1 ≤ n1) (h2 : 1 ≤ n2) (e1 : ∀ t : Int, 0 ≤ t → t < n1 → r1 t = s1 t) (e2 : ∀ t : Int, 0 ≤ t → t < n2 → r2 t = s2 t) (q : zCl n1 r1 n2 r2) : zCl n1 s1 n2 s2 := by
  unfold zCl at *
  rcases q with ⟨q1, q2, q3⟩ | ⟨q1, q2, q3, q4⟩
  · refine Or.inl ⟨q1, fun t t1 t2 => by rw [← e1 t t1 t2, ← e2 t t1 (by omega)]; exact q2 t t1 t2, ?_⟩
    by_cases c : n1 = n2
    · exact Or.inl c
    · rcases q3 with w | w
      · exact Or.inl w
      · exact Or.inr ⟨by rw [← e1 _ (by omega) (by omega)]; exact w.1, by rw [← e2 _ (by omega) (by omega)]; exact w.2⟩
  · exact Or.inr ⟨q1, fun t t1 t2 => by rw [← e2 t t1 t2, ← e1 t t1 (by omega)]; exact q2 t t1 t2, by rw [← e2 _ (by omega) (by omega)]; exact q3, by rw [← e1 _ (by omega) (by omega)]; exact q4⟩
/-- where an entry's data lie; what its own head must hold (w: where the directory begins) -/
def zDa (g : Int → Int) (u : Int) : Int := zg4 g (u + 42) + 30 + zg2 g (u + 28) + zg2 g (zg4 g (u + 42) + 28)
def zLo (g : Int → Int) (u w : Int) : Prop := zg4 g (u + 42) + 30 ≤ w ∧ zMk g (zg4 g (u + 42)) 3 4 ∧ zSm g (zg4 g (u + 42) + 4) (u + 6) 6 ∧ zSm g (zg4 g (u + 42) + 14) (u + 16) 14 ∧ zSm g (zg4 g (u + 42) + 30) (u + 46) (zg2 g (u + 28)) ∧ zDa g u + zg4 g (u + 20) ≤ w
def zOv (g : Int → Int) (u v : Int) : Prop := zg4 g (u + 42) < zDa g v + zg4 g (v + 20) ∧ zg4 g (v + 42) < zDa g u + zg4 g (u + 20)
def zcp (g : Int → Int) (a : Int) : Nat → Int
  | 0 => a
  | k + 1 => zBh g (zcp g a k)
theorem zcp_s {g : Int → Int} {a k : Int} (h0 : 0 ≤ k) : zcp g a (k + 1).toNat = zBh g (zcp g a k.toNat) := by
  obtain ⟨n, rfl⟩ := Int.eq_ofNat_of_zero_le h0
  rw [show ((n : Int) + 1).toNat = n + 1 by omega, show ((n : Int)).toNat = n by omega]
  rfl
/-- the names of entries at u and v -/
def zCt (g : Int → Int) (u v : Int) : Prop := zCl (zg2 g (u + 28)) (zrw g u) (zg2 g (v + 28)) (zrw g v)
/-- entry k clashes with one before; lies over one before -/
def zTk (g : Int → Int) (a k : Int) : Prop := ∃ i : Int, 0 ≤ i ∧ i < k ∧ zCt g (zcp g a k.toNat) (zcp g a i.toNat)
def zOk (g : Int → Int) (a k : Int) : Prop := ∃ i : Int, 0 ≤ i ∧ i < k ∧ zOv g (zcp g a k.toNat) (zcp g a i.toNat)
/-- entry k is right (w: the end's place) -/
def zEo (g : Int → Int) (a w k : Int) : Prop := zSp g (zcp g a k.toNat) w ∧ zNp g (zcp g a k.toNat) 0 ∧ zNm g (zcp g a k.toNat + 46) (zg2 g (zcp g a k.toNat + 28)) ∧ ¬ zTk g a k ∧ zLo g (zcp g a k.toNat) a ∧ ¬ zOk g a k
/-- entry k's first fault, and where -/
def zEf (g : Int → Int) (a w k x p : Int) : Prop := (¬ zSp g (zcp g a k.toNat) w ∧ x = -5 ∧ p = zcp g a k.toNat) ∨ (zSp g (zcp g a k.toNat) w ∧ ((¬ p = 0 ∧ x = -6 ∧ zNp g (zcp g a k.toNat) p) ∨ (zNp g (zcp g a k.toNat) 0 ∧ ((¬ zNm g (zcp g a k.toNat + 46) (zg2 g (zcp g a k.toNat + 28)) ∧ x = -7 ∧ p = zcp g a k.toNat + 46) ∨ (zNm g (zcp g a k.toNat + 46) (zg2 g (zcp g a k.toNat + 28)) ∧ ((zTk g a k ∧ x = -8 ∧ p = zcp g a k.toNat + 46) ∨ (¬ zTk g a k ∧ ((¬ zLo g (zcp g a k.toNat) a ∧ x = -9 ∧ p = zcp g a k.toNat + 42) ∨ (zLo g (zcp g a k.toNat) a ∧ zOk g a k ∧ x = -10 ∧ p = zcp g a k.toNat + 42)))))))))
theorem zEf_no {g : Int → Int} {a w k x p : Int} (q : zEf g a w k x p) : ¬ zEo g a w k := by
  unfold zEf at q
  unfold zEo
  intro r
  rcases q with q | ⟨q1, q | ⟨q2, q | ⟨q3, q | ⟨q4, q | q⟩⟩⟩⟩
  · exact q.1 r.1
  · exact absurd (zNp_eq q.2.2 r.2.1) q.1
  · exact q.1 r.2.2.1
  · exact r.2.2.2.1 q.1
  · exact q.1 r.2.2.2.2.1
  · exact r.2.2.2.2.2 q.2.1
theorem zEf_eq {g : Int → Int} {a w k x p y r : Int} (q : zEf g a w k x p) (s : zEf g a w k y r) : x = y ∧ p = r := by
  unfold zEf at *
  rcases q with q | ⟨q1, q | ⟨q2, q | ⟨q3, q | ⟨q4, q | q⟩⟩⟩⟩ <;> rcases s with s | ⟨s1, s | ⟨s2, s | ⟨s3, s | ⟨s4, s | s⟩⟩⟩⟩
  all_goals first
    | omega
    | exact absurd s1 q.1
    | exact absurd q1 s.1
    | exact ⟨by omega, zNp_eq q.2.2 s.2.2⟩
    | exact absurd (zNp_eq q.2.2 s2) q.1
    | exact absurd (zNp_eq s.2.2 q2) s.1
    | exact absurd s3 q.1
    | exact absurd q3 s.1
    | exact absurd q.1 s4
    | exact absurd s.1 q4
    | exact absurd s.1 q.1
    | exact absurd q.1 s.1
/-- the entries, from a on -/
def zEs (g : Int → Int) (w x p : Int) : Prop := ∃ k : Int, 0 ≤ k ∧ k ≤ zg2 g (w + 10) ∧ (∀ i : Int, 0 ≤ i → i < k → zEo g (zg4 g (w + 16)) w i) ∧ ((k < zg2 g (w + 10) ∧ x < 0 ∧ zEf g (zg4 g (w + 16)) w k x p) ∨ (k = zg2 g (w + 10) ∧ zcp g (zg4 g (w + 16)) k.toNat = w ∧ x = k ∧ p = -1) ∨ (k = zg2 g (w + 10) ∧ ¬ zcp g (zg4 g (w + 16)) k.toNat = w ∧ x = -11 ∧ p = zcp g (zg4 g (w + 16)) k.toNat))
theorem zEs_eq {g : Int → Int} {w x p y r : Int} (q : zEs g w x p) (s : zEs g w y r) : x = y ∧ p = r := by
  unfold zEs at *
  obtain ⟨k, k1, k2, k3, k4⟩ := q
  obtain ⟨i, i1, i2, i3, i4⟩ := s
  have e1 : k = i := by
    rcases Int.lt_trichotomy k i with c | c | c
    · rcases k4 with d | d | d
      · exact absurd (i3 k k1 c) (zEf_no d.2.2)
      · omega
      · omega
    · exact c
    · rcases i4 with d | d | d
      · exact absurd (k3 i i1 c) (zEf_no d.2.2)
      · omega
      · omega
  subst e1
  rcases k4 with d | d | d <;> rcases i4 with b | b | b
  · exact zEf_eq d.2.2 b.2.2
  all_goals omega
/-- what the whole answers, and where a fault lies -/
def zRe (g : Int → Int) (L x p : Int) : Prop := ∃ w : Int, zFE g L w ∧ ((w = -1 ∧ x = -1 ∧ p = L) ∨ (0 ≤ w ∧ x < 0 ∧ zHd g w x p) ∨ (0 ≤ w ∧ (∃ q : Int, zHd g w 0 q) ∧ zEs g w x p))
theorem zHd_eq {g : Int → Int} {w x p y r : Int} (q : zHd g w x p) (s : zHd g w y r) : x = y ∧ (x < 0 → p = r) := by
  unfold zHd at *
  omega
theorem zRe_eq {g : Int → Int} {L x p y r : Int} (q : zRe g L x p) (s : zRe g L y r) : x = y ∧ p = r := by
  unfold zRe at *
  obtain ⟨w, w1, w2⟩ := q
  obtain ⟨v, v1, v2⟩ := s
  have e1 := zFE_eq w1 v1
  subst e1
  rcases w2 with d | d | d <;> rcases v2 with b | b | b
  · omega
  · omega
  · omega
  · omega
  · have h1 := zHd_eq d.2.2 b.2.2
    omega
  · obtain ⟨q, hq⟩ := b.2.1
    have h1 := zHd_eq d.2.2 hq
    omega
  · omega
  · obtain ⟨q, hq⟩ := d.2.1
    have h1 := zHd_eq b.2.2 hq
    omega
  · exact zEs_eq d.2.2 b.2.2
/-! bits of the tape, over whole numbers -/
theorem zB1_n (f : Nat → Int32) (k : Int) : zB1 f k = (zb f k.toNat : Int) := by
  have h1 := zb_lt f k.toNat
  unfold zB1
  rw [zb_eq, iI_nI, iI_toInt (by omega)]
def zbI (f : Nat → Int32) (p : Int) : Int := (zbit f p.toNat : Int)
def zbsI (f : Nat → Int32) (p n : Int) : Int := (zbits f p.toNat n.toNat : Int)
theorem zbI_at {f : Nat → Int32} {a t : Int} (ha : 0 ≤ a) (ht : 0 ≤ t) : zB1 f (a + t / 8) / zp (t % 8) % 2 = zbI f (8 * a + t) := by
  rw [zB1_n, zp_nat]
  unfold zbI zbit
  rw [show (8 * a + t).toNat / 8 = (a + t / 8).toNat by omega, show (8 * a + t).toNat % 8 = (t % 8).toNat by omega]
  norm_cast
theorem zbI_b (f : Nat → Int32) (p : Int) : 0 ≤ zbI f p ∧ zbI f p ≤ 1 := by
  unfold zbI zbit
  omega
theorem zbsI_s {f : Nat → Int32} {p k : Int} (hp : 0 ≤ p) (hk : 0 ≤ k) : zbsI f p (k + 1) = zbsI f p k + zbI f (p + k) * zp k := by
  unfold zbsI zbI
  rw [show (k + 1).toNat = k.toNat + 1 by omega, show (p + k).toNat = p.toNat + k.toNat by omega, zp_nat]
  show ((zbits f p.toNat k.toNat + zbit f (p.toNat + k.toNat) * 2 ^ k.toNat : Nat) : Int) = _
  push_cast
  rfl
theorem zbsI_b (f : Nat → Int32) (p n : Int) (hn : 0 ≤ n) : 0 ≤ zbsI f p n ∧ zbsI f p n < zp n := by
  have h1 := zbits_lt f p.toNat n.toNat
  unfold zbsI
  rw [zp_nat]
  omega
theorem zbsI_0 (f : Nat → Int32) (p : Int) : zbsI f p 0 = 0 := rfl
theorem zdivp {x : Int} (m : Int) (h : 0 ≤ x) : 0 ≤ x / zp m ∧ x / zp m ≤ x := ⟨Int.ediv_nonneg h (by have h1 := zp_pos m; omega), Int.ediv_le_self _ h⟩
theorem iI_and1 {x : Int} (h : 0 ≤ x ∧ x ≤ 2147483647) : iI x &&& iI 1 = iI (x % 2) := by
  have h1 := zand (n := x.toNat) (k := 1) (by decide) (by omega)
  rw [iI_nn h.1, iI_nn (x := x % 2) (by omega), show iI 1 = nI (2 ^ 1 - 1) by decide, h1]
  congr 1
  omega
theorem iI_shrx {x m : Int} (h : 0 ≤ x ∧ x ≤ 2147483647) (hm : 0 ≤ m ∧ m ≤ 31) : iI x >>> (iI m &&& 31) = iI (x / zp m) := by
  have e1 : iI m = iI ((m.toNat : Nat) : Int) := by rw [Int.toNat_of_nonneg hm.1]
  rw [e1, iI_shr m.toNat (by omega) h]
  rfl
theorem iI_bitorx {k z v : Int} (hk : 0 ≤ k ∧ k ≤ 29) (hz : 0 ≤ z ∧ z ≤ 1) (hv : 0 ≤ v ∧ v < zp k) : iI v ||| (iI z <<< (iI k &&& 31)) = iI (v + z * zp k) := by
  have e1 : iI k = iI ((k.toNat : Nat) : Int) := by rw [Int.toNat_of_nonneg hk.1]
  have h2 : zp k ≤ 2 ^ 29 := by
    have h3 := zp_le (a := k) (b := 29) (by omega)
    have h4 : zp 29 = 2 ^ 29 := by decide
    omega
  have h6 : z * zp k ≤ zp k := by
    have h7 : z = 0 ∨ z = 1 := by omega
    rcases h7 with rfl | rfl
    · rw [Int.zero_mul]; have h8 := zp_pos k; omega
    · rw [Int.one_mul]; exact Int.le_refl _
  rw [e1, iI_shl k.toNat (by omega)]
  unfold zp at *
  exact iI_orA k.toNat hv hz.1 (by omega)
theorem iI_or1 {v b : Int} (h1 : 0 ≤ v ∧ v ≤ 1000000000) (h2 : 0 ≤ b ∧ b ≤ 1) : iI (2 * v) ||| iI b = iI (2 * v + b) := by
  have h3 := iI_orA (x := b) (y := v) 1 (by omega) h1.1 (by omega)
  rw [Int32.or_comm, show 2 * v = v * 2 ^ 1 by omega, h3, Int.add_comm]
theorem iI_or11 {x : Int} (h1 : 0 ≤ x ∧ x ≤ 1) : iI x ||| iI 1 = iI 1 := by
  have h2 : x = 0 ∨ x = 1 := by omega
  rcases h2 with rfl | rfl <;> decide
def zBr (f : Nat → Int32) (p q n x rf r1 : Int) : Prop := (¬ rf = 0 ∧ r1 = rf ∧ x = 0) ∨ (rf = 0 ∧ p + n ≤ q ∧ r1 = 0 ∧ x = zbsI f p n) ∨ (rf = 0 ∧ q < p + n ∧ r1 = 30 ∧ x = 0)
/-- a row of longs, read as numbers -/
def zlI (f : Nat → Int64) (t : Int) : Int := (f t.toNat).toInt
theorem zlI_of {f : Nat → Int64} {x z : Int} (q : f x.toNat = lI z) (h1 : -9223372036854775808 ≤ z) (h2 : z ≤ 9223372036854775807) : z = zlI f x := by
  unfold zlI
  rw [q, lI_toInt ⟨h1, h2⟩]
/-- why a byte is refused, or 0 -/
def zWc (cnt sl ra pk to bu : Int) : Int := if sl ≤ cnt then 20 else if ra * pk + 16 ≤ cnt then 21 else if bu ≤ to then 22 else 0
def zWi (rf b cnt cnt1 sl ra pk to to1 bu r1 : Int) (fw fw1 : Nat → Int32) : Prop := (¬ rf = 0 ∧ r1 = rf ∧ to1 = to ∧ cnt1 = cnt ∧ fw1 = fw) ∨ (rf = 0 ∧ r1 = zWc cnt sl ra pk to bu ∧ ((r1 = 0 ∧ to1 = to + 1 ∧ cnt1 = cnt + 1 ∧ fw1 = upd fw to.toNat (zcb b)) ∨ (¬ r1 = 0 ∧ to1 = to ∧ cnt1 = cnt ∧ fw1 = fw)))
def zxI (x y : Int) : Int := (iI x ^^^ iI y).toInt
def zup (g : Nat → Int) (i : Nat) (v : Int) : Nat → Int := fun k => if k = i then v else g k
theorem zup_at (g : Nat → Int) (i : Nat) (v : Int) : zup g i v i = v := by unfold zup; rw [if_pos rfl]
theorem zup_ne {g : Nat → Int} {i k : Nat} {v : Int} (h : k ≠ i) : zup g i v k = g k := by unfold zup; rw [if_neg h]
theorem zup_all {g g1 : Nat → Int} {i : Nat} {v : Int} (h : ∀ k : Nat, 0 ≤ g k ∧ g k ≤ 15) (e : g1 = zup g i v) (hv : 0 ≤ v ∧ v ≤ 15) : ∀ k : Nat, 0 ≤ g1 k ∧ g1 k ≤ 15 := fun k => by
  rw [e]
  unfold zup
  split
  · exact hv
  · exact h k
theorem zup_i (g : Nat → Int) (i : Nat) (v : Int) : upd (fun k => iI (g k)) i (iI v) = fun k => iI (zup g i v k) := by
  funext k
  unfold upd zup
  split <;> rfl
theorem zup_l (g : Nat → Int) (i : Nat) (v : Int) : vp_updL (fun k => lI (g k)) i (lI v) = fun k => lI (zup g i v k) := by
  funext k
  unfold vp_updL zup
  split <;> rfl
theorem zn01 {z : Int} (h : 0 ≤ z ∧ z ≤ 1) : narrow .boolean (.int (iI z)) = .int (iI z) := by
  have h1 : z = 0 ∨ z = 1 := by omega
  rcases h1 with rfl | rfl <;> rfl
theorem zinc {x z n : Int} (h : x + n = z) : iI x + Int32.ofInt n = iI z := by rw [← h]; exact iI_add x n
section ZV
variable {p : Program} {l : Launch} {e : Env} {R : Room} {s : State} {m : MethodId} {args : Array Value} {below : List Frame} {meth : Method} {c : Code} {H : Heap} {locs : List Loc} {cells slots : Nat} {Q : State → Prop}
variable {cc : ByteArray} {pc : Nat} {ls : Array Slot} {rest : List Value} {a : Nat} {A : Nat → Prop} {D : va_G} {cl : List vw_C} {tys : List (ClassId × FieldType)} {ws : va_W} {H0 : Heap}
theorem zv_iadd (hx : p.tables.exec = Jvm.exec) (hb : c.code = cc) {x y : Int} {z : Int} (hd : decode cc pc = .ok (.iadd, 1)) (hz : x + y = z) (k : W p l e R s m args below meth c H locs cells slots Q (F0 m (pc + 1) ls (.int (iI z) :: rest))) : W p l e R s m args below meth c H locs cells slots Q (F0 m pc ls (.int (iI y) :: .int (iI x) :: rest)) := lv_iadd hx hb hd (by rw [iI_add, hz]; exact k)
theorem zv_isub (hx : p.tables.exec = Jvm.exec) (hb : c.code = cc) {x y : Int} {z : Int} (hd : decode cc pc = .ok (.isub, 1)) (hz : x - y = z) (k : W p l e R s m args below meth c H locs cells slots Q (F0 m (pc + 1) ls (.int (iI z) :: rest))) : W p l e R s m args below meth c H locs cells slots Q (F0 m pc ls (.int (iI y) :: .int (iI x) :: rest)) := lv_isub hx hb hd (by rw [iI_sub, hz]; exact k)
theorem zv_imul (hx : p.tables.exec = Jvm.exec) (hb : c.code = cc) {x y : Int} {z : Int} (hd : decode cc pc = .ok (.imul, 1)) (hz : x * y = z) (k : W p l e R s m args below meth c H locs cells slots Q (F0 m (pc + 1) ls (.int (iI z) :: rest))) : W p l e R s m args below meth c H locs cells slots Q (F0 m pc ls (.int (iI y) :: .int (iI x) :: rest)) := lv_imul hx hb hd (by rw [iI_mul, hz]; exact k)
theorem zv_ladd (hx : p.tables.exec = Jvm.exec) (hb : c.code = cc) {x y : Int} {z : Int} (hd : decode cc pc = .ok (.ladd, 1)) (hz : x + y = z) (k : W p l e R s m args below meth c H locs cells slots Q (F0 m (pc + 1) ls (.long (lI z) :: rest))) : W p l e R s m args below meth c H locs cells slots Q (F0 m pc ls (.long (lI y) :: .long (lI x) :: rest)) := lv_ladd hx hb hd (by rw [lI_add, hz]; exact k)
theorem zv_lsub (hx : p.tables.exec = Jvm.exec) (hb : c.code = cc) {x y : Int} {z : Int} (hd : decode cc pc = .ok (.lsub, 1)) (hz : x - y = z) (k : W p l e R s m args below meth c H locs cells slots Q (F0 m (pc + 1) ls (.long (lI z) :: rest))) : W p l e R s m args below meth c H locs cells slots Q (F0 m pc ls (.long (lI y) :: .long (lI x) :: rest)) := lv_lsub hx hb hd (by rw [lI_sub, hz]; exact k)
theorem zv_lmul (hx : p.tables.exec = Jvm.exec) (hb : c.code = cc) {x y : Int} {z : Int} (hd : decode cc pc = .ok (.lmul, 1)) (hz : x * y = z) (k : W p l e R s m args below meth c H locs cells slots Q (F0 m (pc + 1) ls (.long (lI z) :: rest))) : W p l e R s m args below meth c H locs cells slots Q (F0 m pc ls (.long (lI y) :: .long (lI x) :: rest)) := lv_lmul hx hb hd (by rw [lI_mul, hz]; exact k)
theorem zv_ineg (hx : p.tables.exec = Jvm.exec) (hb : c.code = cc) {x z : Int} (hd : decode cc pc = .ok (.ineg, 1)) (hz : -x = z) (k : W p l e R s m args below meth c H locs cells slots Q (F0 m (pc + 1) ls (.int (iI z) :: rest))) : W p l e R s m args below meth c H locs cells slots Q (F0 m pc ls (.int (iI x) :: rest)) := lv_ineg hx hb hd (by rw [iI_neg, hz]; exact k)
theorem zv_ne0 {y : Int} (h : 0 < y ∧ y ≤ 2147483647) : ¬ iI y = 0 := by
  rw [← iI_0, iI_eq (by omega) (by omega)]
  omega
theorem zv_idiv (hx : p.tables.exec = Jvm.exec) (hb : c.code = cc) {x y z : Int} (hd : decode cc pc = .ok (.idiv, 1)) (h1 : 0 ≤ x ∧ x ≤ 2147483647) (h2 : 0 < y ∧ y ≤ 2147483647) (hz : x / y = z) (k : W p l e R s m args below meth c H locs cells slots Q (F0 m (pc + 1) ls (.int (iI z) :: rest))) : W p l e R s m args below meth c H locs cells slots Q (F0 m pc ls (.int (iI y) :: .int (iI x) :: rest)) := lv_idiv hx hb hd (zv_ne0 h2) (by rw [iI_div h1 h2, hz]; exact k)
theorem zv_irem (hx : p.tables.exec = Jvm.exec) (hb : c.code = cc) {x y z : Int} (hd : decode cc pc = .ok (.irem, 1)) (h1 : 0 ≤ x ∧ x ≤ 2147483647) (h2 : 0 < y ∧ y ≤ 2147483647) (hz : x % y = z) (k : W p l e R s m args below meth c H locs cells slots Q (F0 m (pc + 1) ls (.int (iI z) :: rest))) : W p l e R s m args below meth c H locs cells slots Q (F0 m pc ls (.int (iI y) :: .int (iI x) :: rest)) := lv_irem hx hb hd (zv_ne0 h2) (by rw [iI_div h1 h2, iI_mul, iI_sub, show x - x / y * y = z by rw [← hz, Int.emod_def, Int.mul_comm]]; exact k)
theorem zv_i2l (hx : p.tables.exec = Jvm.exec) (hb : c.code = cc) {x : Int} (hd : decode cc pc = .ok (.i2l, 1)) (h1 : -2147483648 ≤ x ∧ x ≤ 2147483647) (k : W p l e R s m args below meth c H locs cells slots Q (F0 m (pc + 1) ls (.long (lI x) :: rest))) : W p l e R s m args below meth c H locs cells slots Q (F0 m pc ls (.int (iI x) :: rest)) := lv_i2l hx hb hd (iI_l h1) k
theorem zv_l2i (hx : p.tables.exec = Jvm.exec) (hb : c.code = cc) {x : Int} (hd : decode cc pc = .ok (.l2i, 1)) (k : W p l e R s m args below meth c H locs cells slots Q (F0 m (pc + 1) ls (.int (iI x) :: rest))) : W p l e R s m args below meth c H locs cells slots Q (F0 m pc ls (.long (lI x) :: rest)) := lv_l2i hx hb hd (lI_i x) k
theorem zv_lit {v : Int32} (z : Int) (h : v = iI z) (k : W p l e R s m args below meth c H locs cells slots Q (F0 m pc ls (.int (iI z) :: rest))) : W p l e R s m args below meth c H locs cells slots Q (F0 m pc ls (.int v :: rest)) := by rw [h]; exact k
theorem zv_litL {v : Int64} (z : Int) (h : v = lI z) (k : W p l e R s m args below meth c H locs cells slots Q (F0 m pc ls (.long (lI z) :: rest))) : W p l e R s m args below meth c H locs cells slots Q (F0 m pc ls (.long v :: rest)) := by rw [h]; exact k
theorem zv_any {v : Int32} (k : ∀ z : Int, -2147483648 ≤ z → z ≤ 2147483647 → W p l e R s m args below meth c H locs cells slots Q (F0 m pc ls (.int (iI z) :: rest))) : W p l e R s m args below meth c H locs cells slots Q (F0 m pc ls (.int v :: rest)) := by
  obtain ⟨z, e1, h1, h2⟩ := iI_of v
  rw [e1]
  exact k z h1 h2
theorem zv_anyL {v : Int64} (k : ∀ z : Int, -9223372036854775808 ≤ z → z ≤ 9223372036854775807 → W p l e R s m args below meth c H locs cells slots Q (F0 m pc ls (.long (lI z) :: rest))) : W p l e R s m args below meth c H locs cells slots Q (F0 m pc ls (.long v :: rest)) := by
  obtain ⟨z, e1, h1, h2⟩ := lI_of v
  rw [e1]
  exact k z h1 h2
theorem zv_nm {x : Int} (k : ∀ z : Int, z = x → W p l e R s m args below meth c H locs cells slots Q (F0 m pc ls (.int (iI z) :: rest))) : W p l e R s m args below meth c H locs cells slots Q (F0 m pc ls (.int (iI x) :: rest)) := k x rfl
theorem zv_nmL {x : Int} (k : ∀ z : Int, z = x → W p l e R s m args below meth c H locs cells slots Q (F0 m pc ls (.long (lI z) :: rest))) : W p l e R s m args below meth c H locs cells slots Q (F0 m pc ls (.long (lI x) :: rest)) := k x rfl
theorem zv_iand (hx : p.tables.exec = Jvm.exec) (hb : c.code = cc) {v : Int32} {y : Int} (hd : decode cc pc = .ok (.iand, 1)) (h : 0 ≤ y ∧ y ≤ 2147483647) (k : ∀ z : Int, 0 ≤ z → z ≤ y → W p l e R s m args below meth c H locs cells slots Q (F0 m (pc + 1) ls (.int (iI z) :: rest))) : W p l e R s m args below meth c H locs cells slots Q (F0 m pc ls (.int (iI y) :: .int v :: rest)) := lv_iand hx hb hd (by
  obtain ⟨z, e1, h1, h2⟩ := iI_and v h.1 h.2
  rw [e1]
  exact k z h1 h2)
theorem zv_ior (hx : p.tables.exec = Jvm.exec) (hb : c.code = cc) {x y : Int} (n : Nat) (hn : n ≤ 31) (hd : decode cc pc = .ok (.ior, 1)) (h1 : 0 ≤ x ∧ x < 2 ^ n) (h2 : 0 ≤ y ∧ y < 2 ^ n) (k : ∀ z : Int, 0 ≤ z → z < 2 ^ n → W p l e R s m args below meth c H locs cells slots Q (F0 m (pc + 1) ls (.int (iI z) :: rest))) : W p l e R s m args below meth c H locs cells slots Q (F0 m pc ls (.int (iI y) :: .int (iI x) :: rest)) := lv_ior hx hb hd (by
  obtain ⟨z, e1, h3, h4⟩ := iI_or n hn h1 h2
  rw [e1]
  exact k z h3 h4)
theorem zv_ishl (hx : p.tables.exec = Jvm.exec) (hb : c.code = cc) {x z : Int} (n : Nat) (hn : n < 32) (hd : decode cc pc = .ok (.ishl, 1)) (hz : x * 2 ^ n = z) (k : W p l e R s m args below meth c H locs cells slots Q (F0 m (pc + 1) ls (.int (iI z) :: rest))) : W p l e R s m args below meth c H locs cells slots Q (F0 m pc ls (.int (iI n) :: .int (iI x) :: rest)) := lv_ishl hx hb hd (by rw [iI_shl n hn, hz]; exact k)
theorem zv_ishr (hx : p.tables.exec = Jvm.exec) (hb : c.code = cc) {x z : Int} (n : Nat) (hn : n < 32) (hd : decode cc pc = .ok (.ishr, 1)) (h : 0 ≤ x ∧ x ≤ 2147483647) (hz : x / 2 ^ n = z) (k : W p l e R s m args below meth c H locs cells slots Q (F0 m (pc + 1) ls (.int (iI z) :: rest))) : W p l e R s m args below meth c H locs cells slots Q (F0 m pc ls (.int (iI n) :: .int (iI x) :: rest)) := lv_ishr hx hb hd (by rw [iI_shr n hn h, hz]; exact k)
theorem zv_lor (hx : p.tables.exec = Jvm.exec) (hb : c.code = cc) {x y : Int} (n : Nat) (hn : n ≤ 63) (hd : decode cc pc = .ok (.lor, 1)) (h1 : 0 ≤ x ∧ x < 2 ^ n) (h2 : 0 ≤ y ∧ y < 2 ^ n) (k : ∀ z : Int, 0 ≤ z → z < 2 ^ n → W p l e R s m args below meth c H locs cells slots Q (F0 m (pc + 1) ls (.long (lI z) :: rest))) : W p l e R s m args below meth c H locs cells slots Q (F0 m pc ls (.long (lI y) :: .long (lI x) :: rest)) := lv_lor hx hb hd (by
  obtain ⟨z, e1, h3, h4⟩ := lI_or n hn h1 h2
  rw [e1]
  exact k z h3 h4)
theorem zv_lshl (hx : p.tables.exec = Jvm.exec) (hb : c.code = cc) {x z : Int} (n : Nat) (hn : n < 64) (hd : decode cc pc = .ok (.lshl, 1)) (hz : x * 2 ^ n = z) (k : W p l e R s m args below meth c H locs cells slots Q (F0 m (pc + 1) ls (.long (lI z) :: rest))) : W p l e R s m args below meth c H locs cells slots Q (F0 m pc ls (.int (iI n) :: .long (lI x) :: rest)) := lv_lshl hx hb hd (by rw [lI_shl n hn, hz]) k
theorem zv_icmp_eq (hx : p.tables.exec = Jvm.exec) (hb : c.code = cc) {x y : Int} {off : Int} {tgt : Nat} (hd : decode cc pc = .ok (.if_icmp .eq off, 3)) (ht : (pc : Int) + off = (tgt : Int)) (h1 : -2147483648 ≤ x ∧ x ≤ 2147483647) (h2 : -2147483648 ≤ y ∧ y ≤ 2147483647) (kt : x = y → W p l e R s m args below meth c H locs cells slots Q (F0 m tgt ls rest)) (kf : ¬ x = y → W p l e R s m args below meth c H locs cells slots Q (F0 m (pc + 3) ls rest)) : W p l e R s m args below meth c H locs cells slots Q (F0 m pc ls (.int (iI y) :: .int (iI x) :: rest)) := lv_icmp_eq hx hb hd ht (fun q => kt ((iI_eq h1 h2).mp q)) (fun q => kf (mt (iI_eq h1 h2).mpr q))
theorem zv_if_eq (hx : p.tables.exec = Jvm.exec) (hb : c.code = cc) {x : Int} {off : Int} {tgt : Nat} (hd : decode cc pc = .ok (.ifCond .eq off, 3)) (ht : (pc : Int) + off = (tgt : Int)) (h1 : -2147483648 ≤ x ∧ x ≤ 2147483647) (kt : x = 0 → W p l e R s m args below meth c H locs cells slots Q (F0 m tgt ls rest)) (kf : ¬ x = 0 → W p l e R s m args below meth c H locs cells slots Q (F0 m (pc + 3) ls rest)) : W p l e R s m args below meth c H locs cells slots Q (F0 m pc ls (.int (iI x) :: rest)) := by
  have h2 : -2147483648 ≤ (0 : Int) ∧ (0 : Int) ≤ 2147483647 := by omega
  refine lv_if_eq hx hb hd ht ?_ ?_
  · rw [← iI_0]
    exact (fun q => kt ((iI_eq h1 h2).mp q))
  · rw [← iI_0]
    exact (fun q => kf (mt (iI_eq h1 h2).mpr q))
theorem zv_lcmp_eq (hx : p.tables.exec = Jvm.exec) (hb : c.code = cc) {x y : Int} {off : Int} {tgt : Nat} (hd0 : decode cc pc = .ok (.lcmp, 1)) (hd : decode cc (pc + 1) = .ok (.ifCond .eq off, 3)) (ht : ((pc + 1 : Nat) : Int) + off = (tgt : Int)) (h1 : -9223372036854775808 ≤ x ∧ x ≤ 9223372036854775807) (h2 : -9223372036854775808 ≤ y ∧ y ≤ 9223372036854775807) (kt : x = y → W p l e R s m args below meth c H locs cells slots Q (F0 m tgt ls rest)) (kf : ¬ x = y → W p l e R s m args below meth c H locs cells slots Q (F0 m (pc + 4) ls rest)) : W p l e R s m args below meth c H locs cells slots Q (F0 m pc ls (.long (lI y) :: .long (lI x) :: rest)) := W.lcmp hx hb hd0 (by
  rw [lI_cmp h1 h2]
  refine zv_if_eq hx hb hd ht (by split <;> (try split) <;> omega) (fun q => kt ?_) (fun q => kf ?_)
  · revert q
    split <;> (try split) <;> intro q <;> omega
  · revert q
    split <;> (try split) <;> intro q <;> omega)
theorem zv_icmp_ne (hx : p.tables.exec = Jvm.exec) (hb : c.code = cc) {x y : Int} {off : Int} {tgt : Nat} (hd : decode cc pc = .ok (.if_icmp .ne off, 3)) (ht : (pc : Int) + off = (tgt : Int)) (h1 : -2147483648 ≤ x ∧ x ≤ 2147483647) (h2 : -2147483648 ≤ y ∧ y ≤ 2147483647) (kt : ¬ x = y → W p l e R s m args below meth c H locs cells slots Q (F0 m tgt ls rest)) (kf : x = y → W p l e R s m args below meth c H locs cells slots Q (F0 m (pc + 3) ls rest)) : W p l e R s m args below meth c H locs cells slots Q (F0 m pc ls (.int (iI y) :: .int (iI x) :: rest)) := lv_icmp_ne hx hb hd ht (fun q => kt (mt (iI_eq h1 h2).mpr q)) (fun q => kf ((iI_eq h1 h2).mp q))
theorem zv_if_ne (hx : p.tables.exec = Jvm.exec) (hb : c.code = cc) {x : Int} {off : Int} {tgt : Nat} (hd : decode cc pc = .ok (.ifCond .ne off, 3)) (ht : (pc : Int) + off = (tgt : Int)) (h1 : -2147483648 ≤ x ∧ x ≤ 2147483647) (kt : ¬ x = 0 → W p l e R s m args below meth c H locs cells slots Q (F0 m tgt ls rest)) (kf : x = 0 → W p l e R s m args below meth c H locs cells slots Q (F0 m (pc + 3) ls rest)) : W p l e R s m args below meth c H locs cells slots Q (F0 m pc ls (.int (iI x) :: rest)) := by
  have h2 : -2147483648 ≤ (0 : Int) ∧ (0 : Int) ≤ 2147483647 := by omega
  refine lv_if_ne hx hb hd ht ?_ ?_
  · rw [← iI_0]
    exact (fun q => kt (mt (iI_eq h1 h2).mpr q))
  · rw [← iI_0]
    exact (fun q => kf ((iI_eq h1 h2).mp q))
theorem zv_lcmp_ne (hx : p.tables.exec = Jvm.exec) (hb : c.code = cc) {x y : Int} {off : Int} {tgt : Nat} (hd0 : decode cc pc = .ok (.lcmp, 1)) (hd : decode cc (pc + 1) = .ok (.ifCond .ne off, 3)) (ht : ((pc + 1 : Nat) : Int) + off = (tgt : Int)) (h1 : -9223372036854775808 ≤ x ∧ x ≤ 9223372036854775807) (h2 : -9223372036854775808 ≤ y ∧ y ≤ 9223372036854775807) (kt : ¬ x = y → W p l e R s m args below meth c H locs cells slots Q (F0 m tgt ls rest)) (kf : x = y → W p l e R s m args below meth c H locs cells slots Q (F0 m (pc + 4) ls rest)) : W p l e R s m args below meth c H locs cells slots Q (F0 m pc ls (.long (lI y) :: .long (lI x) :: rest)) := W.lcmp hx hb hd0 (by
  rw [lI_cmp h1 h2]
  refine zv_if_ne hx hb hd ht (by split <;> (try split) <;> omega) (fun q => kt ?_) (fun q => kf ?_)
  · revert q
    split <;> (try split) <;> intro q <;> omega
  · revert q
    split <;> (try split) <;> intro q <;> omega)
theorem zv_icmp_lt (hx : p.tables.exec = Jvm.exec) (hb : c.code = cc) {x y : Int} {off : Int} {tgt : Nat} (hd : decode cc pc = .ok (.if_icmp .lt off, 3)) (ht : (pc : Int) + off = (tgt : Int)) (h1 : -2147483648 ≤ x ∧ x ≤ 2147483647) (h2 : -2147483648 ≤ y ∧ y ≤ 2147483647) (kt : x < y → W p l e R s m args below meth c H locs cells slots Q (F0 m tgt ls rest)) (kf : y ≤ x → W p l e R s m args below meth c H locs cells slots Q (F0 m (pc + 3) ls rest)) : W p l e R s m args below meth c H locs cells slots Q (F0 m pc ls (.int (iI y) :: .int (iI x) :: rest)) := lv_icmp_lt hx hb hd ht (fun q => kt ((iI_lt h1 h2).mp q)) (fun q => kf (by have := mt (iI_lt h1 h2).mpr q; omega))
theorem zv_if_lt (hx : p.tables.exec = Jvm.exec) (hb : c.code = cc) {x : Int} {off : Int} {tgt : Nat} (hd : decode cc pc = .ok (.ifCond .lt off, 3)) (ht : (pc : Int) + off = (tgt : Int)) (h1 : -2147483648 ≤ x ∧ x ≤ 2147483647) (kt : x < 0 → W p l e R s m args below meth c H locs cells slots Q (F0 m tgt ls rest)) (kf : 0 ≤ x → W p l e R s m args below meth c H locs cells slots Q (F0 m (pc + 3) ls rest)) : W p l e R s m args below meth c H locs cells slots Q (F0 m pc ls (.int (iI x) :: rest)) := by
  have h2 : -2147483648 ≤ (0 : Int) ∧ (0 : Int) ≤ 2147483647 := by omega
  refine lv_if_lt hx hb hd ht ?_ ?_
  · rw [← iI_0]
    exact (fun q => kt ((iI_lt h1 h2).mp q))
  · rw [← iI_0]
    exact (fun q => kf (by have := mt (iI_lt h1 h2).mpr q; omega))
theorem zv_lcmp_lt (hx : p.tables.exec = Jvm.exec) (hb : c.code = cc) {x y : Int} {off : Int} {tgt : Nat} (hd0 : decode cc pc = .ok (.lcmp, 1)) (hd : decode cc (pc + 1) = .ok (.ifCond .lt off, 3)) (ht : ((pc + 1 : Nat) : Int) + off = (tgt : Int)) (h1 : -9223372036854775808 ≤ x ∧ x ≤ 9223372036854775807) (h2 : -9223372036854775808 ≤ y ∧ y ≤ 9223372036854775807) (kt : x < y → W p l e R s m args below meth c H locs cells slots Q (F0 m tgt ls rest)) (kf : y ≤ x → W p l e R s m args below meth c H locs cells slots Q (F0 m (pc + 4) ls rest)) : W p l e R s m args below meth c H locs cells slots Q (F0 m pc ls (.long (lI y) :: .long (lI x) :: rest)) := W.lcmp hx hb hd0 (by
  rw [lI_cmp h1 h2]
  refine zv_if_lt hx hb hd ht (by split <;> (try split) <;> omega) (fun q => kt ?_) (fun q => kf ?_)
  · revert q
    split <;> (try split) <;> intro q <;> omega
  · revert q
    split <;> (try split) <;> intro q <;> omega)
theorem zv_icmp_ge (hx : p.tables.exec = Jvm.exec) (hb : c.code = cc) {x y : Int} {off : Int} {tgt : Nat} (hd : decode cc pc = .ok (.if_icmp .ge off, 3)) (ht : (pc : Int) + off = (tgt : Int)) (h1 : -2147483648 ≤ x ∧ x ≤ 2147483647) (h2 : -2147483648 ≤ y ∧ y ≤ 2147483647) (kt : y ≤ x → W p l e R s m args below meth c H locs cells slots Q (F0 m tgt ls rest)) (kf : x < y → W p l e R s m args below meth c H locs cells slots Q (F0 m (pc + 3) ls rest)) : W p l e R s m args below meth c H locs cells slots Q (F0 m pc ls (.int (iI y) :: .int (iI x) :: rest)) := lv_icmp_ge hx hb hd ht (fun q => kt ((iI_le h2 h1).mp q)) (fun q => kf (by have := mt (iI_le h2 h1).mpr q; omega))
theorem zv_if_ge (hx : p.tables.exec = Jvm.exec) (hb : c.code = cc) {x : Int} {off : Int} {tgt : Nat} (hd : decode cc pc = .ok (.ifCond .ge off, 3)) (ht : (pc : Int) + off = (tgt : Int)) (h1 : -2147483648 ≤ x ∧ x ≤ 2147483647) (kt : 0 ≤ x → W p l e R s m args below meth c H locs cells slots Q (F0 m tgt ls rest)) (kf : x < 0 → W p l e R s m args below meth c H locs cells slots Q (F0 m (pc + 3) ls rest)) : W p l e R s m args below meth c H locs cells slots Q (F0 m pc ls (.int (iI x) :: rest)) := by
  have h2 : -2147483648 ≤ (0 : Int) ∧ (0 : Int) ≤ 2147483647 := by omega
  refine lv_if_ge hx hb hd ht ?_ ?_
  · rw [← iI_0]
    exact (fun q => kt ((iI_le h2 h1).mp q))
  · rw [← iI_0]
    exact (fun q => kf (by have := mt (iI_le h2 h1).mpr q; omega))
theorem zv_lcmp_ge (hx : p.tables.exec = Jvm.exec) (hb : c.code = cc) {x y : Int} {off : Int} {tgt : Nat} (hd0 : decode cc pc = .ok (.lcmp, 1)) (hd : decode cc (pc + 1) = .ok (.ifCond .ge off, 3)) (ht : ((pc + 1 : Nat) : Int) + off = (tgt : Int)) (h1 : -9223372036854775808 ≤ x ∧ x ≤ 9223372036854775807) (h2 : -9223372036854775808 ≤ y ∧ y ≤ 9223372036854775807) (kt : y ≤ x → W p l e R s m args below meth c H locs cells slots Q (F0 m tgt ls rest)) (kf : x < y → W p l e R s m args below meth c H locs cells slots Q (F0 m (pc + 4) ls rest)) : W p l e R s m args below meth c H locs cells slots Q (F0 m pc ls (.long (lI y) :: .long (lI x) :: rest)) := W.lcmp hx hb hd0 (by
  rw [lI_cmp h1 h2]
  refine zv_if_ge hx hb hd ht (by split <;> (try split) <;> omega) (fun q => kt ?_) (fun q => kf ?_)
  · revert q
    split <;> (try split) <;> intro q <;> omega
  · revert q
    split <;> (try split) <;> intro q <;> omega)
theorem zv_icmp_gt (hx : p.tables.exec = Jvm.exec) (hb : c.code = cc) {x y : Int} {off : Int} {tgt : Nat} (hd : decode cc pc = .ok (.if_icmp .gt off, 3)) (ht : (pc : Int) + off = (tgt : Int)) (h1 : -2147483648 ≤ x ∧ x ≤ 2147483647) (h2 : -2147483648 ≤ y ∧ y ≤ 2147483647) (kt : y < x → W p l e R s m args below meth c H locs cells slots Q (F0 m tgt ls rest)) (kf : x ≤ y → W p l e R s m args below meth c H locs cells slots Q (F0 m (pc + 3) ls rest)) : W p l e R s m args below meth c H locs cells slots Q (F0 m pc ls (.int (iI y) :: .int (iI x) :: rest)) := lv_icmp_gt hx hb hd ht (fun q => kt ((iI_lt h2 h1).mp q)) (fun q => kf (by have := mt (iI_lt h2 h1).mpr q; omega))
theorem zv_if_gt (hx : p.tables.exec = Jvm.exec) (hb : c.code = cc) {x : Int} {off : Int} {tgt : Nat} (hd : decode cc pc = .ok (.ifCond .gt off, 3)) (ht : (pc : Int) + off = (tgt : Int)) (h1 : -2147483648 ≤ x ∧ x ≤ 2147483647) (kt : 0 < x → W p l e R s m args below meth c H locs cells slots Q (F0 m tgt ls rest)) (kf : x ≤ 0 → W p l e R s m args below meth c H locs cells slots Q (F0 m (pc + 3) ls rest)) : W p l e R s m args below meth c H locs cells slots Q (F0 m pc ls (.int (iI x) :: rest)) := by
  have h2 : -2147483648 ≤ (0 : Int) ∧ (0 : Int) ≤ 2147483647 := by omega
  refine lv_if_gt hx hb hd ht ?_ ?_
  · rw [← iI_0]
    exact (fun q => kt ((iI_lt h2 h1).mp q))
  · rw [← iI_0]
    exact (fun q => kf (by have := mt (iI_lt h2 h1).mpr q; omega))
theorem zv_lcmp_gt (hx : p.tables.exec = Jvm.exec) (hb : c.code = cc) {x y : Int} {off : Int} {tgt : Nat} (hd0 : decode cc pc = .ok (.lcmp, 1)) (hd : decode cc (pc + 1) = .ok (.ifCond .gt off, 3)) (ht : ((pc + 1 : Nat) : Int) + off = (tgt : Int)) (h1 : -9223372036854775808 ≤ x ∧ x ≤ 9223372036854775807) (h2 : -9223372036854775808 ≤ y ∧ y ≤ 9223372036854775807) (kt : y < x → W p l e R s m args below meth c H locs cells slots Q (F0 m tgt ls rest)) (kf : x ≤ y → W p l e R s m args below meth c H locs cells slots Q (F0 m (pc + 4) ls rest)) : W p l e R s m args below meth c H locs cells slots Q (F0 m pc ls (.long (lI y) :: .long (lI x) :: rest)) := W.lcmp hx hb hd0 (by
  rw [lI_cmp h1 h2]
  refine zv_if_gt hx hb hd ht (by split <;> (try split) <;> omega) (fun q => kt ?_) (fun q => kf ?_)
  · revert q
    split <;> (try split) <;> intro q <;> omega
  · revert q
    split <;> (try split) <;> intro q <;> omega)
theorem zv_icmp_le (hx : p.tables.exec = Jvm.exec) (hb : c.code = cc) {x y : Int} {off : Int} {tgt : Nat} (hd : decode cc pc = .ok (.if_icmp .le off, 3)) (ht : (pc : Int) + off = (tgt : Int)) (h1 : -2147483648 ≤ x ∧ x ≤ 2147483647) (h2 : -2147483648 ≤ y ∧ y ≤ 2147483647) (kt : x ≤ y → W p l e R s m args below meth c H locs cells slots Q (F0 m tgt ls rest)) (kf : y < x → W p l e R s m args below meth c H locs cells slots Q (F0 m (pc + 3) ls rest)) : W p l e R s m args below meth c H locs cells slots Q (F0 m pc ls (.int (iI y) :: .int (iI x) :: rest)) := lv_icmp_le hx hb hd ht (fun q => kt ((iI_le h1 h2).mp q)) (fun q => kf (by have := mt (iI_le h1 h2).mpr q; omega))
theorem zv_if_le (hx : p.tables.exec = Jvm.exec) (hb : c.code = cc) {x : Int} {off : Int} {tgt : Nat} (hd : decode cc pc = .ok (.ifCond .le off, 3)) (ht : (pc : Int) + off = (tgt : Int)) (h1 : -2147483648 ≤ x ∧ x ≤ 2147483647) (kt : x ≤ 0 → W p l e R s m args below meth c H locs cells slots Q (F0 m tgt ls rest)) (kf : 0 < x → W p l e R s m args below meth c H locs cells slots Q (F0 m (pc + 3) ls rest)) : W p l e R s m args below meth c H locs cells slots Q (F0 m pc ls (.int (iI x) :: rest)) := by
  have h2 : -2147483648 ≤ (0 : Int) ∧ (0 : Int) ≤ 2147483647 := by omega
  refine lv_if_le hx hb hd ht ?_ ?_
  · rw [← iI_0]
    exact (fun q => kt ((iI_le h1 h2).mp q))
  · rw [← iI_0]
    exact (fun q => kf (by have := mt (iI_le h1 h2).mpr q; omega))
theorem zv_lcmp_le (hx : p.tables.exec = Jvm.exec) (hb : c.code = cc) {x y : Int} {off : Int} {tgt : Nat} (hd0 : decode cc pc = .ok (.lcmp, 1)) (hd : decode cc (pc + 1) = .ok (.ifCond .le off, 3)) (ht : ((pc + 1 : Nat) : Int) + off = (tgt : Int)) (h1 : -9223372036854775808 ≤ x ∧ x ≤ 9223372036854775807) (h2 : -9223372036854775808 ≤ y ∧ y ≤ 9223372036854775807) (kt : x ≤ y → W p l e R s m args below meth c H locs cells slots Q (F0 m tgt ls rest)) (kf : y < x → W p l e R s m args below meth c H locs cells slots Q (F0 m (pc + 4) ls rest)) : W p l e R s m args below meth c H locs cells slots Q (F0 m pc ls (.long (lI y) :: .long (lI x) :: rest)) := W.lcmp hx hb hd0 (by
  rw [lI_cmp h1 h2]
  refine zv_if_le hx hb hd ht (by split <;> (try split) <;> omega) (fun q => kt ?_) (fun q => kf ?_)
  · revert q
    split <;> (try split) <;> intro q <;> omega
  · revert q
    split <;> (try split) <;> intro q <;> omega)
theorem zv_iald (hx : p.tables.exec = Jvm.exec) (hb : c.code = cc) (hK : va_K D cl tys s) (hP : va_P D cl ws H) (q0 t0 : Nat) {cA : ClassId} {n : Nat} {g : Nat → Int} (ha : ws[q0]? = some (a, .inl (cA, n, .inl (fun k => iI (g k))))) (ht : tys[t0]? = some (cA, .int)) {x : Int} (h : 0 ≤ x ∧ x < n) (hn : n < 2147483648) (hd : decode cc pc = .ok (.iaload, 1))
    (kk : ∀ z : Int, z = g x.toNat → W p l e R s m args below meth c H locs cells slots Q (F0 m (pc + 1) ls (.int (iI z) :: rest))) : W p l e R s m args below meth c H locs cells slots Q (F0 m pc ls (.int (iI x) :: .ref a :: rest)) := va_iald hx hb hK hP q0 t0 ha ht (iI_in h.1 h.2 hn) hd (by
  rw [iI_clamp h.1 (by omega)]
  exact kk _ rfl)
theorem zv_lald (hx : p.tables.exec = Jvm.exec) (hb : c.code = cc) (hK : va_K D cl tys s) (hP : va_P D cl ws H) (q0 t0 : Nat) {cA : ClassId} {n : Nat} {g : Nat → Int} (ha : ws[q0]? = some (a, .inl (cA, n, .inr (.inl (fun k => lI (g k)))))) (ht : tys[t0]? = some (cA, .long)) {x : Int} (h : 0 ≤ x ∧ x < n) (hn : n < 2147483648) (hd : decode cc pc = .ok (.laload, 1))
    (kk : ∀ z : Int, z = g x.toNat → W p l e R s m args below meth c H locs cells slots Q (F0 m (pc + 1) ls (.long (lI z) :: rest))) : W p l e R s m args below meth c H locs cells slots Q (F0 m pc ls (.int (iI x) :: .ref a :: rest)) := va_lald hx hb hK hP q0 t0 ha ht (iI_in h.1 h.2 hn) hd (by
  rw [iI_clamp h.1 (by omega)]
  exact kk _ rfl)
theorem zv_bald (hx : p.tables.exec = Jvm.exec) (hb : c.code = cc) (hK : va_K D cl tys s) (hP : va_P D cl ws H) (q0 t0 : Nat) {cA : ClassId} {n : Nat} {f : Nat → Int32} (ha : ws[q0]? = some (a, .inl (cA, n, .inl f))) (ht : tys[t0]? = some (cA, .byte)) {x : Int} (h : 0 ≤ x ∧ x < n) (hn : n < 2147483648) (hd : decode cc pc = .ok (.baload, 1))
    (kk : ∀ z : Int, f x.toNat = iI z → -2147483648 ≤ z → z ≤ 2147483647 → W p l e R s m args below meth c H locs cells slots Q (F0 m (pc + 1) ls (.int (iI z) :: rest))) : W p l e R s m args below meth c H locs cells slots Q (F0 m pc ls (.int (iI x) :: .ref a :: rest)) := va_bald hx hb hK hP q0 t0 ha ht (iI_in h.1 h.2 hn) hd (by
  rw [iI_clamp h.1 (by omega)]
  obtain ⟨z, e1, h1, h2⟩ := iI_of (f x.toNat)
  rw [e1]
  exact kk z e1 h1 h2)
theorem zv_iast (hx : p.tables.exec = Jvm.exec) (hb : c.code = cc) (hK : va_K D cl tys s) (hP : va_P D cl ws H) (hD : va_D A ws) (hS : va_S A H0 H locs) (q0 t0 : Nat) {cA : ClassId} {n : Nat} {g : Nat → Int} (ha : ws[q0]? = some (a, .inl (cA, n, .inl (fun k => iI (g k))))) (ht : tys[t0]? = some (cA, .int)) {x v : Int} (h : 0 ≤ x ∧ x < n) (hn : n < 2147483648) (hd : decode cc pc = .ok (.iastore, 1))
    (kk : ∀ (g1 : Nat → Int) (H1 : Heap) (locs1 : List Loc), g1 = zup g x.toNat v → va_P D cl (ws.set q0 (a, .inl (cA, n, .inl (fun k => iI (g1 k))))) H1 → va_D A (ws.set q0 (a, .inl (cA, n, .inl (fun k => iI (g1 k))))) → va_S A H0 H1 locs1 → W p l e R s m args below meth c H1 locs1 cells slots Q (F0 m (pc + 1) ls rest)) : W p l e R s m args below meth c H locs cells slots Q (F0 m pc ls (.int (iI v) :: .int (iI x) :: .ref a :: rest)) := va_iast hx hb hK hP hD hS q0 t0 ha ht (iI_in h.1 h.2 hn) hd (by
  rw [iI_clamp h.1 (by omega), zup_i]
  exact fun H1 l1 => kk _ H1 l1 rfl)
theorem zv_last (hx : p.tables.exec = Jvm.exec) (hb : c.code = cc) (hK : va_K D cl tys s) (hP : va_P D cl ws H) (hD : va_D A ws) (hS : va_S A H0 H locs) (q0 t0 : Nat) {cA : ClassId} {n : Nat} {g : Nat → Int} (ha : ws[q0]? = some (a, .inl (cA, n, .inr (.inl (fun k => lI (g k)))))) (ht : tys[t0]? = some (cA, .long)) {x v : Int} (h : 0 ≤ x ∧ x < n) (hn : n < 2147483648) (hd : decode cc pc = .ok (.lastore, 1))
    (kk : ∀ (g1 : Nat → Int) (H1 : Heap) (locs1 : List Loc), g1 = zup g x.toNat v → va_P D cl (ws.set q0 (a, .inl (cA, n, .inr (.inl (fun k => lI (g1 k)))))) H1 → va_D A (ws.set q0 (a, .inl (cA, n, .inr (.inl (fun k => lI (g1 k)))))) → va_S A H0 H1 locs1 → W p l e R s m args below meth c H1 locs1 cells slots Q (F0 m (pc + 1) ls rest)) : W p l e R s m args below meth c H locs cells slots Q (F0 m pc ls (.long (lI v) :: .int (iI x) :: .ref a :: rest)) := va_last hx hb hK hP hD hS q0 t0 ha ht (iI_in h.1 h.2 hn) hd (by
  rw [iI_clamp h.1 (by omega), zup_l]
  exact fun H1 l1 => kk _ H1 l1 rfl)
theorem zv_bast (hx : p.tables.exec = Jvm.exec) (hb : c.code = cc) (hK : va_K D cl tys s) (hP : va_P D cl ws H) (hD : va_D A ws) (hS : va_S A H0 H locs) (q0 t0 : Nat) {cA : ClassId} {n : Nat} {f : Nat → Int32} (ha : ws[q0]? = some (a, .inl (cA, n, .inl f))) (ht : tys[t0]? = some (cA, .byte)) {x : Int} {v : Int32} (h : 0 ≤ x ∧ x < n) (hn : n < 2147483648) (hd : decode cc pc = .ok (.bastore, 1))
    (kk : ∀ (g1 : Nat → Int32) (H1 : Heap) (locs1 : List Loc), g1 = upd f x.toNat (vp_nar .byte v) → va_P D cl (ws.set q0 (a, .inl (cA, n, .inl g1))) H1 → va_D A (ws.set q0 (a, .inl (cA, n, .inl g1))) → va_S A H0 H1 locs1 → W p l e R s m args below meth c H1 locs1 cells slots Q (F0 m (pc + 1) ls rest)) : W p l e R s m args below meth c H locs cells slots Q (F0 m pc ls (.int v :: .int (iI x) :: .ref a :: rest)) := va_bast hx hb hK hP hD hS q0 t0 ha ht (iI_in h.1 h.2 hn) hd (by
  rw [iI_clamp h.1 (by omega)]
  exact fun H1 l1 => kk _ H1 l1 rfl)
theorem zv_iald0 (hx : p.tables.exec = Jvm.exec) (hb : c.code = cc) (hK : va_K D cl tys s) (hP : va_P D cl ws H) (q0 t0 : Nat) {cA : ClassId} {n : Nat} {f : Nat → Int32} (ha : ws[q0]? = some (a, .inl (cA, n, .inl f))) (ht : tys[t0]? = some (cA, .int)) {x : Int} (h : 0 ≤ x ∧ x < n) (hn : n < 2147483648) (hd : decode cc pc = .ok (.iaload, 1))
    (kk : ∀ z : Int, f x.toNat = iI z → -2147483648 ≤ z → z ≤ 2147483647 → W p l e R s m args below meth c H locs cells slots Q (F0 m (pc + 1) ls (.int (iI z) :: rest))) : W p l e R s m args below meth c H locs cells slots Q (F0 m pc ls (.int (iI x) :: .ref a :: rest)) := va_iald hx hb hK hP q0 t0 ha ht (iI_in h.1 h.2 hn) hd (by
  rw [iI_clamp h.1 (by omega)]
  obtain ⟨z, e1, h1, h2⟩ := iI_of (f x.toNat)
  rw [e1]
  exact kk z e1 h1 h2)
theorem zv_lald0 (hx : p.tables.exec = Jvm.exec) (hb : c.code = cc) (hK : va_K D cl tys s) (hP : va_P D cl ws H) (q0 t0 : Nat) {cA : ClassId} {n : Nat} {f : Nat → Int64} (ha : ws[q0]? = some (a, .inl (cA, n, .inr (.inl f)))) (ht : tys[t0]? = some (cA, .long)) {x : Int} (h : 0 ≤ x ∧ x < n) (hn : n < 2147483648) (hd : decode cc pc = .ok (.laload, 1))
    (kk : ∀ z : Int, f x.toNat = lI z → -9223372036854775808 ≤ z → z ≤ 9223372036854775807 → W p l e R s m args below meth c H locs cells slots Q (F0 m (pc + 1) ls (.long (lI z) :: rest))) : W p l e R s m args below meth c H locs cells slots Q (F0 m pc ls (.int (iI x) :: .ref a :: rest)) := va_lald hx hb hK hP q0 t0 ha ht (iI_in h.1 h.2 hn) hd (by
  rw [iI_clamp h.1 (by omega)]
  obtain ⟨z, e1, h1, h2⟩ := lI_of (f x.toNat)
  rw [e1]
  exact kk z e1 h1 h2)
theorem zv_iast0 (hx : p.tables.exec = Jvm.exec) (hb : c.code = cc) (hK : va_K D cl tys s) (hP : va_P D cl ws H) (hD : va_D A ws) (hS : va_S A H0 H locs) (q0 t0 : Nat) {cA : ClassId} {n : Nat} {f : Nat → Int32} (ha : ws[q0]? = some (a, .inl (cA, n, .inl f))) (ht : tys[t0]? = some (cA, .int)) {x : Int} {v : Int32} (h : 0 ≤ x ∧ x < n) (hn : n < 2147483648) (hd : decode cc pc = .ok (.iastore, 1))
    (kk : ∀ (g1 : Nat → Int32) (H1 : Heap) (locs1 : List Loc), g1 = upd f x.toNat v → va_P D cl (ws.set q0 (a, .inl (cA, n, .inl g1))) H1 → va_D A (ws.set q0 (a, .inl (cA, n, .inl g1))) → va_S A H0 H1 locs1 → W p l e R s m args below meth c H1 locs1 cells slots Q (F0 m (pc + 1) ls rest)) : W p l e R s m args below meth c H locs cells slots Q (F0 m pc ls (.int v :: .int (iI x) :: .ref a :: rest)) := va_iast hx hb hK hP hD hS q0 t0 ha ht (iI_in h.1 h.2 hn) hd (by
  rw [iI_clamp h.1 (by omega)]
  exact fun H1 l1 => kk _ H1 l1 rfl)
theorem zv_last0 (hx : p.tables.exec = Jvm.exec) (hb : c.code = cc) (hK : va_K D cl tys s) (hP : va_P D cl ws H) (hD : va_D A ws) (hS : va_S A H0 H locs) (q0 t0 : Nat) {cA : ClassId} {n : Nat} {f : Nat → Int64} (ha : ws[q0]? = some (a, .inl (cA, n, .inr (.inl f)))) (ht : tys[t0]? = some (cA, .long)) {x : Int} {v : Int64} (h : 0 ≤ x ∧ x < n) (hn : n < 2147483648) (hd : decode cc pc = .ok (.lastore, 1))
    (kk : ∀ (g1 : Nat → Int64) (H1 : Heap) (locs1 : List Loc), g1 = vp_updL f x.toNat v → va_P D cl (ws.set q0 (a, .inl (cA, n, .inr (.inl g1)))) H1 → va_D A (ws.set q0 (a, .inl (cA, n, .inr (.inl g1)))) → va_S A H0 H1 locs1 → W p l e R s m args below meth c H1 locs1 cells slots Q (F0 m (pc + 1) ls rest)) : W p l e R s m args below meth c H locs cells slots Q (F0 m pc ls (.long v :: .int (iI x) :: .ref a :: rest)) := va_last hx hb hK hP hD hS q0 t0 ha ht (iI_in h.1 h.2 hn) hd (by
  rw [iI_clamp h.1 (by omega)]
  exact fun H1 l1 => kk _ H1 l1 rfl)
theorem zv_iorA (hx : p.tables.exec = Jvm.exec) (hb : c.code = cc) {x y y0 z : Int} (n : Nat) (hd : decode cc pc = .ok (.ior, 1)) (h1 : 0 ≤ x ∧ x < 2 ^ n) (h2 : 0 ≤ y0) (h3 : y0 * 2 ^ n = y) (hz : x + y = z) (h4 : z ≤ 2147483647) (k : W p l e R s m args below meth c H locs cells slots Q (F0 m (pc + 1) ls (.int (iI z) :: rest))) : W p l e R s m args below meth c H locs cells slots Q (F0 m pc ls (.int (iI y) :: .int (iI x) :: rest)) := lv_ior hx hb hd (by rw [← h3, iI_orA n h1 h2 (by rw [h3, hz]; exact h4), h3, hz]; exact k)
theorem zv_lorA (hx : p.tables.exec = Jvm.exec) (hb : c.code = cc) {x y y0 z : Int} (n : Nat) (hd : decode cc pc = .ok (.lor, 1)) (h1 : 0 ≤ x ∧ x < 2 ^ n) (h2 : 0 ≤ y0) (h3 : y0 * 2 ^ n = y) (hz : x + y = z) (h4 : z ≤ 9223372036854775807) (k : W p l e R s m args below meth c H locs cells slots Q (F0 m (pc + 1) ls (.long (lI z) :: rest))) : W p l e R s m args below meth c H locs cells slots Q (F0 m pc ls (.long (lI y) :: .long (lI x) :: rest)) := lv_lor hx hb hd (by rw [← h3, lI_orA n h1 h2 (by rw [h3, hz]; exact h4), h3, hz]; exact k)
theorem zv_andx (hx : p.tables.exec = Jvm.exec) (hb : c.code = cc) {x y : Int} (hd : decode cc pc = .ok (.iand, 1)) (kk : ∀ z : Int, z = zanI x y → -2147483648 ≤ z → z ≤ 2147483647 → W p l e R s m args below meth c H locs cells slots Q (F0 m (pc + 1) ls (.int (iI z) :: rest))) : W p l e R s m args below meth c H locs cells slots Q (F0 m pc ls (.int (iI y) :: .int (iI x) :: rest)) := lv_iand hx hb hd (by
  obtain ⟨z, q1, q2, q3⟩ := iI_of (iI x &&& iI y)
  have q4 : z = zanI x y := by
    unfold zanI
    rw [q1, iI_toInt ⟨q2, q3⟩]
  rw [q1]
  exact kk z q4 q2 q3)
theorem zv_byte (hx : p.tables.exec = Jvm.exec) (hb : c.code = cc) {v : Int32} {f : Nat → Int32} {k : Int} (hd : decode cc pc = .ok (.iand, 1)) (hv : f k.toNat = v) (kk : ∀ z : Int, z = zB1 f k → 0 ≤ z → z ≤ 255 → W p l e R s m args below meth c H locs cells slots Q (F0 m (pc + 1) ls (.int (iI z) :: rest))) : W p l e R s m args below meth c H locs cells slots Q (F0 m pc ls (.int (iI 255) :: .int v :: rest)) := lv_iand hx hb hd (by
  rw [← hv, zB1_eq]
  exact kk _ rfl (zB1_b f k).1 (zB1_b f k).2)
theorem zv_ior0 (hx : p.tables.exec = Jvm.exec) (hb : c.code = cc) {v : Int32} (hd : decode cc pc = .ok (.ior, 1)) (k : W p l e R s m args below meth c H locs cells slots Q (F0 m (pc + 1) ls (.int v :: rest))) : W p l e R s m args below meth c H locs cells slots Q (F0 m pc ls (.int (iI 0) :: .int v :: rest)) := lv_ior hx hb hd (by rw [iI_or0]; exact k)
theorem zv_ishlV (hx : p.tables.exec = Jvm.exec) (hb : c.code = cc) {x k : Int} (hd : decode cc pc = .ok (.ishl, 1)) (hk : 0 ≤ k ∧ k < 32) (kk : W p l e R s m args below meth c H locs cells slots Q (F0 m (pc + 1) ls (.int (iI (x * zp k)) :: rest))) : W p l e R s m args below meth c H locs cells slots Q (F0 m pc ls (.int (iI k) :: .int (iI x) :: rest)) := lv_ishl hx hb hd (by rw [iI_shlV hk]; exact kk)
theorem zv_eqI {x y : Int} (h : x = y) (k : W p l e R s m args below meth c H locs cells slots Q (F0 m pc ls (.int (iI y) :: rest))) : W p l e R s m args below meth c H locs cells slots Q (F0 m pc ls (.int (iI x) :: rest)) := by rw [h]; exact k
theorem zv_bitor (hx : p.tables.exec = Jvm.exec) (hb : c.code = cc) {k z v : Int} (hd : decode cc pc = .ok (.ishl, 1)) (hd2 : decode cc (pc + 1) = .ok (.ior, 1)) (hk : 0 ≤ k ∧ k ≤ 30) (hz : 0 ≤ z ∧ z ≤ 1) (hv : 0 ≤ v ∧ v < zp k) (kk : ∀ y : Int, 0 ≤ y → y < zp (k + 1) → W p l e R s m args below meth c H locs cells slots Q (F0 m (pc + 2) ls (.int (iI y) :: rest))) : W p l e R s m args below meth c H locs cells slots Q (F0 m pc ls (.int (iI k) :: .int (iI z) :: .int (iI v) :: rest)) := lv_ishl hx hb hd (lv_ior hx hb hd2 (by
  obtain ⟨y, e1, h1, h2⟩ := iI_bitor hk hz hv
  rw [e1]
  exact kk y h1 h2))
theorem zv_ishrx (hx : p.tables.exec = Jvm.exec) (hb : c.code = cc) {x y z : Int} (hd : decode cc pc = .ok (.ishr, 1)) (h1 : 0 ≤ x ∧ x ≤ 2147483647) (h2 : 0 ≤ y ∧ y ≤ 31) (hz : x / zp y = z) (k : W p l e R s m args below meth c H locs cells slots Q (F0 m (pc + 1) ls (.int (iI z) :: rest))) : W p l e R s m args below meth c H locs cells slots Q (F0 m pc ls (.int (iI y) :: .int (iI x) :: rest)) := lv_ishr hx hb hd (by rw [iI_shrx h1 h2, hz]; exact k)
theorem zv_and1 (hx : p.tables.exec = Jvm.exec) (hb : c.code = cc) {x z : Int} (hd : decode cc pc = .ok (.iand, 1)) (h1 : 0 ≤ x ∧ x ≤ 2147483647) (hz : x % 2 = z) (k : W p l e R s m args below meth c H locs cells slots Q (F0 m (pc + 1) ls (.int (iI z) :: rest))) : W p l e R s m args below meth c H locs cells slots Q (F0 m pc ls (.int (iI 1) :: .int (iI x) :: rest)) := lv_iand hx hb hd (by rw [iI_and1 h1, hz]; exact k)
theorem zv_bitorx (hx : p.tables.exec = Jvm.exec) (hb : c.code = cc) {k z v y : Int} (hd : decode cc pc = .ok (.ishl, 1)) (hd2 : decode cc (pc + 1) = .ok (.ior, 1)) (hk : 0 ≤ k ∧ k ≤ 29) (hz : 0 ≤ z ∧ z ≤ 1) (hv : 0 ≤ v ∧ v < zp k) (hy : v + z * zp k = y) (kk : W p l e R s m args below meth c H locs cells slots Q (F0 m (pc + 2) ls (.int (iI y) :: rest))) : W p l e R s m args below meth c H locs cells slots Q (F0 m pc ls (.int (iI k) :: .int (iI z) :: .int (iI v) :: rest)) := lv_ishl hx hb hd (lv_ior hx hb hd2 (by rw [iI_bitorx hk hz hv, hy]; exact kk))
theorem zv_lshlx (hx : p.tables.exec = Jvm.exec) (hb : c.code = cc) {x y z : Int} (hd : decode cc pc = .ok (.lshl, 1)) (h1 : 0 ≤ y ∧ y ≤ 63) (hz : x * zp y = z) (k : W p l e R s m args below meth c H locs cells slots Q (F0 m (pc + 1) ls (.long (lI z) :: rest))) : W p l e R s m args below meth c H locs cells slots Q (F0 m pc ls (.int (iI y) :: .long (lI x) :: rest)) := lv_lshl hx hb hd (by
  have q1 : iI y = iI ((y.toNat : Nat) : Int) := by rw [Int.toNat_of_nonneg h1.1]
  rw [q1, lI_shl y.toNat (by omega), ← hz]
  rfl) k
theorem zv_and1r (hx : p.tables.exec = Jvm.exec) (hb : c.code = cc) {v : Int32} (hd : decode cc pc = .ok (.iand, 1)) (kk : ∀ z : Int, ((z = 1 ∧ v &&& 1 = 1) ∨ (z = 0 ∧ ¬ v &&& 1 = 1)) → W p l e R s m args below meth c H locs cells slots Q (F0 m (pc + 1) ls (.int (iI z) :: rest))) : W p l e R s m args below meth c H locs cells slots Q (F0 m pc ls (.int (iI 1) :: .int v :: rest)) := lv_iand hx hb hd (by
  obtain ⟨z, q1, q2, q3⟩ := iI_and v (y := 1) (by decide) (by decide)
  have q4 : z = 0 ∨ z = 1 := by omega
  rw [q1]
  refine kk z ?_
  rw [show (1 : Int32) = iI 1 by decide, q1]
  rcases q4 with rfl | rfl
  · exact Or.inr ⟨rfl, by decide⟩
  · exact Or.inl ⟨rfl, rfl⟩)
theorem zv_xorx (hx : p.tables.exec = Jvm.exec) (hb : c.code = cc) {x y : Int} (hd : decode cc pc = .ok (.ixor, 1)) (kk : ∀ z : Int, z = zxI x y → -2147483648 ≤ z → z ≤ 2147483647 → W p l e R s m args below meth c H locs cells slots Q (F0 m (pc + 1) ls (.int (iI z) :: rest))) : W p l e R s m args below meth c H locs cells slots Q (F0 m pc ls (.int (iI y) :: .int (iI x) :: rest)) := lv_ixor hx hb hd (by
  obtain ⟨z, q1, q2, q3⟩ := iI_of (iI x ^^^ iI y)
  have q4 : z = zxI x y := by
    unfold zxI
    rw [q1, iI_toInt ⟨q2, q3⟩]
  rw [q1]
  exact kk z q4 q2 q3)
theorem zv_or1 (hx : p.tables.exec = Jvm.exec) (hb : c.code = cc) {v b z : Int} (hd : decode cc pc = .ok (.ior, 1)) (h1 : 0 ≤ v ∧ v ≤ 1000000000) (h2 : 0 ≤ b ∧ b ≤ 1) (hz : 2 * v + b = z) (k : W p l e R s m args below meth c H locs cells slots Q (F0 m (pc + 1) ls (.int (iI z) :: rest))) : W p l e R s m args below meth c H locs cells slots Q (F0 m pc ls (.int (iI b) :: .int (iI (2 * v)) :: rest)) := lv_ior hx hb hd (by rw [iI_or1 h1 h2, hz]; exact k)
theorem zv_or11 (hx : p.tables.exec = Jvm.exec) (hb : c.code = cc) {x : Int} (hd : decode cc pc = .ok (.ior, 1)) (h1 : 0 ≤ x ∧ x ≤ 1) (k : W p l e R s m args below meth c H locs cells slots Q (F0 m (pc + 1) ls (.int (iI 1) :: rest))) : W p l e R s m args below meth c H locs cells slots Q (F0 m pc ls (.int (iI 1) :: .int (iI x) :: rest)) := lv_ior hx hb hd (by rw [iI_or11 h1]; exact k)
end ZV
