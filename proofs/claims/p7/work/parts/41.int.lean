/-! numbers told by whole numbers: iI and lI -/
def iI (x : Int) : Int32 := Int32.ofInt x
def lI (x : Int) : Int64 := Int64.ofInt x
/-- x is a number of 32 bits -/
def i3 (x : Int) : Prop := -2147483648 ≤ x ∧ x ≤ 2147483647
def i6 (x : Int) : Prop := -9223372036854775808 ≤ x ∧ x ≤ 9223372036854775807
theorem iI_toInt {x : Int} (h : -2147483648 ≤ x ∧ x ≤ 2147483647) : (iI x).toInt = x := Int32.toInt_ofInt_of_le (by have := h.1; simp; omega) (by have := h.2; simp; omega)
theorem lI_toInt {x : Int} (h : -9223372036854775808 ≤ x ∧ x ≤ 9223372036854775807) : (lI x).toInt = x := Int64.toInt_ofInt_of_le (by have := h.1; simp; omega) (by have := h.2; simp; omega)
theorem iI_of (v : Int32) : ∃ x : Int, v = iI x ∧ -2147483648 ≤ x ∧ x ≤ 2147483647 := ⟨v.toInt, (Int32.ofInt_toInt v).symm, by have := v.le_toInt; simpa using this, by have := v.toInt_lt; omega⟩
theorem lI_of (v : Int64) : ∃ x : Int, v = lI x ∧ -9223372036854775808 ≤ x ∧ x ≤ 9223372036854775807 := ⟨v.toInt, (Int64.ofInt_toInt v).symm, by have := v.le_toInt; simpa using this, by have := v.toInt_lt; omega⟩
theorem iI_nI (k : Nat) : nI k = iI (k : Int) := (Int32.ofInt_eq_ofNat (n := k)).symm
theorem iI_nn {x : Int} (h : 0 ≤ x) : iI x = nI x.toNat := by rw [iI_nI, Int.toNat_of_nonneg h]
theorem iI_add (x y : Int) : iI x + iI y = iI (x + y) := (Int32.ofInt_add x y).symm
theorem iI_sub (x y : Int) : iI x - iI y = iI (x - y) := (Int32.ofInt_sub x y).symm
theorem iI_mul (x y : Int) : iI x * iI y = iI (x * y) := (Int32.ofInt_mul x y).symm
theorem iI_neg (x : Int) : - iI x = iI (-x) := (Int32.ofInt_neg x).symm
theorem lI_add (x y : Int) : lI x + lI y = lI (x + y) := (Int64.ofInt_add x y).symm
theorem lI_sub (x y : Int) : lI x - lI y = lI (x - y) := (Int64.ofInt_sub x y).symm
theorem lI_mul (x y : Int) : lI x * lI y = lI (x * y) := (Int64.ofInt_mul x y).symm
theorem iI_lt {x y : Int} (hx : -2147483648 ≤ x ∧ x ≤ 2147483647) (hy : -2147483648 ≤ y ∧ y ≤ 2147483647) : iI x < iI y ↔ x < y := by rw [Int32.lt_iff_toInt_lt, iI_toInt hx, iI_toInt hy]
theorem iI_le {x y : Int} (hx : -2147483648 ≤ x ∧ x ≤ 2147483647) (hy : -2147483648 ≤ y ∧ y ≤ 2147483647) : iI x ≤ iI y ↔ x ≤ y := by rw [Int32.le_iff_toInt_le, iI_toInt hx, iI_toInt hy]
theorem iI_eq {x y : Int} (hx : -2147483648 ≤ x ∧ x ≤ 2147483647) (hy : -2147483648 ≤ y ∧ y ≤ 2147483647) : iI x = iI y ↔ x = y := by rw [← Int32.toInt_inj, iI_toInt hx, iI_toInt hy]
theorem iI_0 : iI 0 = 0 := by decide
theorem iI_clamp {x : Int} (h0 : 0 ≤ x) (h1 : x ≤ 2147483647) : (iI x).toNatClampNeg = x.toNat := by
  rw [← Int32.toNat_toInt, iI_toInt ⟨by omega, h1⟩]
theorem iI_in {x : Int} {n : Nat} (h0 : 0 ≤ x) (h1 : x < n) (hn : n < 2147483648) : vp_in (iI x) n := by
  unfold vp_in
  rw [iI_clamp h0 (by omega), ← iI_0, iI_lt (by omega) (by omega)]
  omega
theorem iI_l {x : Int} (h : -2147483648 ≤ x ∧ x ≤ 2147483647) : (iI x).toInt64 = lI x := Int64.toInt_inj.mp (by rw [Int32.toInt_toInt64, iI_toInt h, lI_toInt (by omega)])
theorem lI_i (x : Int) : (lI x).toInt32 = iI x := by
  unfold lI iI
  exact Int64.toInt32_ofInt
theorem lI_cmp {x y : Int} (hx : -9223372036854775808 ≤ x ∧ x ≤ 9223372036854775807) (hy : -9223372036854775808 ≤ y ∧ y ≤ 9223372036854775807) : lg_cmp (lI x) (lI y) = iI (if x < y then -1 else if x = y then 0 else 1) := by
  unfold lg_cmp
  have h1 : lI x > lI y ↔ y < x := by rw [gt_iff_lt, Int64.lt_iff_toInt_lt, lI_toInt hx, lI_toInt hy]
  have h2 : lI x = lI y ↔ x = y := by rw [← Int64.toInt_inj, lI_toInt hx, lI_toInt hy]
  by_cases c1 : y < x
  · rw [if_pos (h1.mpr c1), if_neg (by omega), if_neg (by omega)]; rfl
  · rw [if_neg (mt h1.mp c1)]
    by_cases c2 : x = y
    · rw [if_pos (h2.mpr c2), if_neg (by omega), if_pos c2]; rfl
    · rw [if_neg (mt h2.mp c2), if_pos (by omega)]; rfl
theorem iI_bv {v : Int32} {n : Nat} (h : v.toBitVec.toNat = n) (hn : n < 2147483648) : v = iI n := by
  rw [← iI_nI]
  apply Int32.toBitVec_inj.mp
  apply BitVec.eq_of_toNat_eq
  rw [h]
  show n = (BitVec.ofNat 32 n).toNat
  rw [BitVec.toNat_ofNat]
  omega
theorem iI_tb {x : Int} (h0 : 0 ≤ x) (h1 : x ≤ 2147483647) : (iI x).toBitVec.toNat = x.toNat := by
  rw [iI_nn h0]
  show (BitVec.ofNat 32 x.toNat).toNat = _
  rw [BitVec.toNat_ofNat]
  omega
/-- x & y, y not below 0 -/
theorem iI_and (v : Int32) {y : Int} (h0 : 0 ≤ y) (h1 : y ≤ 2147483647) : ∃ z : Int, v &&& iI y = iI z ∧ 0 ≤ z ∧ z ≤ y := by
  have hb : (v &&& iI y).toBitVec.toNat ≤ y.toNat := by
    rw [Int32.toBitVec_and, BitVec.toNat_and, iI_tb h0 h1]
    exact Nat.and_le_right
  exact ⟨((v &&& iI y).toBitVec.toNat : Int), iI_bv rfl (by omega), by omega, by omega⟩
theorem iI_or {x y : Int} (k : Nat) (hk : k ≤ 31) (hx : 0 ≤ x ∧ x < 2 ^ k) (hy : 0 ≤ y ∧ y < 2 ^ k) : ∃ z : Int, iI x ||| iI y = iI z ∧ 0 ≤ z ∧ z < 2 ^ k := by
  have h2 : (2 : Nat) ^ k ≤ 2 ^ 31 := Nat.pow_le_pow_right (by decide) hk
  have h3 : ((2 ^ k : Nat) : Int) = 2 ^ k := by norm_cast
  have hb : (iI x ||| iI y).toBitVec.toNat < 2 ^ k := by
    rw [Int32.toBitVec_or, BitVec.toNat_or, iI_tb hx.1 (by omega), iI_tb hy.1 (by omega)]
    exact Nat.or_lt_two_pow (by omega) (by omega)
  exact ⟨((iI x ||| iI y).toBitVec.toNat : Int), iI_bv rfl (by omega), by omega, by omega⟩
theorem iI_sm : ∀ k : Nat, k < 32 → (iI (k : Int) &&& 31).toBitVec.smod 32 = BitVec.ofNat 32 k := by decide +kernel
/-- x << k -/
theorem iI_shl {x : Int} (k : Nat) (hk : k < 32) : iI x <<< (iI k &&& 31) = iI (x * 2 ^ k) := by
  apply Int32.toBitVec_inj.mp
  rw [Int32.toBitVec_shiftLeft, iI_sm k hk]
  show (BitVec.ofInt 32 x) <<< (BitVec.ofNat 32 k) = BitVec.ofInt 32 (x * 2 ^ k)
  rw [BitVec.ofInt_mul, BitVec.shiftLeft_eq', BitVec.toNat_ofNat, Nat.mod_eq_of_lt (by omega), BitVec.shiftLeft_eq_mul_twoPow]
  congr 1
  apply BitVec.eq_of_toNat_eq
  rw [BitVec.toNat_twoPow, BitVec.toNat_ofInt]
  have h3 : ((2 ^ k : Nat) : Int) = 2 ^ k := by norm_cast
  rw [← h3]
  norm_cast
theorem iI_shr {x : Int} (k : Nat) (hk : k < 32) (hx : 0 ≤ x ∧ x ≤ 2147483647) : iI x >>> (iI k &&& 31) = iI (x / 2 ^ k) := by
  have h3 : ((2 ^ k : Nat) : Int) = 2 ^ k := by norm_cast
  have h4 : x / 2 ^ k = ((x.toNat / 2 ^ k : Nat) : Int) := by rw [← h3, Int.natCast_ediv, Int.toNat_of_nonneg hx.1]
  have h5 : x.toNat / 2 ^ k ≤ x.toNat := Nat.div_le_self _ _
  rw [h4]
  refine iI_bv ?_ (by omega)
  rw [Int32.toBitVec_shiftRight, iI_sm k hk, BitVec.sshiftRight_eq', BitVec.toNat_ofNat, Nat.mod_eq_of_lt (by omega), BitVec.sshiftRight_eq_of_msb_false, BitVec.toNat_ushiftRight, iI_tb hx.1 hx.2, Nat.shiftRight_eq_div_pow]
  rw [BitVec.msb_eq_false_iff_two_mul_lt, iI_tb hx.1 hx.2]
  omega
theorem iI_div {x y : Int} (hx : 0 ≤ x ∧ x ≤ 2147483647) (hy : 0 < y ∧ y ≤ 2147483647) : iI x / iI y = iI (x / y) := by
  have h1 : 0 ≤ x / y := Int.ediv_nonneg hx.1 (by omega)
  have h2 : x / y ≤ x := Int.ediv_le_self _ hx.1
  apply Int32.toInt_inj.mp
  rw [Int32.toInt_div, iI_toInt (by omega), iI_toInt (by omega), iI_toInt (by omega), Int.tdiv_eq_ediv_of_nonneg hx.1, Int.bmod_eq_of_le]
  · omega
  · omega
theorem lI_div {x y : Int} (hx : 0 ≤ x ∧ x ≤ 9223372036854775807) (hy : 0 < y ∧ y ≤ 9223372036854775807) : lI x / lI y = lI (x / y) := by
  have h1 : 0 ≤ x / y := Int.ediv_nonneg hx.1 (by omega)
  have h2 : x / y ≤ x := Int.ediv_le_self _ hx.1
  apply Int64.toInt_inj.mp
  rw [Int64.toInt_div, lI_toInt (by omega), lI_toInt (by omega), lI_toInt (by omega), Int.tdiv_eq_ediv_of_nonneg hx.1, Int.bmod_eq_of_le]
  · omega
  · omega
theorem lI_bv {v : Int64} {n : Nat} (h : v.toBitVec.toNat = n) (hn : n < 9223372036854775808) : v = lI n := by
  have e1 : lI (n : Int) = Int64.ofNat n := Int64.ofInt_eq_ofNat (n := n)
  rw [e1]
  apply Int64.toBitVec_inj.mp
  apply BitVec.eq_of_toNat_eq
  rw [h]
  show n = (BitVec.ofNat 64 n).toNat
  rw [BitVec.toNat_ofNat]
  omega
theorem lI_tb {x : Int} (h0 : 0 ≤ x) (h1 : x ≤ 9223372036854775807) : (lI x).toBitVec.toNat = x.toNat := by
  have e1 : lI x = Int64.ofNat x.toNat := by
    have := Int64.ofInt_eq_ofNat (n := x.toNat)
    rw [Int.toNat_of_nonneg h0] at this
    exact this
  rw [e1]
  show (BitVec.ofNat 64 x.toNat).toNat = _
  rw [BitVec.toNat_ofNat]
  omega
theorem lI_or {x y : Int} (k : Nat) (hk : k ≤ 63) (hx : 0 ≤ x ∧ x < 2 ^ k) (hy : 0 ≤ y ∧ y < 2 ^ k) : ∃ z : Int, lI x ||| lI y = lI z ∧ 0 ≤ z ∧ z < 2 ^ k := by
  have h2 : (2 : Nat) ^ k ≤ 2 ^ 63 := Nat.pow_le_pow_right (by decide) hk
  have h3 : ((2 ^ k : Nat) : Int) = 2 ^ k := by norm_cast
  have hb : (lI x ||| lI y).toBitVec.toNat < 2 ^ k := by
    rw [Int64.toBitVec_or, BitVec.toNat_or, lI_tb hx.1 (by omega), lI_tb hy.1 (by omega)]
    exact Nat.or_lt_two_pow (by omega) (by omega)
  exact ⟨((lI x ||| lI y).toBitVec.toNat : Int), lI_bv rfl (by omega), by omega, by omega⟩
theorem lI_sm : ∀ k : Nat, k < 64 → ((iI (k : Int)).toInt64 &&& 63).toBitVec.smod 64 = BitVec.ofNat 64 k := by decide +kernel
theorem lI_shl {x : Int} (k : Nat) (hk : k < 64) : lI x <<< ((iI k).toInt64 &&& 63) = lI (x * 2 ^ k) := by
  apply Int64.toBitVec_inj.mp
  rw [Int64.toBitVec_shiftLeft, lI_sm k hk]
  show (BitVec.ofInt 64 x) <<< (BitVec.ofNat 64 k) = BitVec.ofInt 64 (x * 2 ^ k)
  rw [BitVec.ofInt_mul, BitVec.shiftLeft_eq', BitVec.toNat_ofNat, Nat.mod_eq_of_lt (by omega), BitVec.shiftLeft_eq_mul_twoPow]
  congr 1
  apply BitVec.eq_of_toNat_eq
  rw [BitVec.toNat_twoPow, BitVec.toNat_ofInt]
  have h3 : ((2 ^ k : Nat) : Int) = 2 ^ k := by norm_cast
  rw [← h3]
  norm_cast
theorem iI_orA {x y : Int} (n : Nat) (hx : 0 ≤ x ∧ x < 2 ^ n) (hy : 0 ≤ y) (h : x + y * 2 ^ n ≤ 2147483647) : iI x ||| iI (y * 2 ^ n) = iI (x + y * 2 ^ n) := by
  have h3 : ((2 ^ n : Nat) : Int) = 2 ^ n := by norm_cast
  have h4 : 0 ≤ y * 2 ^ n := Int.mul_nonneg hy (by rw [← h3]; omega)
  have h5 : (y * 2 ^ n).toNat = y.toNat <<< n := by
    rw [Nat.shiftLeft_eq, ← h3]
    have : y * ((2 ^ n : Nat) : Int) = ((y.toNat * 2 ^ n : Nat) : Int) := by rw [Int.natCast_mul, Int.toNat_of_nonneg hy]
    rw [this]
    rfl
  have h6 : x + y * 2 ^ n = ((y.toNat <<< n + x.toNat : Nat) : Int) := by omega
  rw [h6]
  refine iI_bv ?_ (by omega)
  rw [Int32.toBitVec_or, BitVec.toNat_or, iI_tb hx.1 (by omega), iI_tb h4 (by omega), h5, Nat.or_comm]
  exact (Nat.shiftLeft_add_eq_or_of_lt (by omega) _).symm
theorem lI_orA {x y : Int} (n : Nat) (hx : 0 ≤ x ∧ x < 2 ^ n) (hy : 0 ≤ y) (h : x + y * 2 ^ n ≤ 9223372036854775807) : lI x ||| lI (y * 2 ^ n) = lI (x + y * 2 ^ n) := by
  have h3 : ((2 ^ n : Nat) : Int) = 2 ^ n := by norm_cast
  have h4 : 0 ≤ y * 2 ^ n := Int.mul_nonneg hy (by rw [← h3]; omega)
  have h5 : (y * 2 ^ n).toNat = y.toNat <<< n := by
    rw [Nat.shiftLeft_eq, ← h3]
    have : y * ((2 ^ n : Nat) : Int) = ((y.toNat * 2 ^ n : Nat) : Int) := by rw [Int.natCast_mul, Int.toNat_of_nonneg hy]
    rw [this]
    rfl
  have h6 : x + y * 2 ^ n = ((y.toNat <<< n + x.toNat : Nat) : Int) := by omega
  rw [h6]
  refine lI_bv ?_ (by omega)
  rw [Int64.toBitVec_or, BitVec.toNat_or, lI_tb hx.1 (by omega), lI_tb h4 (by omega), h5, Nat.or_comm]
  exact (Nat.shiftLeft_add_eq_or_of_lt (by omega) _).symm
/-- the bytes, pairs and fours of a tape, as whole numbers -/
def zB1 (f : Nat → Int32) (k : Int) : Int := (f k.toNat &&& 255).toInt
theorem zB1_eq (f : Nat → Int32) (k : Int) : f k.toNat &&& iI 255 = iI (zB1 f k) := by
  unfold zB1
  rw [show iI 255 = 255 by decide]
  exact (Int32.ofInt_toInt _).symm
theorem zB1_b (f : Nat → Int32) (k : Int) : 0 ≤ zB1 f k ∧ zB1 f k ≤ 255 := by
  obtain ⟨z, h1, h2, h3⟩ := iI_and (f k.toNat) (y := 255) (by decide) (by decide)
  unfold zB1
  rw [show (255 : Int32) = iI 255 by decide, h1, iI_toInt (by omega)]
  omega
def zB2 (f : Nat → Int32) (k : Int) : Int := zB1 f k + 256 * zB1 f (k + 1)
def zB4 (f : Nat → Int32) (k : Int) : Int := zB2 f k + 65536 * zB2 f (k + 2)
theorem zB2_b (f : Nat → Int32) (k : Int) : 0 ≤ zB2 f k ∧ zB2 f k ≤ 65535 := by
  have h1 := zB1_b f k
  have h2 := zB1_b f (k + 1)
  unfold zB2
  omega
theorem zB4_b (f : Nat → Int32) (k : Int) : 0 ≤ zB4 f k ∧ zB4 f k ≤ 4294967295 := by
  have h1 := zB2_b f k
  have h2 := zB2_b f (k + 2)
  unfold zB4
  omega
/-- 2 to the k -/
def zp (k : Int) : Int := 2 ^ k.toNat
theorem zp_nat (k : Int) : zp k = ((2 ^ k.toNat : Nat) : Int) := by unfold zp; norm_cast
theorem zp_pos (k : Int) : 1 ≤ zp k := by
  rw [zp_nat]
  have := Nat.two_pow_pos k.toNat
  omega
theorem zp_le {a b : Int} (h : a ≤ b) : zp a ≤ zp b := by
  rw [zp_nat, zp_nat]
  have := Nat.pow_le_pow_right (n := 2) (by decide) (show a.toNat ≤ b.toNat by omega)
  omega
theorem zp_s {k : Int} (h : 0 ≤ k) : zp (k + 1) = 2 * zp k := by
  rw [zp_nat, zp_nat, show (k + 1).toNat = k.toNat + 1 by omega, Nat.pow_succ]
  omega
theorem iI_or0 (x : Int32) : x ||| iI 0 = x := by
  rw [iI_0]
  exact Int32.or_zero
theorem iI_bitor {k z v : Int} (hk : 0 ≤ k ∧ k ≤ 30) (hz : 0 ≤ z ∧ z ≤ 1) (hv : 0 ≤ v ∧ v < zp k) : ∃ y : Int, iI v ||| (iI z <<< (iI k &&& 31)) = iI y ∧ 0 ≤ y ∧ y < zp (k + 1) := by
  have e1 : iI k = iI ((k.toNat : Nat) : Int) := by rw [Int.toNat_of_nonneg hk.1]
  have h2 := zp_s hk.1
  rw [e1, iI_shl k.toNat (by omega)]
  have h3 : zp (k + 1) = 2 ^ (k.toNat + 1) := by unfold zp; rw [show (k + 1).toNat = k.toNat + 1 by omega]
  have h4 : z * 2 ^ k.toNat ≤ zp k := by
    have : z = 0 ∨ z = 1 := by omega
    rcases this with rfl | rfl
    · rw [Int.zero_mul]; have := zp_pos k; omega
    · rw [Int.one_mul]; exact Int.le_refl _
  have h5 : 0 ≤ z * 2 ^ k.toNat := by
    have : z = 0 ∨ z = 1 := by omega
    rcases this with rfl | rfl
    · rw [Int.zero_mul]; omega
    · rw [Int.one_mul]; have := zp_pos k; unfold zp at this; omega
  obtain ⟨y, e2, h6, h7⟩ := iI_or (x := v) (y := z * 2 ^ k.toNat) (k.toNat + 1) (by omega) (by rw [← h3]; have := zp_pos k; omega) (by rw [← h3]; have := zp_pos k; omega)
  exact ⟨y, e2, h6, by rw [h3]; exact h7⟩
theorem zmulb {a b : Int} (ha : 0 ≤ a ∧ a ≤ 2000) (hb : 0 ≤ b ∧ b ≤ 20000) : 0 ≤ a * b ∧ a * b ≤ 40000000 := ⟨Int.mul_nonneg ha.1 hb.1, by
  have h1 : a * b ≤ 2000 * b := Int.mul_le_mul_of_nonneg_right ha.2 hb.1
  omega⟩
theorem zmulc {a b A B : Int} (ha : 0 ≤ a ∧ a ≤ A) (hb : 0 ≤ b ∧ b ≤ B) : 0 ≤ a * b ∧ a * b ≤ A * B := ⟨Int.mul_nonneg ha.1 hb.1, Int.le_trans (Int.mul_le_mul_of_nonneg_right ha.2 hb.1) (Int.mul_le_mul_of_nonneg_left hb.2 (Int.le_trans ha.1 ha.2))⟩
theorem iI_shlV {x k : Int} (hk : 0 ≤ k ∧ k < 32) : iI x <<< (iI k &&& 31) = iI (x * zp k) := by
  have e1 : iI k = iI ((k.toNat : Nat) : Int) := by rw [Int.toNat_of_nonneg hk.1]
  rw [e1, iI_shl k.toNat (by omega)]
  rfl

def zup (g : Nat → Int) (i : Nat) (v : Int) : Nat → Int := fun k => if k = i then v else g k
theorem zup_at (g : Nat → Int) (i : Nat) (v : Int) : zup g i v i = v := by unfold zup; rw [if_pos rfl]
theorem zup_ne {g : Nat → Int} {i k : Nat} {v : Int} (h : k ≠ i) : zup g i v k = g k := by unfold zup; rw [if_neg h]
theorem zup_all {g g1 : Nat → Int} {i : Nat} {v : Int} (h : ∀ k : Nat, 0 ≤ g k ∧ g k ≤ 15) (e : g1 = zup g i v) (hv : 0 ≤ v ∧ v ≤ 15) : ∀ k : Nat, 0 ≤ g1 k ∧ g1 k ≤ 15 := fun k => by
  rw [e]
  unfold zup
  split
  · exact hv
  · exact h k
theorem zup_i (g : Nat → Int) (i : Nat) (v : Int) : upd (fun k => iI (g k)) i (iI v) = fun k => iI (zup g i v k) := by
  funext k
  unfold upd zup
  split <;> rfl
theorem zup_l (g : Nat → Int) (i : Nat) (v : Int) : vp_updL (fun k => lI (g k)) i (lI v) = fun k => lI (zup g i v k) := by
  funext k
  unfold vp_updL zup
  split <;> rfl
theorem zn01 {z : Int} (h : 0 ≤ z ∧ z ≤ 1) : narrow .boolean (.int (iI z)) = .int (iI z) := by
  have h1 : z = 0 ∨ z = 1 := by omega
  rcases h1 with rfl | rfl <;> rfl
theorem zinc {x z n : Int} (h : x + n = z) : iI x + Int32.ofInt n = iI z := by rw [← h]; exact iI_add x n
section ZV
variable {p : Program} {l : Launch} {e : Env} {R : Room} {s : State} {m : MethodId} {args : Array Value} {below : List Frame} {meth : Method} {c : Code} {H : Heap} {locs : List Loc} {cells slots : Nat} {Q : State → Prop}
variable {cc : ByteArray} {pc : Nat} {ls : Array Slot} {rest : List Value} {a : Nat} {A : Nat → Prop} {D : va_G} {cl : List vw_C} {tys : List (ClassId × FieldType)} {ws : va_W} {H0 : Heap}
theorem zv_iadd (hx : p.tables.exec = Jvm.exec) (hb : c.code = cc) {x y : Int} {z : Int} (hd : decode cc pc = .ok (.iadd, 1)) (hz : x + y = z) (k : W p l e R s m args below meth c H locs cells slots Q (F0 m (pc + 1) ls (.int (iI z) :: rest))) : W p l e R s m args below meth c H locs cells slots Q (F0 m pc ls (.int (iI y) :: .int (iI x) :: rest)) := lv_iadd hx hb hd (by rw [iI_add, hz]; exact k)
theorem zv_isub (hx : p.tables.exec = Jvm.exec) (hb : c.code = cc) {x y : Int} {z : Int} (hd : decode cc pc = .ok (.isub, 1)) (hz : x - y = z) (k : W p l e R s m args below meth c H locs cells slots Q (F0 m (pc + 1) ls (.int (iI z) :: rest))) : W p l e R s m args below meth c H locs cells slots Q (F0 m pc ls (.int (iI y) :: .int (iI x) :: rest)) := lv_isub hx hb hd (by rw [iI_sub, hz]; exact k)
theorem zv_imul (hx : p.tables.exec = Jvm.exec) (hb : c.code = cc) {x y : Int} {z : Int} (hd : decode cc pc = .ok (.imul, 1)) (hz : x * y = z) (k : W p l e R s m args below meth c H locs cells slots Q (F0 m (pc + 1) ls (.int (iI z) :: rest))) : W p l e R s m args below meth c H locs cells slots Q (F0 m pc ls (.int (iI y) :: .int (iI x) :: rest)) := lv_imul hx hb hd (by rw [iI_mul, hz]; exact k)
theorem zv_ladd (hx : p.tables.exec = Jvm.exec) (hb : c.code = cc) {x y : Int} {z : Int} (hd : decode cc pc = .ok (.ladd, 1)) (hz : x + y = z) (k : W p l e R s m args below meth c H locs cells slots Q (F0 m (pc + 1) ls (.long (lI z) :: rest))) : W p l e R s m args below meth c H locs cells slots Q (F0 m pc ls (.long (lI y) :: .long (lI x) :: rest)) := lv_ladd hx hb hd (by rw [lI_add, hz]; exact k)
theorem zv_lsub (hx : p.tables.exec = Jvm.exec) (hb : c.code = cc) {x y : Int} {z : Int} (hd : decode cc pc = .ok (.lsub, 1)) (hz : x - y = z) (k : W p l e R s m args below meth c H locs cells slots Q (F0 m (pc + 1) ls (.long (lI z) :: rest))) : W p l e R s m args below meth c H locs cells slots Q (F0 m pc ls (.long (lI y) :: .long (lI x) :: rest)) := lv_lsub hx hb hd (by rw [lI_sub, hz]; exact k)
theorem zv_lmul (hx : p.tables.exec = Jvm.exec) (hb : c.code = cc) {x y : Int} {z : Int} (hd : decode cc pc = .ok (.lmul, 1)) (hz : x * y = z) (k : W p l e R s m args below meth c H locs cells slots Q (F0 m (pc + 1) ls (.long (lI z) :: rest))) : W p l e R s m args below meth c H locs cells slots Q (F0 m pc ls (.long (lI y) :: .long (lI x) :: rest)) := lv_lmul hx hb hd (by rw [lI_mul, hz]; exact k)
theorem zv_ineg (hx : p.tables.exec = Jvm.exec) (hb : c.code = cc) {x z : Int} (hd : decode cc pc = .ok (.ineg, 1)) (hz : -x = z) (k : W p l e R s m args below meth c H locs cells slots Q (F0 m (pc + 1) ls (.int (iI z) :: rest))) : W p l e R s m args below meth c H locs cells slots Q (F0 m pc ls (.int (iI x) :: rest)) := lv_ineg hx hb hd (by rw [iI_neg, hz]; exact k)
theorem zv_ne0 {y : Int} (h : 0 < y ∧ y ≤ 2147483647) : ¬ iI y = 0 := by
  rw [← iI_0, iI_eq (by omega) (by omega)]
  omega
theorem zv_idiv (hx : p.tables.exec = Jvm.exec) (hb : c.code = cc) {x y z : Int} (hd : decode cc pc = .ok (.idiv, 1)) (h1 : 0 ≤ x ∧ x ≤ 2147483647) (h2 : 0 < y ∧ y ≤ 2147483647) (hz : x / y = z) (k : W p l e R s m args below meth c H locs cells slots Q (F0 m (pc + 1) ls (.int (iI z) :: rest))) : W p l e R s m args below meth c H locs cells slots Q (F0 m pc ls (.int (iI y) :: .int (iI x) :: rest)) := lv_idiv hx hb hd (zv_ne0 h2) (by rw [iI_div h1 h2, hz]; exact k)
theorem zv_irem (hx : p.tables.exec = Jvm.exec) (hb : c.code = cc) {x y z : Int} (hd : decode cc pc = .ok (.irem, 1)) (h1 : 0 ≤ x ∧ x ≤ 2147483647) (h2 : 0 < y ∧ y ≤ 2147483647) (hz : x % y = z) (k : W p l e R s m args below meth c H locs cells slots Q (F0 m (pc + 1) ls (.int (iI z) :: rest))) : W p l e R s m args below meth c H locs cells slots Q (F0 m pc ls (.int (iI y) :: .int (iI x) :: rest)) := lv_irem hx hb hd (zv_ne0 h2) (by rw [iI_div h1 h2, iI_mul, iI_sub, show x - x / y * y = z by rw [← hz, Int.emod_def, Int.mul_comm]]; exact k)
theorem zv_i2l (hx : p.tables.exec = Jvm.exec) (hb : c.code = cc) {x : Int} (hd : decode cc pc = .ok (.i2l, 1)) (h1 : -2147483648 ≤ x ∧ x ≤ 2147483647) (k : W p l e R s m args below meth c H locs cells slots Q (F0 m (pc + 1) ls (.long (lI x) :: rest))) : W p l e R s m args below meth c H locs cells slots Q (F0 m pc ls (.int (iI x) :: rest)) := lv_i2l hx hb hd (iI_l h1) k
theorem zv_l2i (hx : p.tables.exec = Jvm.exec) (hb : c.code = cc) {x : Int} (hd : decode cc pc = .ok (.l2i, 1)) (k : W p l e R s m args below meth c H locs cells slots Q (F0 m (pc + 1) ls (.int (iI x) :: rest))) : W p l e R s m args below meth c H locs cells slots Q (F0 m pc ls (.long (lI x) :: rest)) := lv_l2i hx hb hd (lI_i x) k
theorem zv_lit {v : Int32} (z : Int) (h : v = iI z) (k : W p l e R s m args below meth c H locs cells slots Q (F0 m pc ls (.int (iI z) :: rest))) : W p l e R s m args below meth c H locs cells slots Q (F0 m pc ls (.int v :: rest)) := by rw [h]; exact k
theorem zv_litL {v : Int64} (z : Int) (h : v = lI z) (k : W p l e R s m args below meth c H locs cells slots Q (F0 m pc ls (.long (lI z) :: rest))) : W p l e R s m args below meth c H locs cells slots Q (F0 m pc ls (.long v :: rest)) := by rw [h]; exact k
theorem zv_any {v : Int32} (k : ∀ z : Int, -2147483648 ≤ z → z ≤ 2147483647 → W p l e R s m args below meth c H locs cells slots Q (F0 m pc ls (.int (iI z) :: rest))) : W p l e R s m args below meth c H locs cells slots Q (F0 m pc ls (.int v :: rest)) := by
  obtain ⟨z, e1, h1, h2⟩ := iI_of v
  rw [e1]
  exact k z h1 h2
theorem zv_anyL {v : Int64} (k : ∀ z : Int, -9223372036854775808 ≤ z → z ≤ 9223372036854775807 → W p l e R s m args below meth c H locs cells slots Q (F0 m pc ls (.long (lI z) :: rest))) : W p l e R s m args below meth c H locs cells slots Q (F0 m pc ls (.long v :: rest)) := by
  obtain ⟨z, e1, h1, h2⟩ := lI_of v
  rw [e1]
  exact k z h1 h2
theorem zv_nm {x : Int} (k : ∀ z : Int, z = x → W p l e R s m args below meth c H locs cells slots Q (F0 m pc ls (.int (iI z) :: rest))) : W p l e R s m args below meth c H locs cells slots Q (F0 m pc ls (.int (iI x) :: rest)) := k x rfl
theorem zv_nmL {x : Int} (k : ∀ z : Int, z = x → W p l e R s m args below meth c H locs cells slots Q (F0 m pc ls (.long (lI z) :: rest))) : W p l e R s m args below meth c H locs cells slots Q (F0 m pc ls (.long (lI x) :: rest)) := k x rfl
theorem zv_iand (hx : p.tables.exec = Jvm.exec) (hb : c.code = cc) {v : Int32} {y : Int} (hd : decode cc pc = .ok (.iand, 1)) (h : 0 ≤ y ∧ y ≤ 2147483647) (k : ∀ z : Int, 0 ≤ z → z ≤ y → W p l e R s m args below meth c H locs cells slots Q (F0 m (pc + 1) ls (.int (iI z) :: rest))) : W p l e R s m args below meth c H locs cells slots Q (F0 m pc ls (.int (iI y) :: .int v :: rest)) := lv_iand hx hb hd (by
  obtain ⟨z, e1, h1, h2⟩ := iI_and v h.1 h.2
  rw [e1]
  exact k z h1 h2)
theorem zv_ior (hx : p.tables.exec = Jvm.exec) (hb : c.code = cc) {x y : Int} (n : Nat) (hn : n ≤ 31) (hd : decode cc pc = .ok (.ior, 1)) (h1 : 0 ≤ x ∧ x < 2 ^ n) (h2 : 0 ≤ y ∧ y < 2 ^ n) (k : ∀ z : Int, 0 ≤ z → z < 2 ^ n → W p l e R s m args below meth c H locs cells slots Q (F0 m (pc + 1) ls (.int (iI z) :: rest))) : W p l e R s m args below meth c H locs cells slots Q (F0 m pc ls (.int (iI y) :: .int (iI x) :: rest)) := lv_ior hx hb hd (by
  obtain ⟨z, e1, h3, h4⟩ := iI_or n hn h1 h2
  rw [e1]
  exact k z h3 h4)
theorem zv_ishl (hx : p.tables.exec = Jvm.exec) (hb : c.code = cc) {x z : Int} (n : Nat) (hn : n < 32) (hd : decode cc pc = .ok (.ishl, 1)) (hz : x * 2 ^ n = z) (k : W p l e R s m args below meth c H locs cells slots Q (F0 m (pc + 1) ls (.int (iI z) :: rest))) : W p l e R s m args below meth c H locs cells slots Q (F0 m pc ls (.int (iI n) :: .int (iI x) :: rest)) := lv_ishl hx hb hd (by rw [iI_shl n hn, hz]; exact k)
theorem zv_ishr (hx : p.tables.exec = Jvm.exec) (hb : c.code = cc) {x z : Int} (n : Nat) (hn : n < 32) (hd : decode cc pc = .ok (.ishr, 1)) (h : 0 ≤ x ∧ x ≤ 2147483647) (hz : x / 2 ^ n = z) (k : W p l e R s m args below meth c H locs cells slots Q (F0 m (pc + 1) ls (.int (iI z) :: rest))) : W p l e R s m args below meth c H locs cells slots Q (F0 m pc ls (.int (iI n) :: .int (iI x) :: rest)) := lv_ishr hx hb hd (by rw [iI_shr n hn h, hz]; exact k)
theorem zv_lor (hx : p.tables.exec = Jvm.exec) (hb : c.code = cc) {x y : Int} (n : Nat) (hn : n ≤ 63) (hd : decode cc pc = .ok (.lor, 1)) (h1 : 0 ≤ x ∧ x < 2 ^ n) (h2 : 0 ≤ y ∧ y < 2 ^ n) (k : ∀ z : Int, 0 ≤ z → z < 2 ^ n → W p l e R s m args below meth c H locs cells slots Q (F0 m (pc + 1) ls (.long (lI z) :: rest))) : W p l e R s m args below meth c H locs cells slots Q (F0 m pc ls (.long (lI y) :: .long (lI x) :: rest)) := lv_lor hx hb hd (by
  obtain ⟨z, e1, h3, h4⟩ := lI_or n hn h1 h2
  rw [e1]
  exact k z h3 h4)
theorem zv_lshl (hx : p.tables.exec = Jvm.exec) (hb : c.code = cc) {x z : Int} (n : Nat) (hn : n < 64) (hd : decode cc pc = .ok (.lshl, 1)) (hz : x * 2 ^ n = z) (k : W p l e R s m args below meth c H locs cells slots Q (F0 m (pc + 1) ls (.long (lI z) :: rest))) : W p l e R s m args below meth c H locs cells slots Q (F0 m pc ls (.int (iI n) :: .long (lI x) :: rest)) := lv_lshl hx hb hd (by rw [lI_shl n hn, hz]) k
theorem zv_icmp_eq (hx : p.tables.exec = Jvm.exec) (hb : c.code = cc) {x y : Int} {off : Int} {tgt : Nat} (hd : decode cc pc = .ok (.if_icmp .eq off, 3)) (ht : (pc : Int) + off = (tgt : Int)) (h1 : -2147483648 ≤ x ∧ x ≤ 2147483647) (h2 : -2147483648 ≤ y ∧ y ≤ 2147483647) (kt : x = y → W p l e R s m args below meth c H locs cells slots Q (F0 m tgt ls rest)) (kf : ¬ x = y → W p l e R s m args below meth c H locs cells slots Q (F0 m (pc + 3) ls rest)) : W p l e R s m args below meth c H locs cells slots Q (F0 m pc ls (.int (iI y) :: .int (iI x) :: rest)) := lv_icmp_eq hx hb hd ht (fun q => kt ((iI_eq h1 h2).mp q)) (fun q => kf (mt (iI_eq h1 h2).mpr q))
theorem zv_if_eq (hx : p.tables.exec = Jvm.exec) (hb : c.code = cc) {x : Int} {off : Int} {tgt : Nat} (hd : decode cc pc = .ok (.ifCond .eq off, 3)) (ht : (pc : Int) + off = (tgt : Int)) (h1 : -2147483648 ≤ x ∧ x ≤ 2147483647) (kt : x = 0 → W p l e R s m args below meth c H locs cells slots Q (F0 m tgt ls rest)) (kf : ¬ x = 0 → W p l e R s m args below meth c H locs cells slots Q (F0 m (pc + 3) ls rest)) : W p l e R s m args below meth c H locs cells slots Q (F0 m pc ls (.int (iI x) :: rest)) := by
  have h2 : -2147483648 ≤ (0 : Int) ∧ (0 : Int) ≤ 2147483647 := by omega
  refine lv_if_eq hx hb hd ht ?_ ?_
  · rw [← iI_0]
    exact (fun q => kt ((iI_eq h1 h2).mp q))
  · rw [← iI_0]
    exact (fun q => kf (mt (iI_eq h1 h2).mpr q))
theorem zv_lcmp_eq (hx : p.tables.exec = Jvm.exec) (hb : c.code = cc) {x y : Int} {off : Int} {tgt : Nat} (hd0 : decode cc pc = .ok (.lcmp, 1)) (hd : decode cc (pc + 1) = .ok (.ifCond .eq off, 3)) (ht : ((pc + 1 : Nat) : Int) + off = (tgt : Int)) (h1 : -9223372036854775808 ≤ x ∧ x ≤ 9223372036854775807) (h2 : -9223372036854775808 ≤ y ∧ y ≤ 9223372036854775807) (kt : x = y → W p l e R s m args below meth c H locs cells slots Q (F0 m tgt ls rest)) (kf : ¬ x = y → W p l e R s m args below meth c H locs cells slots Q (F0 m (pc + 4) ls rest)) : W p l e R s m args below meth c H locs cells slots Q (F0 m pc ls (.long (lI y) :: .long (lI x) :: rest)) := W.lcmp hx hb hd0 (by
  rw [lI_cmp h1 h2]
  refine zv_if_eq hx hb hd ht (by split <;> (try split) <;> omega) (fun q => kt ?_) (fun q => kf ?_)
  · revert q
    split <;> (try split) <;> intro q <;> omega
  · revert q
    split <;> (try split) <;> intro q <;> omega)
theorem zv_icmp_ne (hx : p.tables.exec = Jvm.exec) (hb : c.code = cc) {x y : Int} {off : Int} {tgt : Nat} (hd : decode cc pc = .ok (.if_icmp .ne off, 3)) (ht : (pc : Int) + off = (tgt : Int)) (h1 : -2147483648 ≤ x ∧ x ≤ 2147483647) (h2 : -2147483648 ≤ y ∧ y ≤ 2147483647) (kt : ¬ x = y → W p l e R s m args below meth c H locs cells slots Q (F0 m tgt ls rest)) (kf : x = y → W p l e R s m args below meth c H locs cells slots Q (F0 m (pc + 3) ls rest)) : W p l e R s m args below meth c H locs cells slots Q (F0 m pc ls (.int (iI y) :: .int (iI x) :: rest)) := lv_icmp_ne hx hb hd ht (fun q => kt (mt (iI_eq h1 h2).mpr q)) (fun q => kf ((iI_eq h1 h2).mp q))
theorem zv_if_ne (hx : p.tables.exec = Jvm.exec) (hb : c.code = cc) {x : Int} {off : Int} {tgt : Nat} (hd : decode cc pc = .ok (.ifCond .ne off, 3)) (ht : (pc : Int) + off = (tgt : Int)) (h1 : -2147483648 ≤ x ∧ x ≤ 2147483647) (kt : ¬ x = 0 → W p l e R s m args below meth c H locs cells slots Q (F0 m tgt ls rest)) (kf : x = 0 → W p l e R s m args below meth c H locs cells slots Q (F0 m (pc + 3) ls rest)) : W p l e R s m args below meth c H locs cells slots Q (F0 m pc ls (.int (iI x) :: rest)) := by
  have h2 : -2147483648 ≤ (0 : Int) ∧ (0 : Int) ≤ 2147483647 := by omega
  refine lv_if_ne hx hb hd ht ?_ ?_
  · rw [← iI_0]
    exact (fun q => kt (mt (iI_eq h1 h2).mpr q))
  · rw [← iI_0]
    exact (fun q => kf ((iI_eq h1 h2).mp q))
theorem zv_lcmp_ne (hx : p.tables.exec = Jvm.exec) (hb : c.code = cc) {x y : Int} {off : Int} {tgt : Nat} (hd0 : decode cc pc = .ok (.lcmp, 1)) (hd : decode cc (pc + 1) = .ok (.ifCond .ne off, 3)) (ht : ((pc + 1 : Nat) : Int) + off = (tgt : Int)) (h1 : -9223372036854775808 ≤ x ∧ x ≤ 9223372036854775807) (h2 : -9223372036854775808 ≤ y ∧ y ≤ 9223372036854775807) (kt : ¬ x = y → W p l e R s m args below meth c H locs cells slots Q (F0 m tgt ls rest)) (kf : x = y → W p l e R s m args below meth c H locs cells slots Q (F0 m (pc + 4) ls rest)) : W p l e R s m args below meth c H locs cells slots Q (F0 m pc ls (.long (lI y) :: .long (lI x) :: rest)) := W.lcmp hx hb hd0 (by
  rw [lI_cmp h1 h2]
  refine zv_if_ne hx hb hd ht (by split <;> (try split) <;> omega) (fun q => kt ?_) (fun q => kf ?_)
  · revert q
    split <;> (try split) <;> intro q <;> omega
  · revert q
    split <;> (try split) <;> intro q <;> omega)
theorem zv_icmp_lt (hx : p.tables.exec = Jvm.exec) (hb : c.code = cc) {x y : Int} {off : Int} {tgt : Nat} (hd : decode cc pc = .ok (.if_icmp .lt off, 3)) (ht : (pc : Int) + off = (tgt : Int)) (h1 : -2147483648 ≤ x ∧ x ≤ 2147483647) (h2 : -2147483648 ≤ y ∧ y ≤ 2147483647) (kt : x < y → W p l e R s m args below meth c H locs cells slots Q (F0 m tgt ls rest)) (kf : y ≤ x → W p l e R s m args below meth c H locs cells slots Q (F0 m (pc + 3) ls rest)) : W p l e R s m args below meth c H locs cells slots Q (F0 m pc ls (.int (iI y) :: .int (iI x) :: rest)) := lv_icmp_lt hx hb hd ht (fun q => kt ((iI_lt h1 h2).mp q)) (fun q => kf (by have := mt (iI_lt h1 h2).mpr q; omega))
theorem zv_if_lt (hx : p.tables.exec = Jvm.exec) (hb : c.code = cc) {x : Int} {off : Int} {tgt : Nat} (hd : decode cc pc = .ok (.ifCond .lt off, 3)) (ht : (pc : Int) + off = (tgt : Int)) (h1 : -2147483648 ≤ x ∧ x ≤ 2147483647) (kt : x < 0 → W p l e R s m args below meth c H locs cells slots Q (F0 m tgt ls rest)) (kf : 0 ≤ x → W p l e R s m args below meth c H locs cells slots Q (F0 m (pc + 3) ls rest)) : W p l e R s m args below meth c H locs cells slots Q (F0 m pc ls (.int (iI x) :: rest)) := by
  have h2 : -2147483648 ≤ (0 : Int) ∧ (0 : Int) ≤ 2147483647 := by omega
  refine lv_if_lt hx hb hd ht ?_ ?_
  · rw [← iI_0]
    exact (fun q => kt ((iI_lt h1 h2).mp q))
  · rw [← iI_0]
    exact (fun q => kf (by have := mt (iI_lt h1 h2).mpr q; omega))
theorem zv_lcmp_lt (hx : p.tables.exec = Jvm.exec) (hb : c.code = cc) {x y : Int} {off : Int} {tgt : Nat} (hd0 : decode cc pc = .ok (.lcmp, 1)) (hd : decode cc (pc + 1) = .ok (.ifCond .lt off, 3)) (ht : ((pc + 1 : Nat) : Int) + off = (tgt : Int)) (h1 : -9223372036854775808 ≤ x ∧ x ≤ 9223372036854775807) (h2 : -9223372036854775808 ≤ y ∧ y ≤ 9223372036854775807) (kt : x < y → W p l e R s m args below meth c H locs cells slots Q (F0 m tgt ls rest)) (kf : y ≤ x → W p l e R s m args below meth c H locs cells slots Q (F0 m (pc + 4) ls rest)) : W p l e R s m args below meth c H locs cells slots Q (F0 m pc ls (.long (lI y) :: .long (lI x) :: rest)) := W.lcmp hx hb hd0 (by
  rw [lI_cmp h1 h2]
  refine zv_if_lt hx hb hd ht (by split <;> (try split) <;> omega) (fun q => kt ?_) (fun q => kf ?_)
  · revert q
    split <;> (try split) <;> intro q <;> omega
  · revert q
    split <;> (try split) <;> intro q <;> omega)
theorem zv_icmp_ge (hx : p.tables.exec = Jvm.exec) (hb : c.code = cc) {x y : Int} {off : Int} {tgt : Nat} (hd : decode cc pc = .ok (.if_icmp .ge off, 3)) (ht : (pc : Int) + off = (tgt : Int)) (h1 : -2147483648 ≤ x ∧ x ≤ 2147483647) (h2 : -2147483648 ≤ y ∧ y ≤ 2147483647) (kt : y ≤ x → W p l e R s m args below meth c H locs cells slots Q (F0 m tgt ls rest)) (kf : x < y → W p l e R s m args below meth c H locs cells slots Q (F0 m (pc + 3) ls rest)) : W p l e R s m args below meth c H locs cells slots Q (F0 m pc ls (.int (iI y) :: .int (iI x) :: rest)) := lv_icmp_ge hx hb hd ht (fun q => kt ((iI_le h2 h1).mp q)) (fun q => kf (by have := mt (iI_le h2 h1).mpr q; omega))
theorem zv_if_ge (hx : p.tables.exec = Jvm.exec) (hb : c.code = cc) {x : Int} {off : Int} {tgt : Nat} (hd : decode cc pc = .ok (.ifCond .ge off, 3)) (ht : (pc : Int) + off = (tgt : Int)) (h1 : -2147483648 ≤ x ∧ x ≤ 2147483647) (kt : 0 ≤ x → W p l e R s m args below meth c H locs cells slots Q (F0 m tgt ls rest)) (kf : x < 0 → W p l e R s m args below meth c H locs cells slots Q (F0 m (pc + 3) ls rest)) : W p l e R s m args below meth c H locs cells slots Q (F0 m pc ls (.int (iI x) :: rest)) := by
  have h2 : -2147483648 ≤ (0 : Int) ∧ (0 : Int) ≤ 2147483647 := by omega
  refine lv_if_ge hx hb hd ht ?_ ?_
  · rw [← iI_0]
    exact (fun q => kt ((iI_le h2 h1).mp q))
  · rw [← iI_0]
    exact (fun q => kf (by have := mt (iI_le h2 h1).mpr q; omega))
theorem zv_lcmp_ge (hx : p.tables.exec = Jvm.exec) (hb : c.code = cc) {x y : Int} {off : Int} {tgt : Nat} (hd0 : decode cc pc = .ok (.lcmp, 1)) (hd : decode cc (pc + 1) = .ok (.ifCond .ge off, 3)) (ht : ((pc + 1 : Nat) : Int) + off = (tgt : Int)) (h1 : -9223372036854775808 ≤ x ∧ x ≤ 9223372036854775807) (h2 : -9223372036854775808 ≤ y ∧ y ≤ 9223372036854775807) (kt : y ≤ x → W p l e R s m args below meth c H locs cells slots Q (F0 m tgt ls rest)) (kf : x < y → W p l e R s m args below meth c H locs cells slots Q (F0 m (pc + 4) ls rest)) : W p l e R s m args below meth c H locs cells slots Q (F0 m pc ls (.long (lI y) :: .long (lI x) :: rest)) := W.lcmp hx hb hd0 (by
  rw [lI_cmp h1 h2]
  refine zv_if_ge hx hb hd ht (by split <;> (try split) <;> omega) (fun q => kt ?_) (fun q => kf ?_)
  · revert q
    split <;> (try split) <;> intro q <;> omega
  · revert q
    split <;> (try split) <;> intro q <;> omega)
theorem zv_icmp_gt (hx : p.tables.exec = Jvm.exec) (hb : c.code = cc) {x y : Int} {off : Int} {tgt : Nat} (hd : decode cc pc = .ok (.if_icmp .gt off, 3)) (ht : (pc : Int) + off = (tgt : Int)) (h1 : -2147483648 ≤ x ∧ x ≤ 2147483647) (h2 : -2147483648 ≤ y ∧ y ≤ 2147483647) (kt : y < x → W p l e R s m args below meth c H locs cells slots Q (F0 m tgt ls rest)) (kf : x ≤ y → W p l e R s m args below meth c H locs cells slots Q (F0 m (pc + 3) ls rest)) : W p l e R s m args below meth c H locs cells slots Q (F0 m pc ls (.int (iI y) :: .int (iI x) :: rest)) := lv_icmp_gt hx hb hd ht (fun q => kt ((iI_lt h2 h1).mp q)) (fun q => kf (by have := mt (iI_lt h2 h1).mpr q; omega))
theorem zv_if_gt (hx : p.tables.exec = Jvm.exec) (hb : c.code = cc) {x : Int} {off : Int} {tgt : Nat} (hd : decode cc pc = .ok (.ifCond .gt off, 3)) (ht : (pc : Int) + off = (tgt : Int)) (h1 : -2147483648 ≤ x ∧ x ≤ 2147483647) (kt : 0 < x → W p l e R s m args below meth c H locs cells slots Q (F0 m tgt ls rest)) (kf : x ≤ 0 → W p l e R s m args below meth c H locs cells slots Q (F0 m (pc + 3) ls rest)) : W p l e R s m args below meth c H locs cells slots Q (F0 m pc ls (.int (iI x) :: rest)) := by
  have h2 : -2147483648 ≤ (0 : Int) ∧ (0 : Int) ≤ 2147483647 := by omega
  refine lv_if_gt hx hb hd ht ?_ ?_
  · rw [← iI_0]
    exact (fun q => kt ((iI_lt h2 h1).mp q))
  · rw [← iI_0]
    exact (fun q => kf (by have := mt (iI_lt h2 h1).mpr q; omega))
theorem zv_lcmp_gt (hx : p.tables.exec = Jvm.exec) (hb : c.code = cc) {x y : Int} {off : Int} {tgt : Nat} (hd0 : decode cc pc = .ok (.lcmp, 1)) (hd : decode cc (pc + 1) = .ok (.ifCond .gt off, 3)) (ht : ((pc + 1 : Nat) : Int) + off = (tgt : Int)) (h1 : -9223372036854775808 ≤ x ∧ x ≤ 9223372036854775807) (h2 : -9223372036854775808 ≤ y ∧ y ≤ 9223372036854775807) (kt : y < x → W p l e R s m args below meth c H locs cells slots Q (F0 m tgt ls rest)) (kf : x ≤ y → W p l e R s m args below meth c H locs cells slots Q (F0 m (pc + 4) ls rest)) : W p l e R s m args below meth c H locs cells slots Q (F0 m pc ls (.long (lI y) :: .long (lI x) :: rest)) := W.lcmp hx hb hd0 (by
  rw [lI_cmp h1 h2]
  refine zv_if_gt hx hb hd ht (by split <;> (try split) <;> omega) (fun q => kt ?_) (fun q => kf ?_)
  · revert q
    split <;> (try split) <;> intro q <;> omega
  · revert q
    split <;> (try split) <;> intro q <;> omega)
theorem zv_icmp_le (hx : p.tables.exec = Jvm.exec) (hb : c.code = cc) {x y : Int} {off : Int} {tgt : Nat} (hd : decode cc pc = .ok (.if_icmp .le off, 3)) (ht : (pc : Int) + off = (tgt : Int)) (h1 : -2147483648 ≤ x ∧ x ≤ 2147483647) (h2 : -2147483648 ≤ y ∧ y ≤ 2147483647) (kt : x ≤ y → W p l e R s m args below meth c H locs cells slots Q (F0 m tgt ls rest)) (kf : y < x → W p l e R s m args below meth c H locs cells slots Q (F0 m (pc + 3) ls rest)) : W p l e R s m args below meth c H locs cells slots Q (F0 m pc ls (.int (iI y) :: .int (iI x) :: rest)) := lv_icmp_le hx hb hd ht (fun q => kt ((iI_le h1 h2).mp q)) (fun q => kf (by have := mt (iI_le h1 h2).mpr q; omega))
theorem zv_if_le (hx : p.tables.exec = Jvm.exec) (hb : c.code = cc) {x : Int} {off : Int} {tgt : Nat} (hd : decode cc pc = .ok (.ifCond .le off, 3)) (ht : (pc : Int) + off = (tgt : Int)) (h1 : -2147483648 ≤ x ∧ x ≤ 2147483647) (kt : x ≤ 0 → W p l e R s m args below meth c H locs cells slots Q (F0 m tgt ls rest)) (kf : 0 < x → W p l e R s m args below meth c H locs cells slots Q (F0 m (pc + 3) ls rest)) : W p l e R s m args below meth c H locs cells slots Q (F0 m pc ls (.int (iI x) :: rest)) := by
  have h2 : -2147483648 ≤ (0 : Int) ∧ (0 : Int) ≤ 2147483647 := by omega
  refine lv_if_le hx hb hd ht ?_ ?_
  · rw [← iI_0]
    exact (fun q => kt ((iI_le h1 h2).mp q))
  · rw [← iI_0]
    exact (fun q => kf (by have := mt (iI_le h1 h2).mpr q; omega))
theorem zv_lcmp_le (hx : p.tables.exec = Jvm.exec) (hb : c.code = cc) {x y : Int} {off : Int} {tgt : Nat} (hd0 : decode cc pc = .ok (.lcmp, 1)) (hd : decode cc (pc + 1) = .ok (.ifCond .le off, 3)) (ht : ((pc + 1 : Nat) : Int) + off = (tgt : Int)) (h1 : -9223372036854775808 ≤ x ∧ x ≤ 9223372036854775807) (h2 : -9223372036854775808 ≤ y ∧ y ≤ 9223372036854775807) (kt : x ≤ y → W p l e R s m args below meth c H locs cells slots Q (F0 m tgt ls rest)) (kf : y < x → W p l e R s m args below meth c H locs cells slots Q (F0 m (pc + 4) ls rest)) : W p l e R s m args below meth c H locs cells slots Q (F0 m pc ls (.long (lI y) :: .long (lI x) :: rest)) := W.lcmp hx hb hd0 (by
  rw [lI_cmp h1 h2]
  refine zv_if_le hx hb hd ht (by split <;> (try split) <;> omega) (fun q => kt ?_) (fun q => kf ?_)
  · revert q
    split <;> (try split) <;> intro q <;> omega
  · revert q
    split <;> (try split) <;> intro q <;> omega)
theorem zv_iald (hx : p.tables.exec = Jvm.exec) (hb : c.code = cc) (hK : va_K D cl tys s) (hP : va_P D cl ws H) (q0 t0 : Nat) {cA : ClassId} {n : Nat} {g : Nat → Int} (ha : ws[q0]? = some (a, .inl (cA, n, .inl (fun k => iI (g k))))) (ht : tys[t0]? = some (cA, .int)) {x : Int} (h : 0 ≤ x ∧ x < n) (hn : n < 2147483648) (hd : decode cc pc = .ok (.iaload, 1))
    (kk : ∀ z : Int, z = g x.toNat → W p l e R s m args below meth c H locs cells slots Q (F0 m (pc + 1) ls (.int (iI z) :: rest))) : W p l e R s m args below meth c H locs cells slots Q (F0 m pc ls (.int (iI x) :: .ref a :: rest)) := va_iald hx hb hK hP q0 t0 ha ht (iI_in h.1 h.2 hn) hd (by
  rw [iI_clamp h.1 (by omega)]
  exact kk _ rfl)
theorem zv_lald (hx : p.tables.exec = Jvm.exec) (hb : c.code = cc) (hK : va_K D cl tys s) (hP : va_P D cl ws H) (q0 t0 : Nat) {cA : ClassId} {n : Nat} {g : Nat → Int} (ha : ws[q0]? = some (a, .inl (cA, n, .inr (.inl (fun k => lI (g k)))))) (ht : tys[t0]? = some (cA, .long)) {x : Int} (h : 0 ≤ x ∧ x < n) (hn : n < 2147483648) (hd : decode cc pc = .ok (.laload, 1))
    (kk : ∀ z : Int, z = g x.toNat → W p l e R s m args below meth c H locs cells slots Q (F0 m (pc + 1) ls (.long (lI z) :: rest))) : W p l e R s m args below meth c H locs cells slots Q (F0 m pc ls (.int (iI x) :: .ref a :: rest)) := va_lald hx hb hK hP q0 t0 ha ht (iI_in h.1 h.2 hn) hd (by
  rw [iI_clamp h.1 (by omega)]
  exact kk _ rfl)
theorem zv_bald (hx : p.tables.exec = Jvm.exec) (hb : c.code = cc) (hK : va_K D cl tys s) (hP : va_P D cl ws H) (q0 t0 : Nat) {cA : ClassId} {n : Nat} {f : Nat → Int32} (ha : ws[q0]? = some (a, .inl (cA, n, .inl f))) (ht : tys[t0]? = some (cA, .byte)) {x : Int} (h : 0 ≤ x ∧ x < n) (hn : n < 2147483648) (hd : decode cc pc = .ok (.baload, 1))
    (kk : ∀ z : Int, f x.toNat = iI z → -2147483648 ≤ z → z ≤ 2147483647 → W p l e R s m args below meth c H locs cells slots Q (F0 m (pc + 1) ls (.int (iI z) :: rest))) : W p l e R s m args below meth c H locs cells slots Q (F0 m pc ls (.int (iI x) :: .ref a :: rest)) := va_bald hx hb hK hP q0 t0 ha ht (iI_in h.1 h.2 hn) hd (by
  rw [iI_clamp h.1 (by omega)]
  obtain ⟨z, e1, h1, h2⟩ := iI_of (f x.toNat)
  rw [e1]
  exact kk z e1 h1 h2)
theorem zv_iast (hx : p.tables.exec = Jvm.exec) (hb : c.code = cc) (hK : va_K D cl tys s) (hP : va_P D cl ws H) (hD : va_D A ws) (hS : va_S A H0 H locs) (q0 t0 : Nat) {cA : ClassId} {n : Nat} {g : Nat → Int} (ha : ws[q0]? = some (a, .inl (cA, n, .inl (fun k => iI (g k))))) (ht : tys[t0]? = some (cA, .int)) {x v : Int} (h : 0 ≤ x ∧ x < n) (hn : n < 2147483648) (hd : decode cc pc = .ok (.iastore, 1))
    (kk : ∀ (g1 : Nat → Int) (H1 : Heap) (locs1 : List Loc), g1 = zup g x.toNat v → va_P D cl (ws.set q0 (a, .inl (cA, n, .inl (fun k => iI (g1 k))))) H1 → va_D A (ws.set q0 (a, .inl (cA, n, .inl (fun k => iI (g1 k))))) → va_S A H0 H1 locs1 → W p l e R s m args below meth c H1 locs1 cells slots Q (F0 m (pc + 1) ls rest)) : W p l e R s m args below meth c H locs cells slots Q (F0 m pc ls (.int (iI v) :: .int (iI x) :: .ref a :: rest)) := va_iast hx hb hK hP hD hS q0 t0 ha ht (iI_in h.1 h.2 hn) hd (by
  rw [iI_clamp h.1 (by omega), zup_i]
  exact fun H1 l1 => kk _ H1 l1 rfl)
theorem zv_last (hx : p.tables.exec = Jvm.exec) (hb : c.code = cc) (hK : va_K D cl tys s) (hP : va_P D cl ws H) (hD : va_D A ws) (hS : va_S A H0 H locs) (q0 t0 : Nat) {cA : ClassId} {n : Nat} {g : Nat → Int} (ha : ws[q0]? = some (a, .inl (cA, n, .inr (.inl (fun k => lI (g k)))))) (ht : tys[t0]? = some (cA, .long)) {x v : Int} (h : 0 ≤ x ∧ x < n) (hn : n < 2147483648) (hd : decode cc pc = .ok (.lastore, 1))
    (kk : ∀ (g1 : Nat → Int) (H1 : Heap) (locs1 : List Loc), g1 = zup g x.toNat v → va_P D cl (ws.set q0 (a, .inl (cA, n, .inr (.inl (fun k => lI (g1 k)))))) H1 → va_D A (ws.set q0 (a, .inl (cA, n, .inr (.inl (fun k => lI (g1 k)))))) → va_S A H0 H1 locs1 → W p l e R s m args below meth c H1 locs1 cells slots Q (F0 m (pc + 1) ls rest)) : W p l e R s m args below meth c H locs cells slots Q (F0 m pc ls (.long (lI v) :: .int (iI x) :: .ref a :: rest)) := va_last hx hb hK hP hD hS q0 t0 ha ht (iI_in h.1 h.2 hn) hd (by
  rw [iI_clamp h.1 (by omega), zup_l]
  exact fun H1 l1 => kk _ H1 l1 rfl)
theorem zv_bast (hx : p.tables.exec = Jvm.exec) (hb : c.code = cc) (hK : va_K D cl tys s) (hP : va_P D cl ws H) (hD : va_D A ws) (hS : va_S A H0 H locs) (q0 t0 : Nat) {cA : ClassId} {n : Nat} {f : Nat → Int32} (ha : ws[q0]? = some (a, .inl (cA, n, .inl f))) (ht : tys[t0]? = some (cA, .byte)) {x : Int} {v : Int32} (h : 0 ≤ x ∧ x < n) (hn : n < 2147483648) (hd : decode cc pc = .ok (.bastore, 1))
    (kk : ∀ (g1 : Nat → Int32) (H1 : Heap) (locs1 : List Loc), g1 = upd f x.toNat (vp_nar .byte v) → va_P D cl (ws.set q0 (a, .inl (cA, n, .inl g1))) H1 → va_D A (ws.set q0 (a, .inl (cA, n, .inl g1))) → va_S A H0 H1 locs1 → W p l e R s m args below meth c H1 locs1 cells slots Q (F0 m (pc + 1) ls rest)) : W p l e R s m args below meth c H locs cells slots Q (F0 m pc ls (.int v :: .int (iI x) :: .ref a :: rest)) := va_bast hx hb hK hP hD hS q0 t0 ha ht (iI_in h.1 h.2 hn) hd (by
  rw [iI_clamp h.1 (by omega)]
  exact fun H1 l1 => kk _ H1 l1 rfl)
theorem zv_iald0 (hx : p.tables.exec = Jvm.exec) (hb : c.code = cc) (hK : va_K D cl tys s) (hP : va_P D cl ws H) (q0 t0 : Nat) {cA : ClassId} {n : Nat} {f : Nat → Int32} (ha : ws[q0]? = some (a, .inl (cA, n, .inl f))) (ht : tys[t0]? = some (cA, .int)) {x : Int} (h : 0 ≤ x ∧ x < n) (hn : n < 2147483648) (hd : decode cc pc = .ok (.iaload, 1))
    (kk : ∀ z : Int, f x.toNat = iI z → -2147483648 ≤ z → z ≤ 2147483647 → W p l e R s m args below meth c H locs cells slots Q (F0 m (pc + 1) ls (.int (iI z) :: rest))) : W p l e R s m args below meth c H locs cells slots Q (F0 m pc ls (.int (iI x) :: .ref a :: rest)) := va_iald hx hb hK hP q0 t0 ha ht (iI_in h.1 h.2 hn) hd (by
  rw [iI_clamp h.1 (by omega)]
  obtain ⟨z, e1, h1, h2⟩ := iI_of (f x.toNat)
  rw [e1]
  exact kk z e1 h1 h2)
theorem zv_lald0 (hx : p.tables.exec = Jvm.exec) (hb : c.code = cc) (hK : va_K D cl tys s) (hP : va_P D cl ws H) (q0 t0 : Nat) {cA : ClassId} {n : Nat} {f : Nat → Int64} (ha : ws[q0]? = some (a, .inl (cA, n, .inr (.inl f)))) (ht : tys[t0]? = some (cA, .long)) {x : Int} (h : 0 ≤ x ∧ x < n) (hn : n < 2147483648) (hd : decode cc pc = .ok (.laload, 1))
    (kk : ∀ z : Int, f x.toNat = lI z → -9223372036854775808 ≤ z → z ≤ 9223372036854775807 → W p l e R s m args below meth c H locs cells slots Q (F0 m (pc + 1) ls (.long (lI z) :: rest))) : W p l e R s m args below meth c H locs cells slots Q (F0 m pc ls (.int (iI x) :: .ref a :: rest)) := va_lald hx hb hK hP q0 t0 ha ht (iI_in h.1 h.2 hn) hd (by
  rw [iI_clamp h.1 (by omega)]
  obtain ⟨z, e1, h1, h2⟩ := lI_of (f x.toNat)
  rw [e1]
  exact kk z e1 h1 h2)
theorem zv_iast0 (hx : p.tables.exec = Jvm.exec) (hb : c.code = cc) (hK : va_K D cl tys s) (hP : va_P D cl ws H) (hD : va_D A ws) (hS : va_S A H0 H locs) (q0 t0 : Nat) {cA : ClassId} {n : Nat} {f : Nat → Int32} (ha : ws[q0]? = some (a, .inl (cA, n, .inl f))) (ht : tys[t0]? = some (cA, .int)) {x : Int} {v : Int32} (h : 0 ≤ x ∧ x < n) (hn : n < 2147483648) (hd : decode cc pc = .ok (.iastore, 1))
    (kk : ∀ (g1 : Nat → Int32) (H1 : Heap) (locs1 : List Loc), g1 = upd f x.toNat v → va_P D cl (ws.set q0 (a, .inl (cA, n, .inl g1))) H1 → va_D A (ws.set q0 (a, .inl (cA, n, .inl g1))) → va_S A H0 H1 locs1 → W p l e R s m args below meth c H1 locs1 cells slots Q (F0 m (pc + 1) ls rest)) : W p l e R s m args below meth c H locs cells slots Q (F0 m pc ls (.int v :: .int (iI x) :: .ref a :: rest)) := va_iast hx hb hK hP hD hS q0 t0 ha ht (iI_in h.1 h.2 hn) hd (by
  rw [iI_clamp h.1 (by omega)]
  exact fun H1 l1 => kk _ H1 l1 rfl)
theorem zv_last0 (hx : p.tables.exec = Jvm.exec) (hb : c.code = cc) (hK : va_K D cl tys s) (hP : va_P D cl ws H) (hD : va_D A ws) (hS : va_S A H0 H locs) (q0 t0 : Nat) {cA : ClassId} {n : Nat} {f : Nat → Int64} (ha : ws[q0]? = some (a, .inl (cA, n, .inr (.inl f)))) (ht : tys[t0]? = some (cA, .long)) {x : Int} {v : Int64} (h : 0 ≤ x ∧ x < n) (hn : n < 2147483648) (hd : decode cc pc = .ok (.lastore, 1))
    (kk : ∀ (g1 : Nat → Int64) (H1 : Heap) (locs1 : List Loc), g1 = vp_updL f x.toNat v → va_P D cl (ws.set q0 (a, .inl (cA, n, .inr (.inl g1)))) H1 → va_D A (ws.set q0 (a, .inl (cA, n, .inr (.inl g1)))) → va_S A H0 H1 locs1 → W p l e R s m args below meth c H1 locs1 cells slots Q (F0 m (pc + 1) ls rest)) : W p l e R s m args below meth c H locs cells slots Q (F0 m pc ls (.long v :: .int (iI x) :: .ref a :: rest)) := va_last hx hb hK hP hD hS q0 t0 ha ht (iI_in h.1 h.2 hn) hd (by
  rw [iI_clamp h.1 (by omega)]
  exact fun H1 l1 => kk _ H1 l1 rfl)
theorem zv_iorA (hx : p.tables.exec = Jvm.exec) (hb : c.code = cc) {x y y0 z : Int} (n : Nat) (hd : decode cc pc = .ok (.ior, 1)) (h1 : 0 ≤ x ∧ x < 2 ^ n) (h2 : 0 ≤ y0) (h3 : y0 * 2 ^ n = y) (hz : x + y = z) (h4 : z ≤ 2147483647) (k : W p l e R s m args below meth c H locs cells slots Q (F0 m (pc + 1) ls (.int (iI z) :: rest))) : W p l e R s m args below meth c H locs cells slots Q (F0 m pc ls (.int (iI y) :: .int (iI x) :: rest)) := lv_ior hx hb hd (by rw [← h3, iI_orA n h1 h2 (by rw [h3, hz]; exact h4), h3, hz]; exact k)
theorem zv_lorA (hx : p.tables.exec = Jvm.exec) (hb : c.code = cc) {x y y0 z : Int} (n : Nat) (hd : decode cc pc = .ok (.lor, 1)) (h1 : 0 ≤ x ∧ x < 2 ^ n) (h2 : 0 ≤ y0) (h3 : y0 * 2 ^ n = y) (hz : x + y = z) (h4 : z ≤ 9223372036854775807) (k : W p l e R s m args below meth c H locs cells slots Q (F0 m (pc + 1) ls (.long (lI z) :: rest))) : W p l e R s m args below meth c H locs cells slots Q (F0 m pc ls (.long (lI y) :: .long (lI x) :: rest)) := lv_lor hx hb hd (by rw [← h3, lI_orA n h1 h2 (by rw [h3, hz]; exact h4), h3, hz]; exact k)
theorem zv_byte (hx : p.tables.exec = Jvm.exec) (hb : c.code = cc) {v : Int32} {f : Nat → Int32} {k : Int} (hd : decode cc pc = .ok (.iand, 1)) (hv : f k.toNat = v) (kk : ∀ z : Int, z = zB1 f k → 0 ≤ z → z ≤ 255 → W p l e R s m args below meth c H locs cells slots Q (F0 m (pc + 1) ls (.int (iI z) :: rest))) : W p l e R s m args below meth c H locs cells slots Q (F0 m pc ls (.int (iI 255) :: .int v :: rest)) := lv_iand hx hb hd (by
  rw [← hv, zB1_eq]
  exact kk _ rfl (zB1_b f k).1 (zB1_b f k).2)
theorem zv_ior0 (hx : p.tables.exec = Jvm.exec) (hb : c.code = cc) {v : Int32} (hd : decode cc pc = .ok (.ior, 1)) (k : W p l e R s m args below meth c H locs cells slots Q (F0 m (pc + 1) ls (.int v :: rest))) : W p l e R s m args below meth c H locs cells slots Q (F0 m pc ls (.int (iI 0) :: .int v :: rest)) := lv_ior hx hb hd (by rw [iI_or0]; exact k)
theorem zv_ishlV (hx : p.tables.exec = Jvm.exec) (hb : c.code = cc) {x k : Int} (hd : decode cc pc = .ok (.ishl, 1)) (hk : 0 ≤ k ∧ k < 32) (kk : W p l e R s m args below meth c H locs cells slots Q (F0 m (pc + 1) ls (.int (iI (x * zp k)) :: rest))) : W p l e R s m args below meth c H locs cells slots Q (F0 m pc ls (.int (iI k) :: .int (iI x) :: rest)) := lv_ishl hx hb hd (by rw [iI_shlV hk]; exact kk)
theorem zv_eqI {x y : Int} (h : x = y) (k : W p l e R s m args below meth c H locs cells slots Q (F0 m pc ls (.int (iI y) :: rest))) : W p l e R s m args below meth c H locs cells slots Q (F0 m pc ls (.int (iI x) :: rest)) := by rw [h]; exact k
theorem zv_bitor (hx : p.tables.exec = Jvm.exec) (hb : c.code = cc) {k z v : Int} (hd : decode cc pc = .ok (.ishl, 1)) (hd2 : decode cc (pc + 1) = .ok (.ior, 1)) (hk : 0 ≤ k ∧ k ≤ 30) (hz : 0 ≤ z ∧ z ≤ 1) (hv : 0 ≤ v ∧ v < zp k) (kk : ∀ y : Int, 0 ≤ y → y < zp (k + 1) → W p l e R s m args below meth c H locs cells slots Q (F0 m (pc + 2) ls (.int (iI y) :: rest))) : W p l e R s m args below meth c H locs cells slots Q (F0 m pc ls (.int (iI k) :: .int (iI z) :: .int (iI v) :: rest)) := lv_ishl hx hb hd (lv_ior hx hb hd2 (by
  obtain ⟨y, e1, h1, h2⟩ := iI_bitor hk hz hv
  rw [e1]
  exact kk y h1 h2))
end ZV
