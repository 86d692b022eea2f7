/-! bits of a row of bytes, each byte from the lowest on -/
theorem zsm : ∀ n, n < 32 → ((nI n &&& 31).toBitVec.smod 32).toNat = n := by decide +kernel
theorem zorN (a b : Nat) : nI a ||| nI b = nI (a ||| b) := by
  apply Int32.toBitVec_inj.1
  show BitVec.ofNat 32 a ||| BitVec.ofNat 32 b = BitVec.ofNat 32 (a ||| b)
  apply BitVec.eq_of_getLsbD_eq
  intro i hi
  simp [hi]
theorem zor_add {v g b : Nat} (h : v < 2 ^ g) : nI v ||| nI (b * 2 ^ g) = nI (v + b * 2 ^ g) := by
  rw [zorN]
  congr 1
  rw [Nat.or_comm, ← Nat.shiftLeft_eq, ← Nat.shiftLeft_add_eq_or_of_lt h]
  omega
theorem zshl {n k : Nat} (hk : k < 32) (h : n * 2 ^ k < 2 ^ 32) : nI n <<< (nI k &&& 31) = nI (n * 2 ^ k) := pk_shlN _ k (zsm k hk) h
theorem zshr {n k : Nat} (hk : k < 32) (h : n < 2 ^ 31) : nI n >>> (nI k &&& 31) = nI (n / 2 ^ k) := pk_shrN h _ k (zsm k hk)
theorem zand {n k : Nat} (hk : k < 32) (h : n < 2 ^ 32) : nI n &&& nI (2 ^ k - 1) = nI (n % 2 ^ k) := by
  have h2 : 2 ^ k ≤ 2 ^ 31 := Nat.pow_le_pow_right (by decide) (by omega)
  exact pk_andN h k (pk_tn (by omega))
def zbit (f : Nat → Int32) (p : Nat) : Nat := zb f (p / 8) / 2 ^ (p % 8) % 2
def zbits (f : Nat → Int32) (p : Nat) : Nat → Nat
  | 0 => 0
  | n + 1 => zbits f p n + zbit f (p + n) * 2 ^ n
theorem zbits_lt (f : Nat → Int32) (p : Nat) : ∀ n, zbits f p n < 2 ^ n
  | 0 => by simp [zbits]
  | n + 1 => by
    have h := zbits_lt f p n
    have h2 : zbit f (p + n) < 2 := Nat.mod_lt _ (by decide)
    simp only [zbits, Nat.pow_succ]
    have h3 : zbit f (p + n) * 2 ^ n ≤ 1 * 2 ^ n := Nat.mul_le_mul_right _ (by omega)
    omega
theorem zbits_add (f : Nat → Int32) (p a : Nat) : ∀ b, zbits f p (a + b) = zbits f p a + zbits f (p + a) b * 2 ^ a
  | 0 => by simp [zbits]
  | b + 1 => by
    have ih := zbits_add f p a b
    rw [← Nat.add_assoc]
    simp only [zbits]
    rw [ih, Nat.add_mul, Nat.mul_assoc, ← Nat.pow_add, Nat.add_comm b a, ← Nat.add_assoc p a b]
    omega
theorem zbits_byte (f : Nat → Int32) (a u : Nat) : ∀ n, u + n ≤ 8 → zbits f (8 * a + u) n = zb f a / 2 ^ u % 2 ^ n
  | 0, _ => by simp [zbits, Nat.mod_one]
  | n + 1, h => by
    have ih := zbits_byte f a u n (by omega)
    simp only [zbits, zbit]
    rw [ih, show (8 * a + u + n) / 8 = a by omega, show (8 * a + u + n) % 8 = u + n by omega, Nat.mod_pow_succ, Nat.pow_add, ← Nat.div_div_eq_div_mul, Nat.mul_comm]
theorem zpow_le {a b : Nat} (h : a ≤ b) : 2 ^ a ≤ 2 ^ b := Nat.pow_le_pow_right (by decide) h
/-- one step of the reader: q bits of the byte a, from its bit u on, behind g bits -/
theorem zstep (f : Nat → Int32) {p0 g a u q : Nat} (hp : p0 + g = 8 * a + u) (hq : u + q ≤ 8) (hg : g + q ≤ 16) :
    nI (zbits f p0 g) ||| (nI (zb f a / 2 ^ u % 2 ^ q) <<< (nI g &&& 31)) = nI (zbits f p0 (g + q)) := by
  have h1 := zbits_lt f p0 g
  have h2 : zb f a / 2 ^ u % 2 ^ q < 2 ^ q := Nat.mod_lt _ (Nat.two_pow_pos q)
  have h3 : zb f a / 2 ^ u % 2 ^ q * 2 ^ g < 2 ^ q * 2 ^ g := Nat.mul_lt_mul_of_pos_right h2 (Nat.two_pow_pos g)
  rw [← Nat.pow_add] at h3
  have h4 := zpow_le (a := q + g) (b := 16) (by omega)
  rw [zshl (by omega) (by omega), zor_add h1, zbits_add, hp, zbits_byte f a u q hq]
