/-! how full a set of codes is; the next symbol -/
def zkf (d : Nat → Nat) (n : Nat) : Nat → Nat
  | 0 => 0
  | m + 1 => zkf d n m + if m = 0 then 0 else zcn d n m * 2 ^ (15 - m)
theorem zkf_le (d : Nat → Nat) (n : Nat) : ∀ m, zkf d n m ≤ zst d n m * 2 ^ 14
  | 0 => by simp [zkf, zst]
  | m + 1 => by
    have ih := zkf_le d n m
    simp only [zkf, zst]
    by_cases h : m = 0
    · simp only [h, if_true]
      subst h
      omega
    · simp only [h, if_false]
      have h2 : zcn d n m * 2 ^ (15 - m) ≤ zcn d n m * 2 ^ 14 := Nat.mul_le_mul_left _ (zpow_le (by omega))
      omega
def zFull (d : Nat → Nat) (n : Nat) : Prop := zkf d n 16 = 32768
theorem zcnS {n k : Nat} (d : Nat → Nat) (hn : n ≤ 320) : zcn d n k * 2 ^ (15 - k) < 2 ^ 32 := by
  have h1 := zcn_le d k n
  have h2 : zcn d n k * 2 ^ (15 - k) ≤ 320 * 2 ^ 15 := Nat.mul_le_mul (by omega) (zpow_le (by omega))
  omega
/-- the symbol whose code comes next (or why there is none), and where the reader stands then -/
def znx (f : Nat → Int32) (d : Nat → Nat) (n : Nat) (g3 : Nat → Int32) (bh : Nat) : Nat → Nat → Nat → Nat → Nat → Nat → Int32 × Nat
  | 0, _, pos, _, _, _ => (-34, pos)
  | j + 1, k, pos, code, fi, sh =>
    if 8 * bh < pos + 1 then (-30, pos)
    else if 2 * code + zbit f pos - 2 * fi < zcn d n k then (g3 (sh + (2 * code + zbit f pos - 2 * fi)), pos + 1)
    else if zst d n 16 ≤ sh + zcn d n k then (-34, pos + 1)
    else znx f d n g3 bh j (k + 1) (pos + 1) (2 * code + zbit f pos) (2 * fi + zcn d n k) (sh + zcn d n k)
theorem zbits_1 (f : Nat → Int32) (p : Nat) : zbits f p 1 = zbit f p := by simp [zbits]
theorem zbit_lt (f : Nat → Int32) (p : Nat) : zbit f p < 2 := Nat.mod_lt _ (by decide)
