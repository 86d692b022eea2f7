theorem zst_mono (d : Nat → Nat) (n : Nat) {a : Nat} : ∀ {b}, a ≤ b → zst d n a ≤ zst d n b
  | 0, h => by
    have : a = 0 := by omega
    subst this; exact Nat.le_refl _
  | b + 1, h => by
    by_cases hb : a = b + 1
    · subst hb; exact Nat.le_refl _
    · have := zst_mono d n (a := a) (b := b) (by omega)
      simp only [zst]
      omega
/-- places of different symbols differ -/
theorem zst_inj (d : Nat → Nat) {i k n : Nat} (hi : i < k) (hk : k < n) (h1 : 1 ≤ d i) (h2 : 1 ≤ d k) : zst d n (d i) + zcn d i (d i) ≠ zst d n (d k) + zcn d k (d k) := by
  by_cases he : d i = d k
  · have h3 : zcn d i (d i) < zcn d k (d i) := zcn_lt d hi
    rw [← he]
    omega
  · have hiN := zcn_lt d (k := i) (n := n) (by omega)
    have hkN := zcn_lt d (k := k) (n := n) hk
    by_cases hl : d i < d k
    · have := zst_up d n h1 (m := d k) hl
      omega
    · have := zst_up d n h2 (m := d i) (by omega)
      omega
