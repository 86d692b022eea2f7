/-! pure rows: filling, counting -/
def zfill (f : Nat → Int32) (v : Int32) (a k : Nat) : Nat → Int32 := fun i => if a ≤ i ∧ i < k then v else f i
theorem zfill_0 (f : Nat → Int32) (v : Int32) (a : Nat) : zfill f v a a = f := by
  funext i
  unfold zfill
  rw [if_neg (by omega)]
theorem zfill_s (f : Nat → Int32) (v : Int32) {a k : Nat} (h : a ≤ k) : upd (zfill f v a k) k v = zfill f v a (k + 1) := by
  funext i
  by_cases hi : i = k
  · subst hi
    rw [pk_us]
    unfold zfill
    rw [if_pos (by omega)]
  · rw [pk_un hi]
    unfold zfill
    by_cases h1 : a ≤ i ∧ i < k
    · rw [if_pos h1, if_pos (by omega)]
    · rw [if_neg h1, if_neg (by omega)]
/-- how many of the first j have the length l -/
def zcn (d : Nat → Nat) : Nat → Nat → Nat
  | 0, _ => 0
  | j + 1, l => zcn d j l + if d j = l then 1 else 0
/-- how many of the first n have a length from 1 to below m -/
def zst (d : Nat → Nat) (n : Nat) : Nat → Nat
  | 0 => 0
  | m + 1 => zst d n m + if m = 0 then 0 else zcn d n m
theorem zst_s (d : Nat → Nat) (n : Nat) : ∀ m, zst d (n + 1) m = zst d n m + if 1 ≤ d n ∧ d n < m then 1 else 0
  | 0 => by simp [zst]
  | m + 1 => by
    have ih := zst_s d n m
    simp only [zst, zcn]
    rw [ih]
    by_cases h0 : m = 0
    · subst h0
      simp
      omega
    · simp only [h0, if_false]
      split <;> split <;> split <;> omega
theorem zst_0 (d : Nat → Nat) : ∀ m, zst d 0 m = 0
  | 0 => rfl
  | m + 1 => by simp [zst, zcn, zst_0 d m]
theorem zst_le (d : Nat → Nat) (m : Nat) : ∀ n, zst d n m ≤ n
  | 0 => by rw [zst_0]; exact Nat.le_refl _
  | n + 1 => by
    have h := zst_le d m n
    rw [zst_s]
    split <;> omega
theorem zcn_mono (d : Nat → Nat) (l : Nat) {j : Nat} : ∀ {n}, j ≤ n → zcn d j l ≤ zcn d n l
  | 0, h => by
    have : j = 0 := by omega
    subst this; exact Nat.le_refl _
  | n + 1, h => by
    by_cases hj : j = n + 1
    · subst hj; exact Nat.le_refl _
    · have := zcn_mono d l (n := n) (j := j) (by omega)
      simp only [zcn]
      omega
theorem zcn_lt (d : Nat → Nat) {k n : Nat} (h : k < n) : zcn d k (d k) < zcn d n (d k) := by
  have h1 := zcn_mono d (d k) (j := k + 1) (n := n) (by omega)
  simp only [zcn, if_true] at h1
  omega
theorem zst_up (d : Nat → Nat) (n : Nat) {l : Nat} (h1 : 1 ≤ l) : ∀ {m}, l < m → zst d n l + zcn d n l ≤ zst d n m
  | 0, h => by omega
  | m + 1, h => by
    by_cases hm : l = m
    · subst hm
      simp only [zst]
      rw [if_neg (by omega)]
      exact Nat.le_refl _
    · have := zst_up d n h1 (m := m) (by omega)
      simp only [zst]
      omega
/-- a place in the row of symbols is in the row -/
theorem zst_in (d : Nat → Nat) {k n : Nat} (h : k < n) (h1 : 1 ≤ d k) (h2 : d k ≤ 15) : zst d n (d k) + zcn d k (d k) < n := by
  have a := zcn_lt d h
  have b := zst_up d n h1 (m := 16) (by omega)
  have e := zst_le d 16 n
  omega
theorem zcn_le (d : Nat → Nat) (l : Nat) : ∀ n, zcn d n l ≤ n
  | 0 => Nat.le_refl _
  | n + 1 => by
    have := zcn_le d l n
    simp only [zcn]
    split <;> omega
theorem zupd_eq {f : Nat → Int32} {i : Nat} {v : Int32} {g : Nat → Int32} (h : g i = v) (hn : ∀ j, j ≠ i → g j = f j) : upd f i v = g := by
  funext j
  by_cases hj : j = i
  · subst hj; rw [pk_us, h]
  · rw [pk_un hj, hn j hj]
