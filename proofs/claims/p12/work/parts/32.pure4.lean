/-! symbols by rank; the tables as numbers; a length and a distance -/
theorem zcn_ex (d : Nat → Nat) (l : Nat) : ∀ n r, r < zcn d n l → ∃ i, i < n ∧ d i = l ∧ zcn d i l = r
  | 0, r, h => by simp [zcn] at h
  | n + 1, r, h => by
    by_cases hr : r < zcn d n l
    · obtain ⟨i, h1, h2⟩ := zcn_ex d l n r hr
      exact ⟨i, by omega, h2⟩
    · simp only [zcn] at h
      by_cases hd : d n = l
      · simp only [hd, if_true] at h
        exact ⟨n, by omega, hd, by omega⟩
      · simp only [hd, if_false] at h
        omega
theorem znx_val {f : Nat → Int32} {d : Nat → Nat} {n : Nat} {g3 : Nat → Int32} {bh : Nat} (hg : ∀ i, i < n → 1 ≤ d i → g3 (zst d n (d i) + zcn d i (d i)) = nI i) : ∀ (j k pos code fi sh : Nat), 1 ≤ k → sh = zst d n k →
    ((znx f d n g3 bh j k pos code fi sh).1 = -30 ∨ (znx f d n g3 bh j k pos code fi sh).1 = -34 ∨ ∃ i, i < n ∧ (znx f d n g3 bh j k pos code fi sh).1 = nI i) ∧ (pos ≤ 8 * bh → (znx f d n g3 bh j k pos code fi sh).2 ≤ 8 * bh)
  | 0, k, pos, code, fi, sh, _, _ => ⟨Or.inr (Or.inl rfl), fun h => h⟩
  | j + 1, k, pos, code, fi, sh, hk, hs => by
    unfold znx
    by_cases h1 : 8 * bh < pos + 1
    · rw [if_pos h1]; exact ⟨Or.inl rfl, fun h => h⟩
    · rw [if_neg h1]
      by_cases h2 : 2 * code + zbit f pos - 2 * fi < zcn d n k
      · rw [if_pos h2]
        obtain ⟨i, hi, hd, hr⟩ := zcn_ex d k n _ h2
        refine ⟨Or.inr (Or.inr ⟨i, hi, ?_⟩), fun _ => by show pos + 1 ≤ 8 * bh; omega⟩
        show g3 (sh + (2 * code + zbit f pos - 2 * fi)) = nI i
        rw [← hr, hs, ← hg i hi (by omega), hd]
      · rw [if_neg h2]
        by_cases h3 : zst d n 16 ≤ sh + zcn d n k
        · rw [if_pos h3]; exact ⟨Or.inr (Or.inl rfl), fun _ => by show pos + 1 ≤ 8 * bh; omega⟩
        · rw [if_neg h3]
          have h4 := znx_val (f := f) (bh := bh) hg j (k + 1) (pos + 1) (2 * code + zbit f pos) (2 * fi + zcn d n k) (sh + zcn d n k) (by omega) (by rw [hs]; simp only [zst]; rw [if_neg (by omega)])
          exact ⟨h4.1, fun _ => h4.2 (by omega)⟩
def zN (t : List Int32) (i : Nat) : Nat := (t.getD i 0).toNatClampNeg
theorem zN_1 : ∀ i, i < 19 → ztab_1.getD i 0 = nI (zN ztab_1 i) ∧ zN ztab_1 i < 19 := by decide +kernel
theorem zN_2 : ∀ i, i < 29 → ztab_2.getD i 0 = nI (zN ztab_2 i) ∧ zN ztab_2 i ≤ 258 := by decide +kernel
theorem zN_3 : ∀ i, i < 29 → ztab_3.getD i 0 = nI (zN ztab_3 i) ∧ zN ztab_3 i ≤ 5 := by decide +kernel
theorem zN_4 : ∀ i, i < 30 → ztab_4.getD i 0 = nI (zN ztab_4 i) ∧ 1 ≤ zN ztab_4 i ∧ zN ztab_4 i ≤ 24577 := by decide +kernel
theorem zN_5 : ∀ i, i < 30 → ztab_5.getD i 0 = nI (zN ztab_5 i) ∧ zN ztab_5 i ≤ 13 := by decide +kernel
/-- behind the length: the distance's symbol x -/
def zagn2 (f : Nat → Int32) (bh bu ra pk : Nat) (zz : Int64) (c ln : Nat) (x : Int32 × Nat) (o : zO) : Int32 × Nat × zO :=
  if x.1 < 0 then (x.1, x.2, o)
  else if 30 ≤ x.1.toNatClampNeg then (-35, x.2, o)
  else if 8 * bh < x.2 + zN ztab_5 x.1.toNatClampNeg then (-30, x.2, o)
  else ((zwr bu ra pk zz c ln (zN ztab_4 x.1.toNatClampNeg + zbits f x.2 (zN ztab_5 x.1.toNatClampNeg)) o).1, x.2 + zN ztab_5 x.1.toNatClampNeg, (zwr bu ra pk zz c ln (zN ztab_4 x.1.toNatClampNeg + zbits f x.2 (zN ztab_5 x.1.toNatClampNeg)) o).2)
def zagn (f : Nat → Int32) (bh bu ra pk : Nat) (zz : Int64) (d : Nat → Nat) (n : Nat) (g3 : Nat → Int32) (c y q : Nat) (o : zO) : Int32 × Nat × zO :=
  if 29 ≤ y - 257 then (-35, q, o)
  else if 8 * bh < q + zN ztab_3 (y - 257) then (-30, q, o)
  else zagn2 f bh bu ra pk zz c (zN ztab_2 (y - 257) + zbits f q (zN ztab_3 (y - 257))) (znx f d n g3 bh 15 1 (q + zN ztab_3 (y - 257)) 0 0 0) o
