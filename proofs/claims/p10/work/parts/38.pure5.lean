/-! the symbols of a set of codes, by their lengths alone -/
def zgi (d : Nat → Nat) (n p : Nat) : Nat → Nat
  | 0 => 0
  | k + 1 => if 1 ≤ d k ∧ p = zst d n (d k) + zcn d k (d k) then k else zgi d n p k
def zGs (d : Nat → Nat) (n : Nat) : Nat → Int32 := fun p => nI (zgi d n p n)
theorem zgi_eq (d : Nat → Nat) {n i : Nat} (h1 : 1 ≤ d i) : ∀ m, m ≤ n → i < m → zgi d n (zst d n (d i) + zcn d i (d i)) m = i
  | 0, _, h => absurd h (by omega)
  | k + 1, hm, h => by
    unfold zgi
    by_cases hk : k = i
    · subst hk; rw [if_pos ⟨h1, rfl⟩]
    · rw [if_neg (fun hc => zst_inj d (i := i) (k := k) (n := n) (by omega) (by omega) h1 hc.1 hc.2)]
      exact zgi_eq d h1 k (by omega) (by omega)
theorem zGs_ok (d : Nat → Nat) (n : Nat) : ∀ i, i < n → 1 ≤ d i → zGs d n (zst d n (d i) + zcn d i (d i)) = nI i := fun i hi h1 => by
  unfold zGs
  rw [zgi_eq d h1 n (Nat.le_refl _) hi]
theorem znx_g {f : Nat → Int32} {d : Nat → Nat} {n : Nat} {g3 : Nat → Int32} {bh : Nat} (hg : ∀ i, i < n → 1 ≤ d i → g3 (zst d n (d i) + zcn d i (d i)) = nI i) : ∀ (j k pos code fi sh : Nat), 1 ≤ k → sh = zst d n k → znx f d n g3 bh j k pos code fi sh = znx f d n (zGs d n) bh j k pos code fi sh
  | 0, k, pos, code, fi, sh, _, _ => rfl
  | j + 1, k, pos, code, fi, sh, hk, hs => by
    unfold znx
    by_cases h1 : 8 * bh < pos + 1
    · rw [if_pos h1, if_pos h1]
    · rw [if_neg h1, if_neg h1]
      by_cases h2 : 2 * code + zbit f pos - 2 * fi < zcn d n k
      · rw [if_pos h2, if_pos h2]
        obtain ⟨i, hi, hd, hr⟩ := zcn_ex d k n _ h2
        have h3 := hg i hi (by omega)
        have h4 := zGs_ok d n i hi (by omega)
        rw [← hr, hs, ← hd, h3, h4]
      · rw [if_neg h2, if_neg h2]
        by_cases h3 : zst d n 16 ≤ sh + zcn d n k
        · rw [if_pos h3, if_pos h3]
        · rw [if_neg h3, if_neg h3]
          exact znx_g hg j (k + 1) (pos + 1) (2 * code + zbit f pos) (2 * fi + zcn d n k) (sh + zcn d n k) (by omega) (by rw [hs]; simp only [zst]; rw [if_neg (by omega)])
theorem znx_g0 {f : Nat → Int32} {d : Nat → Nat} {n : Nat} {g3 : Nat → Int32} {bh : Nat} (hg : ∀ i, i < n → 1 ≤ d i → g3 (zst d n (d i) + zcn d i (d i)) = nI i) (q : Nat) : znx f d n g3 bh 15 1 q 0 0 0 = znx f d n (zGs d n) bh 15 1 q 0 0 0 := znx_g hg 15 1 q 0 0 0 (by decide) (by simp [zst])
theorem zrow_g {f : Nat → Int32} {d : Nat → Nat} {n : Nat} {g3 : Nat → Int32} {bh : Nat} (hg : ∀ i, i < 19 → 1 ≤ d i → g3 (zst d 19 (d i) + zcn d i (d i)) = nI i) : ∀ (j i q : Nat) (m : Nat → Nat), zrow f bh d g3 n j i q m = zrow f bh d (zGs d 19) n j i q m
  | 0, _, _, _ => rfl
  | j + 1, i, q, m => by
    unfold zrow
    rw [znx_g0 hg q]
    rw [zrow_g hg j]
theorem zagn_g {f : Nat → Int32} {bh bu ra pk : Nat} {zz : Int64} {d : Nat → Nat} {n : Nat} {g3 : Nat → Int32} (hg : ∀ i, i < n → 1 ≤ d i → g3 (zst d n (d i) + zcn d i (d i)) = nI i) (c y q : Nat) (o : zO) : zagn f bh bu ra pk zz d n g3 c y q o = zagn f bh bu ra pk zz d n (zGs d n) c y q o := by
  unfold zagn
  rw [znx_g0 hg]
theorem zcoded_g {f : Nat → Int32} {bh bu ra pk : Nat} {zz : Int64} {d dx : Nat → Nat} {n nx : Nat} {g3 v3 : Nat → Int32} {c : Nat} (hg : ∀ i, i < n → 1 ≤ d i → g3 (zst d n (d i) + zcn d i (d i)) = nI i) (hv : ∀ i, i < nx → 1 ≤ dx i → v3 (zst dx nx (dx i) + zcn dx i (dx i)) = nI i) : ∀ (j q : Nat) (o : zO), zcoded f bh bu ra pk zz d n g3 dx nx v3 c j q o = zcoded f bh bu ra pk zz d n (zGs d n) dx nx (zGs dx nx) c j q o
  | 0, _, _ => rfl
  | j + 1, q, o => by
    have hz : ∀ x o, zone f bh bu ra pk zz dx nx v3 c x o = zone f bh bu ra pk zz dx nx (zGs dx nx) c x o := fun x o => by
      unfold zone
      rw [zagn_g hv]
    unfold zcoded
    rw [znx_g0 hg q, hz, zcoded_g hg hv j]
