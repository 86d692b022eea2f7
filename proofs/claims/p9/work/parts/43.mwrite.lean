/-! canonical codes: what number() gives, and what is found by them -/
/-- the first code of length l -/
def zFc (d : Nat → Nat) (n : Nat) : Nat → Nat
  | 0 => 0
  | l + 1 => 2 * (zFc d n l + if l = 0 then 0 else zcn d n l)
/-- symbol k's code -/
def zcd (d : Nat → Nat) (n k : Nat) : Nat := zFc d n (d k) + zcn d k (d k)
theorem zFc_s (d : Nat → Nat) (n : Nat) {l : Nat} (h1 : 1 ≤ l) : zFc d n (l + 1) = 2 * (zFc d n l + zcn d n l) := by
  show 2 * (zFc d n l + if l = 0 then 0 else zcn d n l) = _
  rw [if_neg (by omega)]
theorem zcn_ivt (d : Nat → Nat) (l : Nat) : ∀ n r, r < zcn d n l → ∃ k, k < n ∧ d k = l ∧ zcn d k l = r
  | 0, r, h1 => by simp [zcn] at h1
  | n + 1, r, h1 => by
    simp only [zcn] at h1
    by_cases c : r < zcn d n l
    · obtain ⟨k, k1, k2, k3⟩ := zcn_ivt d l n r c
      exact ⟨k, by omega, k2, k3⟩
    · by_cases c2 : d n = l
      · rw [if_pos c2] at h1
        exact ⟨n, by omega, c2, by omega⟩
      · rw [if_neg c2] at h1
        omega
theorem zcd_found {d : Nat → Nat} {n l v : Nat} (h1 : zFc d n l ≤ v) (h2 : v < zFc d n l + zcn d n l) : ∃ k, k < n ∧ d k = l ∧ zcd d n k = v := by
  obtain ⟨k, k1, k2, k3⟩ := zcn_ivt d l n (v - zFc d n l) (by omega)
  refine ⟨k, k1, k2, ?_⟩
  unfold zcd
  rw [k2, k3]
  omega
theorem zcd_in {d : Nat → Nat} {n k : Nat} (hk : k < n) : zFc d n (d k) ≤ zcd d n k ∧ zcd d n k < zFc d n (d k) + zcn d n (d k) := by
  have h1 := zcn_lt d hk
  unfold zcd
  omega
theorem zcd_one {d : Nat → Nat} {n i k : Nat} (hi : d i = d k) (he : zcd d n i = zcd d n k) : i = k := by
  unfold zcd at he
  rw [hi] at he
  have key : ∀ a b, a < b → d a = d b → zcn d a (d b) < zcn d b (d b) := fun a b hab hd => by
    have h1 := zcn_lt d hab
    rw [hd] at h1
    exact h1
  rcases Nat.lt_trichotomy i k with c | c | c
  · have h1 := key i k c hi
    omega
  · exact c
  · have h1 := key k i c hi.symm
    rw [hi] at h1
    omega
theorem zFc_k (d : Nat → Nat) (n : Nat) : ∀ l, 1 ≤ l → l ≤ 15 → (zFc d n l + zcn d n l) * 2 ^ (15 - l) = zkf d n (l + 1)
  | 0, h1, _ => by omega
  | 1, _, _ => by simp [zFc, zkf]
  | l + 2, _, h2 => by
    have ih := zFc_k d n (l + 1) (by omega) (by omega)
    have e1 : zkf d n (l + 2 + 1) = zkf d n (l + 2) + zcn d n (l + 2) * 2 ^ (15 - (l + 2)) := by
      show zkf d n (l + 2) + (if l + 2 = 0 then 0 else zcn d n (l + 2) * 2 ^ (15 - (l + 2))) = _
      rw [if_neg (by omega)]
    have e2 : 2 ^ (15 - (l + 1)) = 2 * 2 ^ (15 - (l + 2)) := by
      rw [show 15 - (l + 1) = (15 - (l + 2)) + 1 by omega, Nat.pow_succ]
      omega
    rw [e1, ← ih, zFc_s d n (by omega), e2, Nat.add_mul]
    congr 1
    rw [Nat.mul_comm 2 (zFc d n (l + 1) + zcn d n (l + 1)), Nat.mul_assoc]
theorem zFc_full {d : Nat → Nat} {n : Nat} (hf : zFull d n) : zFc d n 15 + zcn d n 15 = 32768 := by
  have h1 := zFc_k d n 15 (by omega) (by omega)
  unfold zFull at hf
  simp at h1
  omega
/-- a full set: what no code of length l or less begins is the beginning of a longer one -/
theorem zcd_any {d : Nat → Nat} {n : Nat} (hf : zFull d n) : ∀ j l v, l + j = 15 → 1 ≤ l → v < 2 ^ l → zFc d n l + zcn d n l ≤ v → ∃ k, k < n ∧ l < d k ∧ d k ≤ 15 ∧ zcd d n k / 2 ^ (d k - l) = v
  | 0, l, v, hj, h1, h2, h3 => by
    have e1 : l = 15 := by omega
    subst e1
    have h4 := zFc_full hf
    have h5 : v < 32768 := h2
    omega
  | j + 1, l, v, hj, h1, h2, h3 => by
    have e1 := zFc_s d n h1
    have e2 : 2 ^ (l + 1) = 2 * 2 ^ l := by rw [Nat.pow_succ]; omega
    by_cases c : 2 * v < zFc d n (l + 1) + zcn d n (l + 1)
    · obtain ⟨k, k1, k2, k3⟩ := zcd_found (d := d) (n := n) (l := l + 1) (v := 2 * v) (by omega) c
      refine ⟨k, k1, by omega, by omega, ?_⟩
      rw [k2, k3, show l + 1 - l = 1 by omega]
      omega
    · obtain ⟨k, k1, k2, k3, k4⟩ := zcd_any hf j (l + 1) (2 * v) (by omega) (by omega) (by omega) (by omega)
      refine ⟨k, k1, by omega, k3, ?_⟩
      rw [show d k - l = (d k - (l + 1)) + 1 by omega, Nat.pow_succ, ← Nat.div_div_eq_div_mul, k4]
      omega
/-! what number() keeps: below length le all codes, at le those of the first k -/
def zCk (d : Nat → Nat) (N : Nat) (fm n : Int) (fk : Nat → Int32) (le k : Int) : Prop := ∀ i : Int, 0 ≤ i → i < n → 1 ≤ d i.toNat → ((d i.toNat : Int) < le ∨ ((d i.toNat : Int) = le ∧ i < k)) → fk (fm + i).toNat = iI ((zcd d N i.toNat : Nat) : Int)
theorem zCk_0 {d : Nat → Nat} {N : Nat} {fm n : Int} {fk : Nat → Int32} : zCk d N fm n fk 1 0 := fun i h1 h2 h3 h4 => by omega
theorem zCk_skip {d : Nat → Nat} {N : Nat} {fm n le k : Int} {fk : Nat → Int32} (q : zCk d N fm n fk le k) (r : ¬ (d k.toNat : Int) = le) : zCk d N fm n fk le (k + 1) := fun i h1 h2 h3 h4 => by
  by_cases c : i = k
  · subst c
    exact q i h1 h2 h3 (by omega)
  · exact q i h1 h2 h3 (by omega)
theorem zCk_set {d : Nat → Nat} {N : Nat} {fm n le k cd : Int} {fk g : Nat → Int32} (q : zCk d N fm n fk le k) (r : (d k.toNat : Int) = le) (hg : g = upd fk (fm + k).toNat (iI cd)) (hcd : cd = ((zFc d N le.toNat + zcn d k.toNat le.toNat : Nat) : Int)) (h0 : 0 ≤ fm ∧ 0 ≤ k) : zCk d N fm n g le (k + 1) := fun i h1 h2 h3 h4 => by
  by_cases c : i = k
  · subst c
    have e1 : d i.toNat = le.toNat := by omega
    rw [hg, zud_at, hcd]
    unfold zcd
    rw [e1]
  · rw [hg, zud_ne (by omega)]
    exact q i h1 h2 h3 (by omega)
theorem zCk_next {d : Nat → Nat} {N : Nat} {fm n le k : Int} {fk : Nat → Int32} (q : zCk d N fm n fk le k) (hk : n ≤ k) : zCk d N fm n fk (le + 1) 0 := fun i h1 h2 h3 h4 => q i h1 h2 h3 (by omega)
theorem zcn_t {d : Nat → Nat} {k : Int} (l : Nat) (h0 : 0 ≤ k) : zcn d (k + 1).toNat l = zcn d k.toNat l + if d k.toNat = l then 1 else 0 := by
  rw [show (k + 1).toNat = k.toNat + 1 by omega]
  rfl
theorem zFc_t {d : Nat → Nat} {N : Nat} {le k cd : Int} (h1 : 1 ≤ le) (hk : k.toNat = N) (hcd : cd = ((zFc d N le.toNat + zcn d k.toNat le.toNat : Nat) : Int)) : 2 * cd = ((zFc d N (le + 1).toNat : Nat) : Int) := by
  rw [show (le + 1).toNat = le.toNat + 1 by omega, zFc_s d N (by omega), hcd, hk]
  push_cast
  omega
/-- sets of codes that the programs use: a full one, or none but at most one code, of length 1 -/
def zGd (d : Nat → Nat) (N : Nat) : Prop := (∀ k, k < N → d k ≤ 15) ∧ (zFull d N ∨ ((∀ k, k < N → d k ≤ 1) ∧ zcn d N 1 ≤ 1))
theorem zkf_mono (d : Nat → Nat) (n : Nat) {a : Nat} : ∀ {b}, a ≤ b → zkf d n a ≤ zkf d n b
  | 0, h1 => by
    have e1 : a = 0 := by omega
    subst e1
    exact Nat.le_refl _
  | b + 1, h1 => by
    by_cases c : a = b + 1
    · subst c
      exact Nat.le_refl _
    · have h2 := zkf_mono d n (a := a) (b := b) (by omega)
      show zkf d n a ≤ zkf d n b + _
      omega
theorem zcd_b {d : Nat → Nat} {N k : Nat} (hG : zGd d N) (hk : k < N) (h1 : 1 ≤ d k) : zcd d N k < 32768 := by
  have h2 := hG.1 k hk
  have h3 := (zcd_in (d := d) hk).2
  rcases hG.2 with hf | ⟨hf, hc⟩
  · have h4 := zFc_k d N (d k) h1 h2
    have h5 := zkf_mono d N (a := d k + 1) (b := 16) (by omega)
    unfold zFull at hf
    have h6 : 1 ≤ 2 ^ (15 - d k) := Nat.one_le_two_pow
    have h7 : zFc d N (d k) + zcn d N (d k) ≤ (zFc d N (d k) + zcn d N (d k)) * 2 ^ (15 - d k) := Nat.le_mul_of_pos_right _ h6
    omega
  · have e1 : d k = 1 := by have := hf k hk; omega
    rw [e1] at h3
    have e2 : zFc d N 1 = 0 := by simp [zFc]
    omega
theorem zst_lt {d : Nat → Nat} {N l : Nat} : ∀ {m k}, k < N → l < d k → 1 ≤ l → d k < m → zst d N (l + 1) < zst d N m
  | 0, _, _, _, _, h4 => by omega
  | m + 1, k, h1, h2, h3, h4 => by
    have e1 : zst d N (m + 1) = zst d N m + zcn d N m := by
      show zst d N m + (if m = 0 then 0 else zcn d N m) = _
      rw [if_neg (by omega)]
    by_cases c : d k = m
    · have h5 := zcn_lt d h1
      rw [c] at h5
      have h6 : zst d N (l + 1) ≤ zst d N m := zst_mono d N (by omega)
      omega
    · have h7 := zst_lt (m := m) h1 h2 h3 (by omega)
      omega
/-! the next symbol, found bit by bit among all codes -/
def zSi (f : Nat → Int32) (d : Nat → Nat) (N bh P si v : Nat) : Prop := ∃ fi : Nat, 2 * fi = zFc d N (si + 1) ∧ fi ≤ v ∧ v < 2 ^ si ∧ znx f d N (zGs d N) bh 15 1 P 0 0 0 = znx f d N (zGs d N) bh (15 - si) (si + 1) (P + si) v fi (zst d N (si + 1))
theorem zSi_0 {f : Nat → Int32} {d : Nat → Nat} {N bh P : Nat} : zSi f d N bh P 0 0 := ⟨0, by simp [zFc], by omega, by decide, by simp [zst]⟩
theorem znx_u {f : Nat → Int32} {d : Nat → Nat} {N bh si P v fi : Nat} (hs : si < 15) : znx f d N (zGs d N) bh (15 - si) (si + 1) P v fi (zst d N (si + 1)) = (if 8 * bh < P + 1 then (-30, P) else if 2 * v + zbit f P - 2 * fi < zcn d N (si + 1) then (zGs d N (zst d N (si + 1) + (2 * v + zbit f P - 2 * fi)), P + 1) else if zst d N 16 ≤ zst d N (si + 1) + zcn d N (si + 1) then (-34, P + 1) else znx f d N (zGs d N) bh (15 - (si + 1)) (si + 1 + 1) (P + 1) (2 * v + zbit f P) (2 * fi + zcn d N (si + 1)) (zst d N (si + 1) + zcn d N (si + 1))) := by
  obtain ⟨j, hj⟩ : ∃ j, 15 - si = j + 1 := ⟨14 - si, by omega⟩
  rw [hj, show 15 - (si + 1) = j by omega]
  rfl
theorem zSi_none {f : Nat → Int32} {d : Nat → Nat} {N bh P si v : Nat} (q : zSi f d N bh P si v) (hs : si < 15) (hb : 8 * bh < P + si + 1) : (znx f d N (zGs d N) bh 15 1 P 0 0 0).1 = -30 := by
  obtain ⟨fi, h1, h2, h3, h4⟩ := q
  rw [h4, znx_u hs, if_pos hb]
theorem zst_t (d : Nat → Nat) (N : Nat) {l : Nat} (h1 : 1 ≤ l) : zst d N (l + 1) = zst d N l + zcn d N l := by
  show zst d N l + (if l = 0 then 0 else zcn d N l) = _
  rw [if_neg (by omega)]
theorem zSi_hit {f : Nat → Int32} {d : Nat → Nat} {N bh P si v k : Nat} (q : zSi f d N bh P si v) (hs : si < 15) (hb : P + si + 1 ≤ 8 * bh) (hk : k < N) (hd : d k = si + 1) (hc : zcd d N k = 2 * v + zbit f (P + si)) : znx f d N (zGs d N) bh 15 1 P 0 0 0 = (nI k, P + si + 1) := by
  obtain ⟨fi, h1, h2, h3, h4⟩ := q
  have h5 := zcd_in (d := d) hk
  have h6 : zcd d N k = zFc d N (d k) + zcn d k (d k) := rfl
  rw [hd] at h5 h6
  rw [h4, znx_u hs, if_neg (by omega), if_pos (by omega)]
  have h7 := zgi_eq d (n := N) (i := k) (by omega) N (Nat.le_refl _) hk
  rw [hd] at h7
  unfold zGs
  rw [show zst d N (si + 1) + (2 * v + zbit f (P + si) - 2 * fi) = zst d N (si + 1) + zcn d k (si + 1) by omega, h7]
theorem zSi_out {f : Nat → Int32} {d : Nat → Nat} {N P si v fi : Nat} (h1 : 2 * fi = zFc d N (si + 1)) (h2 : fi ≤ v) (hno : ∀ k, k < N → ¬ (d k = si + 1 ∧ zcd d N k = 2 * v + zbit f (P + si))) : zFc d N (si + 1) + zcn d N (si + 1) ≤ 2 * v + zbit f (P + si) := by
  by_cases c : 2 * v + zbit f (P + si) < zFc d N (si + 1) + zcn d N (si + 1)
  · obtain ⟨k, k1, k2, k3⟩ := zcd_found (d := d) (n := N) (l := si + 1) (v := 2 * v + zbit f (P + si)) (by omega) c
    exact absurd ⟨k2, k3⟩ (hno k k1)
  · omega
theorem zSi_stop {f : Nat → Int32} {d : Nat → Nat} {N bh P si v : Nat} (q : zSi f d N bh P si v) (hs : si < 15) (hb : P + si + 1 ≤ 8 * bh) (hG : zGd d N) (hv : zbit f (P + si) ≤ 1) (hno : ∀ k, k < N → ¬ (d k = si + 1 ∧ zcd d N k = 2 * v + zbit f (P + si))) (hna : ∀ k, k < N → ¬ (si + 1 < d k ∧ zcd d N k / 2 ^ (d k - (si + 1)) = 2 * v + zbit f (P + si))) : (znx f d N (zGs d N) bh 15 1 P 0 0 0).1 = -34 := by
  obtain ⟨fi, h1, h2, h3, h4⟩ := q
  have h5 := zSi_out h1 h2 hno
  have e2 : 2 ^ (si + 1) = 2 * 2 ^ si := by rw [Nat.pow_succ]; omega
  rw [h4, znx_u hs, if_neg (by omega), if_neg (by omega), if_pos ?_]
  rcases hG.2 with hf | ⟨hf, hc⟩
  · obtain ⟨k, k1, k2, k3, k4⟩ := zcd_any hf (15 - (si + 1)) (si + 1) (2 * v + zbit f (P + si)) (by omega) (by omega) (by omega) h5
    exact absurd ⟨k2, k4⟩ (hna k k1)
  · rw [← zst_t d N (by omega)]
    have key : ∀ m, zst d N (si + 1 + 1 + m) ≤ zst d N (si + 1 + 1) := fun m => by
      induction m with
      | zero => exact Nat.le_refl _
      | succ m ih =>
        rw [← Nat.add_assoc, zst_t d N (by omega)]
        have h9 : zcn d N (si + 1 + 1 + m) = 0 := by
          rcases Nat.eq_zero_or_pos (zcn d N (si + 1 + 1 + m)) with c | c
          · exact c
          · obtain ⟨k, k1, k2, _⟩ := zcn_ivt d (si + 1 + 1 + m) N 0 c
            have h10 := hf k k1
            omega
        omega
    have h11 := key (14 - si)
    rw [show si + 1 + 1 + (14 - si) = 16 by omega] at h11
    exact h11
theorem zSi_next {f : Nat → Int32} {d : Nat → Nat} {N bh P si v k : Nat} (q : zSi f d N bh P si v) (hs : si < 15) (hb : P + si + 1 ≤ 8 * bh) (hG : zGd d N) (hv : zbit f (P + si) ≤ 1) (hno : ∀ k, k < N → ¬ (d k = si + 1 ∧ zcd d N k = 2 * v + zbit f (P + si))) (hk : k < N) (hkl : si + 1 < d k) : zSi f d N bh P (si + 1) (2 * v + zbit f (P + si)) ∧ si + 1 < 15 := by
  obtain ⟨fi, h1, h2, h3, h4⟩ := q
  have h5 := zSi_out h1 h2 hno
  have h6 := hG.1 k hk
  have e2 : 2 ^ (si + 1) = 2 * 2 ^ si := by rw [Nat.pow_succ]; omega
  have h7 := zst_lt (d := d) (N := N) (l := si + 1) (m := 16) hk hkl (by omega) (by omega)
  have e3 := zst_t d N (l := si + 1) (by omega)
  refine ⟨⟨2 * fi + zcn d N (si + 1), ?_, by omega, by omega, ?_⟩, by omega⟩
  · rw [zFc_s d N (by omega)]
    omega
  · rw [h4, znx_u hs, if_neg (by omega), if_neg (by omega), if_neg (by omega), e3, Nat.add_assoc P si 1]
theorem zFc_1 (d : Nat → Nat) (N : Nat) : zFc d N 1 = 0 := by simp [zFc]
theorem zbsI_1 (f : Nat → Int32) (p : Int) : zbsI f p 1 = zbI f p := by
  unfold zbsI zbI
  show ((zbits f p.toNat 1 : Nat) : Int) = _
  simp [zbits]
/-- what a symbol's reading answers: x, or why there is none -/
def zSr (f : Nat → Int32) (d : Nat → Nat) (N bh P : Nat) (x r1 p1 : Int) : Prop := (r1 = 0 ∧ 0 ≤ x ∧ znx f d N (zGs d N) bh 15 1 P 0 0 0 = (nI x.toNat, p1.toNat)) ∨ (r1 = 30 ∧ (znx f d N (zGs d N) bh 15 1 P 0 0 0).1 = -30) ∨ (r1 = 34 ∧ (znx f d N (zGs d N) bh 15 1 P 0 0 0).1 = -34)
/-- the state ahead of a bit: some code may still come (an = 1), or none -/
def zSa (f : Nat → Int32) (d : Nat → Nat) (N bh P : Nat) (si v an : Int) : Prop := (an = 1 ∧ zSi f d N bh P si.toNat v.toNat) ∨ (an = 0 ∧ (znx f d N (zGs d N) bh 15 1 P 0 0 0).1 = -34)
/-- symbol i has the code v of si bits; its code begins so -/
def zHi (d : Nat → Nat) (N : Nat) (si v i : Int) : Prop := (d i.toNat : Int) = si ∧ ((zcd d N i.toNat : Nat) : Int) = v
def zLg (d : Nat → Nat) (N : Nat) (si v i : Int) : Prop := si < (d i.toNat : Int) ∧ ((zcd d N i.toNat : Nat) : Int) / zp ((d i.toNat : Int) - si) = v
def zAn (d : Nat → Nat) (N : Nat) (si v an k : Int) : Prop := (an = 1 ∧ ∃ i : Int, 0 ≤ i ∧ i < k ∧ zLg d N si v i) ∨ (an = 0 ∧ ∀ i : Int, 0 ≤ i → i < k → ¬ zLg d N si v i)
theorem zLg_n {d : Nat → Nat} {N : Nat} {si v i : Int} (hs : 0 ≤ si ∧ 0 ≤ v) : zLg d N si v i ↔ (si.toNat < d i.toNat ∧ zcd d N i.toNat / 2 ^ (d i.toNat - si.toNat) = v.toNat) := by
  unfold zLg
  rw [zp_nat]
  constructor
  · rintro ⟨h1, h2⟩
    refine ⟨by omega, ?_⟩
    rw [show ((d i.toNat : Int) - si).toNat = d i.toNat - si.toNat by omega] at h2
    have h3 : ((zcd d N i.toNat / 2 ^ (d i.toNat - si.toNat) : Nat) : Int) = v := by rw [← h2]; norm_cast
    omega
  · rintro ⟨h1, h2⟩
    refine ⟨by omega, ?_⟩
    rw [show ((d i.toNat : Int) - si).toNat = d i.toNat - si.toNat by omega]
    have h3 : ((zcd d N i.toNat / 2 ^ (d i.toNat - si.toNat) : Nat) : Int) = v := by omega
    rw [← h3]
    norm_cast
theorem zSa_next {f : Nat → Int32} {d : Nat → Nat} {N bh P : Nat} {si v v1 an n b : Int} (q : zSi f d N bh P si.toNat v.toNat) (hs : 0 ≤ si ∧ si ≤ 14 ∧ 0 ≤ v) (hb : b = zbI f ((P : Int) + si)) (hv1 : v1 = 2 * v + b) (hn : n = (N : Int)) (hp : (P : Int) + si + 1 ≤ 8 * (bh : Int)) (hG : zGd d N) (hno : ∀ i : Int, 0 ≤ i → i < n → ¬ zHi d N (si + 1) v1 i) (hA : zAn d N (si + 1) v1 an n) : zSa f d N bh P (si + 1) v1 an ∧ (an = 1 → si + 1 ≤ 14) := by
  have e1 : ((P : Int) + si).toNat = P + si.toNat := by omega
  have hbb : zbit f (P + si.toNat) ≤ 1 := by unfold zbit; omega
  have e2 : b = (zbit f (P + si.toNat) : Int) := by rw [hb]; unfold zbI; rw [e1]
  have e3 : v1.toNat = 2 * v.toNat + zbit f (P + si.toNat) := by omega
  have e4 : (si + 1).toNat = si.toNat + 1 := by omega
  have hno2 : ∀ k, k < N → ¬ (d k = si.toNat + 1 ∧ zcd d N k = 2 * v.toNat + zbit f (P + si.toNat)) := fun k hk w => hno (k : Int) (by omega) (by omega) (by
    unfold zHi
    rw [show ((k : Int)).toNat = k by omega]
    omega)
  rcases hA with ⟨h1, i, i1, i2, i3⟩ | ⟨h1, h2⟩
  · rw [zLg_n (by omega)] at i3
    have h3 := zSi_next (k := i.toNat) q (by omega) (by omega) hG hbb hno2 (by omega) (by omega)
    refine ⟨Or.inl ⟨h1, ?_⟩, fun _ => by omega⟩
    rw [e3, e4]
    exact h3.1
  · refine ⟨Or.inr ⟨h1, ?_⟩, fun h9 => by omega⟩
    refine zSi_stop q (by omega) (by omega) hG hbb hno2 (fun k hk w => h2 (k : Int) (by omega) (by omega) ?_)
    rw [zLg_n (by omega), show ((k : Int)).toNat = k by omega, e3, e4]
    exact w
theorem zSr_hit {f : Nat → Int32} {d : Nat → Nat} {N bh P : Nat} {si v v1 n b k r1 p1 : Int} (q : zSi f d N bh P si.toNat v.toNat) (hs : 0 ≤ si ∧ si ≤ 14 ∧ 0 ≤ v) (hb : b = zbI f ((P : Int) + si)) (hv1 : v1 = 2 * v + b) (hn : n = (N : Int)) (hp : (P : Int) + si + 1 ≤ 8 * (bh : Int)) (hk : 0 ≤ k ∧ k < n) (w : zHi d N (si + 1) v1 k) (hr : r1 = 0) (hp1 : p1 = (P : Int) + si + 1) : zSr f d N bh P k r1 p1 := by
  have e1 : ((P : Int) + si).toNat = P + si.toNat := by omega
  have e2 : b = (zbit f (P + si.toNat) : Int) := by rw [hb]; unfold zbI; rw [e1]
  unfold zHi at w
  have h3 := zSi_hit (k := k.toNat) q (by omega) (by omega) (by omega) (by omega) (by omega)
  refine Or.inl ⟨hr, hk.1, ?_⟩
  rw [h3, show p1.toNat = P + si.toNat + 1 by omega]
theorem zSr_none {f : Nat → Int32} {d : Nat → Nat} {N bh P : Nat} {si v x r1 p1 : Int} (q : zSi f d N bh P si.toNat v.toNat) (hs : 0 ≤ si ∧ si ≤ 14) (hp : 8 * (bh : Int) < (P : Int) + si + 1) (hr : r1 = 30) : zSr f d N bh P x r1 p1 := Or.inr (Or.inl ⟨hr, zSi_none q (by omega) (by omega)⟩)
theorem zSr_stop {f : Nat → Int32} {d : Nat → Nat} {N bh P : Nat} {si v an x r1 p1 : Int} (q : zSa f d N bh P si v an) (h0 : an = 0) (hr : r1 = 34) : zSr f d N bh P x r1 p1 := by
  rcases q with q | q
  · omega
  · exact Or.inr (Or.inr ⟨hr, q.2⟩)
theorem zSa_i {f : Nat → Int32} {d : Nat → Nat} {N bh P : Nat} {si v an : Int} (q : zSa f d N bh P si v an) (h0 : ¬ an = 0) : zSi f d N bh P si.toNat v.toNat := by
  rcases q with q | q
  · exact q.2
  · exact absurd q.1 h0
/-- one symbol more is looked at -/
theorem zHi_s {d : Nat → Nat} {N : Nat} {si v k : Int} (q : ∀ i : Int, 0 ≤ i → i < k → ¬ zHi d N si v i) (r : ¬ zHi d N si v k) : ∀ i : Int, 0 ≤ i → i < k + 1 → ¬ zHi d N si v i := fun i h1 h2 => by
  by_cases c : i = k
  · rw [c]; exact r
  · exact q i h1 (by omega)
theorem zAn_s {d : Nat → Nat} {N : Nat} {si v an k y a2 : Int} (q : zAn d N si v an k) (hk : 0 ≤ k) (r : (y = 1 ∧ zLg d N si v k) ∨ (y = 0 ∧ ¬ zLg d N si v k)) (ha : (a2 = 1 ∧ (an = 1 ∨ y = 1)) ∨ (a2 = 0 ∧ an = 0 ∧ y = 0)) : zAn d N si v a2 (k + 1) := by
  rcases ha with ⟨e1, ha⟩ | ⟨e1, e2, e3⟩
  · refine Or.inl ⟨e1, ?_⟩
    rcases ha with h1 | h1
    · rcases q with ⟨_, i, i1, i2, i3⟩ | q
      · exact ⟨i, i1, by omega, i3⟩
      · omega
    · rcases r with r | r
      · exact ⟨k, hk, by omega, r.2⟩
      · omega
  · refine Or.inr ⟨e1, fun i h1 h2 => ?_⟩
    rcases q with q | q
    · omega
    · by_cases c : i = k
      · rcases r with r | r
        · omega
        · rw [c]; exact r.2
      · exact q.2 i h1 (by omega)
theorem zCk_x {d : Nat → Nat} {N : Nat} {fm n k x : Int} {fk : Nat → Int32} (q : zCk d N fm n fk 16 0) (hG : zGd d N) (hn : n = (N : Int)) (hk : 0 ≤ k ∧ k < n) (h1 : 1 ≤ d k.toNat) (hx : fk (fm + k).toNat = iI x) (h2 : -2147483648 ≤ x) (h3 : x ≤ 2147483647) : x = ((zcd d N k.toNat : Nat) : Int) ∧ x < 32768 ∧ 0 ≤ x := by
  have h4 := zcd_b hG (k := k.toNat) (by omega) h1
  have h5 := hG.1 k.toNat (by omega)
  have h6 := q k hk.1 hk.2 h1 (by omega)
  rw [hx] at h6
  have h7 := (iI_eq ⟨h2, h3⟩ (by omega)).mp h6
  omega
theorem zSi_v {f : Nat → Int32} {d : Nat → Nat} {N bh P : Nat} {si v : Int} (q : zSi f d N bh P si.toNat v.toNat) (hs : 0 ≤ si ∧ si ≤ 14) : v ≤ 16383 := by
  obtain ⟨fi, h1, h2, h3, h4⟩ := q
  have h5 : 2 ^ si.toNat ≤ 2 ^ 14 := Nat.pow_le_pow_right (by omega) (by omega)
  omega
set_option maxRecDepth 100000 in
theorem zm_30 : Jvm.Cond.selects "ZipGuardModel" ({ cls := "ZipGuardModel", name := "fails", desc := "(ZI)Z" } : Jvm.MethodName) ({ cls := "ZipGuardModel", name := "fails", desc := "(ZI)Z" } : Jvm.MethodName) ∈ zt := zt_mp (List.mem_of_getElem? (i := 30) rfl)
set_option maxRecDepth 100000 in
theorem zm_31 : Jvm.Cond.selects "ZipGuardModel" ({ cls := "ZipGuardModel", name := "shut", desc := "()V" } : Jvm.MethodName) ({ cls := "ZipGuardModel", name := "shut", desc := "()V" } : Jvm.MethodName) ∈ zt := zt_mp (List.mem_of_getElem? (i := 31) rfl)
set_option maxRecDepth 100000 in
theorem zm_51 : Jvm.Cond.selects "ZipGuardModel" ({ cls := "ZipGuardModel", name := "bits", desc := "(I)I" } : Jvm.MethodName) ({ cls := "ZipGuardModel", name := "bits", desc := "(I)I" } : Jvm.MethodName) ∈ zt := zt_mp (List.mem_of_getElem? (i := 51) rfl)
set_option maxRecDepth 100000 in
theorem zm_52 : Jvm.Cond.selects "ZipGuardModel" ({ cls := "ZipGuardModel", name := "refuse", desc := "(I)Z" } : Jvm.MethodName) ({ cls := "ZipGuardModel", name := "refuse", desc := "(I)Z" } : Jvm.MethodName) ∈ zt := zt_mp (List.mem_of_getElem? (i := 52) rfl)
set_option maxRecDepth 100000 in
theorem zm_751 : Jvm.Cond.constant "ZipGuardModel" (61 : Nat) (40000 : Int32) ∈ zt := zt_m5 (List.mem_of_getElem? (i := 21) rfl)
set_option maxRecDepth 100000 in
theorem zm_754 : Jvm.Cond.fieldLink "ZipGuardModel" (80 : Nat) "ZipGuardModel" "isOpen" "Z" ∈ zt := zt_m5 (List.mem_of_getElem? (i := 24) rfl)
set_option maxRecDepth 100000 in
theorem zm_755 : Jvm.Cond.fieldLink "ZipGuardModel" (13 : Nat) "ZipGuardModel" "faultPlace" "I" ∈ zt := zt_m5 (List.mem_of_getElem? (i := 25) rfl)
set_option maxRecDepth 100000 in
theorem zm_756 : Jvm.Cond.fieldLink "ZipGuardModel" (17 : Nat) "ZipGuardModel" "budget" "I" ∈ zt := zt_m5 (List.mem_of_getElem? (i := 26) rfl)
set_option maxRecDepth 100000 in
theorem zm_757 : Jvm.Cond.fieldLink "ZipGuardModel" (20 : Nat) "ZipGuardModel" "ratio" "I" ∈ zt := zt_m5 (List.mem_of_getElem? (i := 27) rfl)
set_option maxRecDepth 100000 in
theorem zm_760 : Jvm.Cond.fieldLink "ZipGuardModel" (27 : Nat) "ZipGuardModel" "packed" "[J" ∈ zt := zt_m5 (List.mem_of_getElem? (i := 30) rfl)
set_option maxRecDepth 100000 in
theorem zm_761 : Jvm.Cond.fieldLink "ZipGuardModel" (31 : Nat) "ZipGuardModel" "sizes" "[J" ∈ zt := zt_m5 (List.mem_of_getElem? (i := 31) rfl)
set_option maxRecDepth 100000 in
theorem zm_763 : Jvm.Cond.fieldLink "ZipGuardModel" (37 : Nat) "ZipGuardModel" "datas" "[I" ∈ zt := zt_m5 (List.mem_of_getElem? (i := 33) rfl)
set_option maxRecDepth 100000 in
theorem zm_772 : Jvm.Cond.fieldLink "ZipGuardModel" (87 : Nat) "ZipGuardModel" "total" "I" ∈ zt := zt_m5 (List.mem_of_getElem? (i := 42) rfl)
set_option maxRecDepth 100000 in
theorem zm_773 : Jvm.Cond.fieldLink "ZipGuardModel" (199 : Nat) "ZipGuardModel" "now" "I" ∈ zt := zt_m5 (List.mem_of_getElem? (i := 43) rfl)
set_option maxRecDepth 100000 in
theorem zm_774 : Jvm.Cond.fieldLink "ZipGuardModel" (205 : Nat) "ZipGuardModel" "bit" "I" ∈ zt := zt_m5 (List.mem_of_getElem? (i := 44) rfl)
set_option maxRecDepth 100000 in
theorem zm_775 : Jvm.Cond.fieldLink "ZipGuardModel" (196 : Nat) "ZipGuardModel" "refused" "I" ∈ zt := zt_m5 (List.mem_of_getElem? (i := 45) rfl)
set_option maxRecDepth 100000 in
theorem zm_855 : Jvm.Cond.methodLink "ZipGuardModel" (93 : Nat) ({ cls := "ZipGuardModel", name := "fails", desc := "(ZI)Z" } : Jvm.MethodName) ∈ zt := zt_m5 (List.mem_of_getElem? (i := 125) rfl)
set_option maxRecDepth 100000 in
theorem zm_856 : Jvm.Cond.instanceMethod ({ cls := "ZipGuardModel", name := "fails", desc := "(ZI)Z" } : Jvm.MethodName) ∈ zt := zt_m5 (List.mem_of_getElem? (i := 126) rfl)
set_option maxRecDepth 100000 in
theorem zm_857 : Jvm.Cond.code ({ cls := "ZipGuardModel", name := "fails", desc := "(ZI)Z" } : Jvm.MethodName) prog_10_method_3_code (3 : Nat) (Option.some Jvm.ClassFile.FieldType.boolean) ∈ zt := zt_m5 (List.mem_of_getElem? (i := 127) rfl)
set_option maxRecDepth 100000 in
theorem zm_858 : Jvm.Cond.methodLink "ZipGuardModel" (97 : Nat) ({ cls := "ZipGuardModel", name := "shut", desc := "()V" } : Jvm.MethodName) ∈ zt := zt_m5 (List.mem_of_getElem? (i := 128) rfl)
set_option maxRecDepth 100000 in
theorem zm_859 : Jvm.Cond.instanceMethod ({ cls := "ZipGuardModel", name := "shut", desc := "()V" } : Jvm.MethodName) ∈ zt := zt_m5 (List.mem_of_getElem? (i := 129) rfl)
set_option maxRecDepth 100000 in
theorem zm_860 : Jvm.Cond.code ({ cls := "ZipGuardModel", name := "shut", desc := "()V" } : Jvm.MethodName) prog_10_method_4_code (1 : Nat) (Option.none : Option Jvm.ClassFile.FieldType) ∈ zt := zt_m5 (List.mem_of_getElem? (i := 130) rfl)
set_option maxRecDepth 100000 in
theorem zm_937 : Jvm.Cond.constantLong "ZipGuardModel" (162 : Nat) (16 : Int64) ∈ zt := zt_m5 (List.mem_of_getElem? (i := 207) rfl)
set_option maxRecDepth 100000 in
theorem zm_962 : Jvm.Cond.methodLink "ZipGuardModel" (208 : Nat) ({ cls := "ZipGuardModel", name := "bits", desc := "(I)I" } : Jvm.MethodName) ∈ zt := zt_m6 (List.mem_of_getElem? (i := 10) rfl)
set_option maxRecDepth 100000 in
theorem zm_963 : Jvm.Cond.instanceMethod ({ cls := "ZipGuardModel", name := "bits", desc := "(I)I" } : Jvm.MethodName) ∈ zt := zt_m6 (List.mem_of_getElem? (i := 11) rfl)
set_option maxRecDepth 100000 in
theorem zm_964 : Jvm.Cond.code ({ cls := "ZipGuardModel", name := "bits", desc := "(I)I" } : Jvm.MethodName) prog_10_method_30_code (4 : Nat) (Option.some Jvm.ClassFile.FieldType.int) ∈ zt := zt_m6 (List.mem_of_getElem? (i := 12) rfl)
set_option maxRecDepth 100000 in
theorem zm_965 : Jvm.Cond.methodLink "ZipGuardModel" (202 : Nat) ({ cls := "ZipGuardModel", name := "refuse", desc := "(I)Z" } : Jvm.MethodName) ∈ zt := zt_m6 (List.mem_of_getElem? (i := 13) rfl)
set_option maxRecDepth 100000 in
theorem zm_966 : Jvm.Cond.instanceMethod ({ cls := "ZipGuardModel", name := "refuse", desc := "(I)Z" } : Jvm.MethodName) ∈ zt := zt_m6 (List.mem_of_getElem? (i := 14) rfl)
set_option maxRecDepth 100000 in
theorem zm_967 : Jvm.Cond.code ({ cls := "ZipGuardModel", name := "refuse", desc := "(I)Z" } : Jvm.MethodName) prog_10_method_28_code (2 : Nat) (Option.some Jvm.ClassFile.FieldType.boolean) ∈ zt := zt_m6 (List.mem_of_getElem? (i := 15) rfl)
theorem d_M_alter_0 : decode prog_10_method_7_code 0 = .ok (.aload_n 0, 1) := by decide +kernel
theorem d_M_alter_1 : decode prog_10_method_7_code 1 = .ok (.iload_n 1, 1) := by decide +kernel
theorem d_M_alter_2 : decode prog_10_method_7_code 2 = .ok (.ifCond .lt 11, 3) := by decide +kernel
theorem d_M_alter_5 : decode prog_10_method_7_code 5 = .ok (.iload_n 1, 1) := by decide +kernel
theorem d_M_alter_6 : decode prog_10_method_7_code 6 = .ok (.aload_n 0, 1) := by decide +kernel
theorem d_M_alter_7 : decode prog_10_method_7_code 7 = .ok (.getfield 90, 3) := by decide +kernel
theorem d_M_alter_10 : decode prog_10_method_7_code 10 = .ok (.if_icmp .lt 7, 3) := by decide +kernel
theorem d_M_alter_13 : decode prog_10_method_7_code 13 = .ok (.iconst 1, 1) := by decide +kernel
theorem d_M_alter_14 : decode prog_10_method_7_code 14 = .ok (.goto 4, 3) := by decide +kernel
theorem d_M_alter_17 : decode prog_10_method_7_code 17 = .ok (.iconst 0, 1) := by decide +kernel
theorem d_M_alter_18 : decode prog_10_method_7_code 18 = .ok (.iconst 1, 1) := by decide +kernel
theorem d_M_alter_19 : decode prog_10_method_7_code 19 = .ok (.invokevirtual 93, 3) := by decide +kernel
theorem d_M_alter_22 : decode prog_10_method_7_code 22 = .ok (.ifCond .eq 5, 3) := by decide +kernel
theorem d_M_alter_25 : decode prog_10_method_7_code 25 = .ok (.iconst 0, 1) := by decide +kernel
theorem d_M_alter_26 : decode prog_10_method_7_code 26 = .ok (.ireturn, 1) := by decide +kernel
theorem d_M_alter_27 : decode prog_10_method_7_code 27 = .ok (.aload_n 0, 1) := by decide +kernel
theorem d_M_alter_28 : decode prog_10_method_7_code 28 = .ok (.getfield 7, 3) := by decide +kernel
theorem d_M_alter_31 : decode prog_10_method_7_code 31 = .ok (.iload_n 1, 1) := by decide +kernel
theorem d_M_alter_32 : decode prog_10_method_7_code 32 = .ok (.baload, 1) := by decide +kernel
theorem d_M_alter_33 : decode prog_10_method_7_code 33 = .ok (.sipush 255, 3) := by decide +kernel
theorem d_M_alter_36 : decode prog_10_method_7_code 36 = .ok (.iand, 1) := by decide +kernel
theorem d_M_alter_37 : decode prog_10_method_7_code 37 = .ok (.istore_n 3, 1) := by decide +kernel
theorem d_M_alter_38 : decode prog_10_method_7_code 38 = .ok (.aload_n 0, 1) := by decide +kernel
theorem d_M_alter_39 : decode prog_10_method_7_code 39 = .ok (.getfield 7, 3) := by decide +kernel
theorem d_M_alter_42 : decode prog_10_method_7_code 42 = .ok (.iload_n 1, 1) := by decide +kernel
theorem d_M_alter_43 : decode prog_10_method_7_code 43 = .ok (.iload_n 2, 1) := by decide +kernel
theorem d_M_alter_44 : decode prog_10_method_7_code 44 = .ok (.i2b, 1) := by decide +kernel
theorem d_M_alter_45 : decode prog_10_method_7_code 45 = .ok (.bastore, 1) := by decide +kernel
theorem d_M_alter_46 : decode prog_10_method_7_code 46 = .ok (.iload_n 3, 1) := by decide +kernel
theorem d_M_alter_47 : decode prog_10_method_7_code 47 = .ok (.ireturn, 1) := by decide +kernel
theorem d_M_bits_0 : decode prog_10_method_30_code 0 = .ok (.iconst 0, 1) := by decide +kernel
theorem d_M_bits_1 : decode prog_10_method_30_code 1 = .ok (.istore_n 2, 1) := by decide +kernel
theorem d_M_bits_2 : decode prog_10_method_30_code 2 = .ok (.iconst 0, 1) := by decide +kernel
theorem d_M_bits_3 : decode prog_10_method_30_code 3 = .ok (.istore_n 3, 1) := by decide +kernel
theorem d_M_bits_4 : decode prog_10_method_30_code 4 = .ok (.iload_n 3, 1) := by decide +kernel
theorem d_M_bits_5 : decode prog_10_method_30_code 5 = .ok (.iload_n 1, 1) := by decide +kernel
theorem d_M_bits_6 : decode prog_10_method_30_code 6 = .ok (.if_icmp .ge 94, 3) := by decide +kernel
theorem d_M_bits_9 : decode prog_10_method_30_code 9 = .ok (.aload_n 0, 1) := by decide +kernel
theorem d_M_bits_10 : decode prog_10_method_30_code 10 = .ok (.getfield 196, 3) := by decide +kernel
theorem d_M_bits_13 : decode prog_10_method_30_code 13 = .ok (.ifCond .ne 87, 3) := by decide +kernel
theorem d_M_bits_16 : decode prog_10_method_30_code 16 = .ok (.aload_n 0, 1) := by decide +kernel
theorem d_M_bits_17 : decode prog_10_method_30_code 17 = .ok (.getfield 205, 3) := by decide +kernel
theorem d_M_bits_20 : decode prog_10_method_30_code 20 = .ok (.i2l, 1) := by decide +kernel
theorem d_M_bits_21 : decode prog_10_method_30_code 21 = .ok (.ldc2_w 117, 3) := by decide +kernel
theorem d_M_bits_24 : decode prog_10_method_30_code 24 = .ok (.aload_n 0, 1) := by decide +kernel
theorem d_M_bits_25 : decode prog_10_method_30_code 25 = .ok (.getfield 27, 3) := by decide +kernel
theorem d_M_bits_28 : decode prog_10_method_30_code 28 = .ok (.aload_n 0, 1) := by decide +kernel
theorem d_M_bits_29 : decode prog_10_method_30_code 29 = .ok (.getfield 199, 3) := by decide +kernel
theorem d_M_bits_32 : decode prog_10_method_30_code 32 = .ok (.laload, 1) := by decide +kernel
theorem d_M_bits_33 : decode prog_10_method_30_code 33 = .ok (.lmul, 1) := by decide +kernel
theorem d_M_bits_34 : decode prog_10_method_30_code 34 = .ok (.lcmp, 1) := by decide +kernel
theorem d_M_bits_35 : decode prog_10_method_30_code 35 = .ok (.ifCond .lt 12, 3) := by decide +kernel
theorem d_M_bits_38 : decode prog_10_method_30_code 38 = .ok (.aload_n 0, 1) := by decide +kernel
theorem d_M_bits_39 : decode prog_10_method_30_code 39 = .ok (.bipush 30, 2) := by decide +kernel
theorem d_M_bits_41 : decode prog_10_method_30_code 41 = .ok (.invokevirtual 202, 3) := by decide +kernel
theorem d_M_bits_44 : decode prog_10_method_30_code 44 = .ok (.pop, 1) := by decide +kernel
theorem d_M_bits_45 : decode prog_10_method_30_code 45 = .ok (.iconst 0, 1) := by decide +kernel
theorem d_M_bits_46 : decode prog_10_method_30_code 46 = .ok (.ireturn, 1) := by decide +kernel
theorem d_M_bits_47 : decode prog_10_method_30_code 47 = .ok (.iload_n 2, 1) := by decide +kernel
theorem d_M_bits_48 : decode prog_10_method_30_code 48 = .ok (.aload_n 0, 1) := by decide +kernel
theorem d_M_bits_49 : decode prog_10_method_30_code 49 = .ok (.aload_n 0, 1) := by decide +kernel
theorem d_M_bits_50 : decode prog_10_method_30_code 50 = .ok (.getfield 37, 3) := by decide +kernel
theorem d_M_bits_53 : decode prog_10_method_30_code 53 = .ok (.aload_n 0, 1) := by decide +kernel
theorem d_M_bits_54 : decode prog_10_method_30_code 54 = .ok (.getfield 199, 3) := by decide +kernel
theorem d_M_bits_57 : decode prog_10_method_30_code 57 = .ok (.iaload, 1) := by decide +kernel
theorem d_M_bits_58 : decode prog_10_method_30_code 58 = .ok (.aload_n 0, 1) := by decide +kernel
theorem d_M_bits_59 : decode prog_10_method_30_code 59 = .ok (.getfield 205, 3) := by decide +kernel
theorem d_M_bits_62 : decode prog_10_method_30_code 62 = .ok (.bipush 8, 2) := by decide +kernel
theorem d_M_bits_64 : decode prog_10_method_30_code 64 = .ok (.idiv, 1) := by decide +kernel
theorem d_M_bits_65 : decode prog_10_method_30_code 65 = .ok (.iadd, 1) := by decide +kernel
theorem d_M_bits_66 : decode prog_10_method_30_code 66 = .ok (.i2l, 1) := by decide +kernel
theorem d_M_bits_67 : decode prog_10_method_30_code 67 = .ok (.invokevirtual 100, 3) := by decide +kernel
theorem d_M_bits_70 : decode prog_10_method_30_code 70 = .ok (.aload_n 0, 1) := by decide +kernel
theorem d_M_bits_71 : decode prog_10_method_30_code 71 = .ok (.getfield 205, 3) := by decide +kernel
theorem d_M_bits_74 : decode prog_10_method_30_code 74 = .ok (.bipush 8, 2) := by decide +kernel
theorem d_M_bits_76 : decode prog_10_method_30_code 76 = .ok (.irem, 1) := by decide +kernel
theorem d_M_bits_77 : decode prog_10_method_30_code 77 = .ok (.ishr, 1) := by decide +kernel
theorem d_M_bits_78 : decode prog_10_method_30_code 78 = .ok (.iconst 1, 1) := by decide +kernel
theorem d_M_bits_79 : decode prog_10_method_30_code 79 = .ok (.iand, 1) := by decide +kernel
theorem d_M_bits_80 : decode prog_10_method_30_code 80 = .ok (.iload_n 3, 1) := by decide +kernel
theorem d_M_bits_81 : decode prog_10_method_30_code 81 = .ok (.ishl, 1) := by decide +kernel
theorem d_M_bits_82 : decode prog_10_method_30_code 82 = .ok (.ior, 1) := by decide +kernel
theorem d_M_bits_83 : decode prog_10_method_30_code 83 = .ok (.istore_n 2, 1) := by decide +kernel
theorem d_M_bits_84 : decode prog_10_method_30_code 84 = .ok (.aload_n 0, 1) := by decide +kernel
theorem d_M_bits_85 : decode prog_10_method_30_code 85 = .ok (.dup, 1) := by decide +kernel
theorem d_M_bits_86 : decode prog_10_method_30_code 86 = .ok (.getfield 205, 3) := by decide +kernel
theorem d_M_bits_89 : decode prog_10_method_30_code 89 = .ok (.iconst 1, 1) := by decide +kernel
theorem d_M_bits_90 : decode prog_10_method_30_code 90 = .ok (.iadd, 1) := by decide +kernel
theorem d_M_bits_91 : decode prog_10_method_30_code 91 = .ok (.putfield 205, 3) := by decide +kernel
theorem d_M_bits_94 : decode prog_10_method_30_code 94 = .ok (.iinc 3 1, 3) := by decide +kernel
theorem d_M_bits_97 : decode prog_10_method_30_code 97 = .ok (.goto (-93), 3) := by decide +kernel
theorem d_M_bits_100 : decode prog_10_method_30_code 100 = .ok (.aload_n 0, 1) := by decide +kernel
theorem d_M_bits_101 : decode prog_10_method_30_code 101 = .ok (.getfield 196, 3) := by decide +kernel
theorem d_M_bits_104 : decode prog_10_method_30_code 104 = .ok (.ifCond .ne 7, 3) := by decide +kernel
theorem d_M_bits_107 : decode prog_10_method_30_code 107 = .ok (.iload_n 2, 1) := by decide +kernel
theorem d_M_bits_108 : decode prog_10_method_30_code 108 = .ok (.goto 4, 3) := by decide +kernel
theorem d_M_bits_111 : decode prog_10_method_30_code 111 = .ok (.iconst 0, 1) := by decide +kernel
theorem d_M_bits_112 : decode prog_10_method_30_code 112 = .ok (.ireturn, 1) := by decide +kernel
theorem d_M_end_0 : decode prog_10_method_6_code 0 = .ok (.aload_n 0, 1) := by decide +kernel
theorem d_M_end_1 : decode prog_10_method_6_code 1 = .ok (.iload_n 1, 1) := by decide +kernel
theorem d_M_end_2 : decode prog_10_method_6_code 2 = .ok (.ifCond .lt 11, 3) := by decide +kernel
theorem d_M_end_5 : decode prog_10_method_6_code 5 = .ok (.iload_n 1, 1) := by decide +kernel
theorem d_M_end_6 : decode prog_10_method_6_code 6 = .ok (.aload_n 0, 1) := by decide +kernel
theorem d_M_end_7 : decode prog_10_method_6_code 7 = .ok (.getfield 90, 3) := by decide +kernel
theorem d_M_end_10 : decode prog_10_method_6_code 10 = .ok (.if_icmp .le 7, 3) := by decide +kernel
theorem d_M_end_13 : decode prog_10_method_6_code 13 = .ok (.iconst 1, 1) := by decide +kernel
theorem d_M_end_14 : decode prog_10_method_6_code 14 = .ok (.goto 4, 3) := by decide +kernel
theorem d_M_end_17 : decode prog_10_method_6_code 17 = .ok (.iconst 0, 1) := by decide +kernel
theorem d_M_end_18 : decode prog_10_method_6_code 18 = .ok (.iconst 1, 1) := by decide +kernel
theorem d_M_end_19 : decode prog_10_method_6_code 19 = .ok (.invokevirtual 93, 3) := by decide +kernel
theorem d_M_end_22 : decode prog_10_method_6_code 22 = .ok (.ifCond .eq 4, 3) := by decide +kernel
theorem d_M_end_25 : decode prog_10_method_6_code 25 = .ok (.return_, 1) := by decide +kernel
theorem d_M_end_26 : decode prog_10_method_6_code 26 = .ok (.aload_n 0, 1) := by decide +kernel
theorem d_M_end_27 : decode prog_10_method_6_code 27 = .ok (.iload_n 1, 1) := by decide +kernel
theorem d_M_end_28 : decode prog_10_method_6_code 28 = .ok (.putfield 90, 3) := by decide +kernel
theorem d_M_end_31 : decode prog_10_method_6_code 31 = .ok (.aload_n 0, 1) := by decide +kernel
theorem d_M_end_32 : decode prog_10_method_6_code 32 = .ok (.invokevirtual 97, 3) := by decide +kernel
theorem d_M_end_35 : decode prog_10_method_6_code 35 = .ok (.return_, 1) := by decide +kernel
theorem d_M_fails_0 : decode prog_10_method_3_code 0 = .ok (.aload_n 0, 1) := by decide +kernel
theorem d_M_fails_1 : decode prog_10_method_3_code 1 = .ok (.iload_n 1, 1) := by decide +kernel
theorem d_M_fails_2 : decode prog_10_method_3_code 2 = .ok (.ifCond .eq 7, 3) := by decide +kernel
theorem d_M_fails_5 : decode prog_10_method_3_code 5 = .ok (.iload_n 2, 1) := by decide +kernel
theorem d_M_fails_6 : decode prog_10_method_3_code 6 = .ok (.goto 4, 3) := by decide +kernel
theorem d_M_fails_9 : decode prog_10_method_3_code 9 = .ok (.iconst 0, 1) := by decide +kernel
theorem d_M_fails_10 : decode prog_10_method_3_code 10 = .ok (.putfield 77, 3) := by decide +kernel
theorem d_M_fails_13 : decode prog_10_method_3_code 13 = .ok (.iload_n 1, 1) := by decide +kernel
theorem d_M_fails_14 : decode prog_10_method_3_code 14 = .ok (.ireturn, 1) := by decide +kernel
theorem d_M_feed_0 : decode prog_10_method_5_code 0 = .ok (.aload_n 0, 1) := by decide +kernel
theorem d_M_feed_1 : decode prog_10_method_5_code 1 = .ok (.aload_n 0, 1) := by decide +kernel
theorem d_M_feed_2 : decode prog_10_method_5_code 2 = .ok (.getfield 90, 3) := by decide +kernel
theorem d_M_feed_5 : decode prog_10_method_5_code 5 = .ok (.bipush 20, 2) := by decide +kernel
theorem d_M_feed_7 : decode prog_10_method_5_code 7 = .ok (.iadd, 1) := by decide +kernel
theorem d_M_feed_8 : decode prog_10_method_5_code 8 = .ok (.sipush 20000, 3) := by decide +kernel
theorem d_M_feed_11 : decode prog_10_method_5_code 11 = .ok (.if_icmp .le 7, 3) := by decide +kernel
theorem d_M_feed_14 : decode prog_10_method_5_code 14 = .ok (.iconst 1, 1) := by decide +kernel
theorem d_M_feed_15 : decode prog_10_method_5_code 15 = .ok (.goto 4, 3) := by decide +kernel
theorem d_M_feed_18 : decode prog_10_method_5_code 18 = .ok (.iconst 0, 1) := by decide +kernel
theorem d_M_feed_19 : decode prog_10_method_5_code 19 = .ok (.iconst 1, 1) := by decide +kernel
theorem d_M_feed_20 : decode prog_10_method_5_code 20 = .ok (.invokevirtual 93, 3) := by decide +kernel
theorem d_M_feed_23 : decode prog_10_method_5_code 23 = .ok (.ifCond .eq 5, 3) := by decide +kernel
theorem d_M_feed_26 : decode prog_10_method_5_code 26 = .ok (.iconst 0, 1) := by decide +kernel
theorem d_M_feed_27 : decode prog_10_method_5_code 27 = .ok (.ireturn, 1) := by decide +kernel
theorem d_M_feed_28 : decode prog_10_method_5_code 28 = .ok (.iconst 0, 1) := by decide +kernel
theorem d_M_feed_29 : decode prog_10_method_5_code 29 = .ok (.istore 6, 2) := by decide +kernel
theorem d_M_feed_31 : decode prog_10_method_5_code 31 = .ok (.iload 6, 2) := by decide +kernel
theorem d_M_feed_33 : decode prog_10_method_5_code 33 = .ok (.bipush 20, 2) := by decide +kernel
theorem d_M_feed_35 : decode prog_10_method_5_code 35 = .ok (.if_icmp .ge 83, 3) := by decide +kernel
theorem d_M_feed_38 : decode prog_10_method_5_code 38 = .ok (.iload 6, 2) := by decide +kernel
theorem d_M_feed_40 : decode prog_10_method_5_code 40 = .ok (.iconst 4, 1) := by decide +kernel
theorem d_M_feed_41 : decode prog_10_method_5_code 41 = .ok (.if_icmp .ge 7, 3) := by decide +kernel
theorem d_M_feed_44 : decode prog_10_method_5_code 44 = .ok (.iload_n 1, 1) := by decide +kernel
theorem d_M_feed_45 : decode prog_10_method_5_code 45 = .ok (.goto 39, 3) := by decide +kernel
theorem d_M_feed_48 : decode prog_10_method_5_code 48 = .ok (.iload 6, 2) := by decide +kernel
theorem d_M_feed_50 : decode prog_10_method_5_code 50 = .ok (.bipush 8, 2) := by decide +kernel
theorem d_M_feed_52 : decode prog_10_method_5_code 52 = .ok (.if_icmp .ge 7, 3) := by decide +kernel
theorem d_M_feed_55 : decode prog_10_method_5_code 55 = .ok (.iload_n 2, 1) := by decide +kernel
theorem d_M_feed_56 : decode prog_10_method_5_code 56 = .ok (.goto 28, 3) := by decide +kernel
theorem d_M_feed_59 : decode prog_10_method_5_code 59 = .ok (.iload 6, 2) := by decide +kernel
theorem d_M_feed_61 : decode prog_10_method_5_code 61 = .ok (.bipush 12, 2) := by decide +kernel
theorem d_M_feed_63 : decode prog_10_method_5_code 63 = .ok (.if_icmp .ge 7, 3) := by decide +kernel
theorem d_M_feed_66 : decode prog_10_method_5_code 66 = .ok (.iload_n 3, 1) := by decide +kernel
theorem d_M_feed_67 : decode prog_10_method_5_code 67 = .ok (.goto 17, 3) := by decide +kernel
theorem d_M_feed_70 : decode prog_10_method_5_code 70 = .ok (.iload 6, 2) := by decide +kernel
theorem d_M_feed_72 : decode prog_10_method_5_code 72 = .ok (.bipush 16, 2) := by decide +kernel
theorem d_M_feed_74 : decode prog_10_method_5_code 74 = .ok (.if_icmp .ge 8, 3) := by decide +kernel
theorem d_M_feed_77 : decode prog_10_method_5_code 77 = .ok (.iload 4, 2) := by decide +kernel
theorem d_M_feed_79 : decode prog_10_method_5_code 79 = .ok (.goto 5, 3) := by decide +kernel
theorem d_M_feed_82 : decode prog_10_method_5_code 82 = .ok (.iload 5, 2) := by decide +kernel
theorem d_M_feed_84 : decode prog_10_method_5_code 84 = .ok (.istore 7, 2) := by decide +kernel
theorem d_M_feed_86 : decode prog_10_method_5_code 86 = .ok (.aload_n 0, 1) := by decide +kernel
theorem d_M_feed_87 : decode prog_10_method_5_code 87 = .ok (.getfield 7, 3) := by decide +kernel
theorem d_M_feed_90 : decode prog_10_method_5_code 90 = .ok (.aload_n 0, 1) := by decide +kernel
theorem d_M_feed_91 : decode prog_10_method_5_code 91 = .ok (.getfield 90, 3) := by decide +kernel
theorem d_M_feed_94 : decode prog_10_method_5_code 94 = .ok (.iload 6, 2) := by decide +kernel
theorem d_M_feed_96 : decode prog_10_method_5_code 96 = .ok (.iadd, 1) := by decide +kernel
theorem d_M_feed_97 : decode prog_10_method_5_code 97 = .ok (.iload 7, 2) := by decide +kernel
theorem d_M_feed_99 : decode prog_10_method_5_code 99 = .ok (.bipush 24, 2) := by decide +kernel
theorem d_M_feed_101 : decode prog_10_method_5_code 101 = .ok (.bipush 8, 2) := by decide +kernel
theorem d_M_feed_103 : decode prog_10_method_5_code 103 = .ok (.iload 6, 2) := by decide +kernel
theorem d_M_feed_105 : decode prog_10_method_5_code 105 = .ok (.iconst 4, 1) := by decide +kernel
theorem d_M_feed_106 : decode prog_10_method_5_code 106 = .ok (.irem, 1) := by decide +kernel
theorem d_M_feed_107 : decode prog_10_method_5_code 107 = .ok (.imul, 1) := by decide +kernel
theorem d_M_feed_108 : decode prog_10_method_5_code 108 = .ok (.isub, 1) := by decide +kernel
theorem d_M_feed_109 : decode prog_10_method_5_code 109 = .ok (.ishr, 1) := by decide +kernel
theorem d_M_feed_110 : decode prog_10_method_5_code 110 = .ok (.i2b, 1) := by decide +kernel
theorem d_M_feed_111 : decode prog_10_method_5_code 111 = .ok (.bastore, 1) := by decide +kernel
theorem d_M_feed_112 : decode prog_10_method_5_code 112 = .ok (.iinc 6 1, 3) := by decide +kernel
theorem d_M_feed_115 : decode prog_10_method_5_code 115 = .ok (.goto (-84), 3) := by decide +kernel
theorem d_M_feed_118 : decode prog_10_method_5_code 118 = .ok (.aload_n 0, 1) := by decide +kernel
theorem d_M_feed_119 : decode prog_10_method_5_code 119 = .ok (.dup, 1) := by decide +kernel
theorem d_M_feed_120 : decode prog_10_method_5_code 120 = .ok (.getfield 90, 3) := by decide +kernel
theorem d_M_feed_123 : decode prog_10_method_5_code 123 = .ok (.bipush 20, 2) := by decide +kernel
theorem d_M_feed_125 : decode prog_10_method_5_code 125 = .ok (.iadd, 1) := by decide +kernel
theorem d_M_feed_126 : decode prog_10_method_5_code 126 = .ok (.putfield 90, 3) := by decide +kernel
theorem d_M_feed_129 : decode prog_10_method_5_code 129 = .ok (.aload_n 0, 1) := by decide +kernel
theorem d_M_feed_130 : decode prog_10_method_5_code 130 = .ok (.invokevirtual 97, 3) := by decide +kernel
theorem d_M_feed_133 : decode prog_10_method_5_code 133 = .ok (.aload_n 0, 1) := by decide +kernel
theorem d_M_feed_134 : decode prog_10_method_5_code 134 = .ok (.getfield 90, 3) := by decide +kernel
theorem d_M_feed_137 : decode prog_10_method_5_code 137 = .ok (.ireturn, 1) := by decide +kernel
theorem d_M_limits_0 : decode prog_10_method_27_code 0 = .ok (.aload_n 0, 1) := by decide +kernel
theorem d_M_limits_1 : decode prog_10_method_27_code 1 = .ok (.iload_n 1, 1) := by decide +kernel
theorem d_M_limits_2 : decode prog_10_method_27_code 2 = .ok (.ifCond .lt 20, 3) := by decide +kernel
theorem d_M_limits_5 : decode prog_10_method_27_code 5 = .ok (.iload_n 1, 1) := by decide +kernel
theorem d_M_limits_6 : decode prog_10_method_27_code 6 = .ok (.ldc 61, 2) := by decide +kernel
theorem d_M_limits_8 : decode prog_10_method_27_code 8 = .ok (.if_icmp .gt 14, 3) := by decide +kernel
theorem d_M_limits_11 : decode prog_10_method_27_code 11 = .ok (.iload_n 2, 1) := by decide +kernel
theorem d_M_limits_12 : decode prog_10_method_27_code 12 = .ok (.ifCond .lt 10, 3) := by decide +kernel
theorem d_M_limits_15 : decode prog_10_method_27_code 15 = .ok (.iload_n 2, 1) := by decide +kernel
theorem d_M_limits_16 : decode prog_10_method_27_code 16 = .ok (.sipush 2000, 3) := by decide +kernel
theorem d_M_limits_19 : decode prog_10_method_27_code 19 = .ok (.if_icmp .le 7, 3) := by decide +kernel
theorem d_M_limits_22 : decode prog_10_method_27_code 22 = .ok (.iconst 1, 1) := by decide +kernel
theorem d_M_limits_23 : decode prog_10_method_27_code 23 = .ok (.goto 4, 3) := by decide +kernel
theorem d_M_limits_26 : decode prog_10_method_27_code 26 = .ok (.iconst 0, 1) := by decide +kernel
theorem d_M_limits_27 : decode prog_10_method_27_code 27 = .ok (.iconst 1, 1) := by decide +kernel
theorem d_M_limits_28 : decode prog_10_method_27_code 28 = .ok (.invokevirtual 93, 3) := by decide +kernel
theorem d_M_limits_31 : decode prog_10_method_27_code 31 = .ok (.ifCond .eq 4, 3) := by decide +kernel
theorem d_M_limits_34 : decode prog_10_method_27_code 34 = .ok (.return_, 1) := by decide +kernel
theorem d_M_limits_35 : decode prog_10_method_27_code 35 = .ok (.aload_n 0, 1) := by decide +kernel
theorem d_M_limits_36 : decode prog_10_method_27_code 36 = .ok (.iload_n 1, 1) := by decide +kernel
theorem d_M_limits_37 : decode prog_10_method_27_code 37 = .ok (.putfield 17, 3) := by decide +kernel
theorem d_M_limits_40 : decode prog_10_method_27_code 40 = .ok (.aload_n 0, 1) := by decide +kernel
theorem d_M_limits_41 : decode prog_10_method_27_code 41 = .ok (.iload_n 2, 1) := by decide +kernel
theorem d_M_limits_42 : decode prog_10_method_27_code 42 = .ok (.putfield 20, 3) := by decide +kernel
theorem d_M_limits_45 : decode prog_10_method_27_code 45 = .ok (.return_, 1) := by decide +kernel
theorem d_M_number_0 : decode prog_10_method_31_code 0 = .ok (.iconst 0, 1) := by decide +kernel
theorem d_M_number_1 : decode prog_10_method_31_code 1 = .ok (.istore 4, 2) := by decide +kernel
theorem d_M_number_3 : decode prog_10_method_31_code 3 = .ok (.iconst 1, 1) := by decide +kernel
theorem d_M_number_4 : decode prog_10_method_31_code 4 = .ok (.istore 5, 2) := by decide +kernel
theorem d_M_number_6 : decode prog_10_method_31_code 6 = .ok (.iload 5, 2) := by decide +kernel
theorem d_M_number_8 : decode prog_10_method_31_code 8 = .ok (.bipush 15, 2) := by decide +kernel
theorem d_M_number_10 : decode prog_10_method_31_code 10 = .ok (.if_icmp .gt 55, 3) := by decide +kernel
theorem d_M_number_13 : decode prog_10_method_31_code 13 = .ok (.iload 4, 2) := by decide +kernel
theorem d_M_number_15 : decode prog_10_method_31_code 15 = .ok (.iconst 1, 1) := by decide +kernel
theorem d_M_number_16 : decode prog_10_method_31_code 16 = .ok (.ishl, 1) := by decide +kernel
theorem d_M_number_17 : decode prog_10_method_31_code 17 = .ok (.istore 4, 2) := by decide +kernel
theorem d_M_number_19 : decode prog_10_method_31_code 19 = .ok (.iconst 0, 1) := by decide +kernel
theorem d_M_number_20 : decode prog_10_method_31_code 20 = .ok (.istore 6, 2) := by decide +kernel
theorem d_M_number_22 : decode prog_10_method_31_code 22 = .ok (.iload 6, 2) := by decide +kernel
theorem d_M_number_24 : decode prog_10_method_31_code 24 = .ok (.iload_n 3, 1) := by decide +kernel
theorem d_M_number_25 : decode prog_10_method_31_code 25 = .ok (.if_icmp .ge 34, 3) := by decide +kernel
theorem d_M_number_28 : decode prog_10_method_31_code 28 = .ok (.aload_n 0, 1) := by decide +kernel
theorem d_M_number_29 : decode prog_10_method_31_code 29 = .ok (.iload_n 2, 1) := by decide +kernel
theorem d_M_number_30 : decode prog_10_method_31_code 30 = .ok (.iload 6, 2) := by decide +kernel
theorem d_M_number_32 : decode prog_10_method_31_code 32 = .ok (.iadd, 1) := by decide +kernel
theorem d_M_number_33 : decode prog_10_method_31_code 33 = .ok (.iaload, 1) := by decide +kernel
theorem d_M_number_34 : decode prog_10_method_31_code 34 = .ok (.iload 5, 2) := by decide +kernel
theorem d_M_number_36 : decode prog_10_method_31_code 36 = .ok (.if_icmp .eq 6, 3) := by decide +kernel
theorem d_M_number_39 : decode prog_10_method_31_code 39 = .ok (.goto 14, 3) := by decide +kernel
theorem d_M_number_42 : decode prog_10_method_31_code 42 = .ok (.aload_n 1, 1) := by decide +kernel
theorem d_M_number_43 : decode prog_10_method_31_code 43 = .ok (.iload_n 2, 1) := by decide +kernel
theorem d_M_number_44 : decode prog_10_method_31_code 44 = .ok (.iload 6, 2) := by decide +kernel
theorem d_M_number_46 : decode prog_10_method_31_code 46 = .ok (.iadd, 1) := by decide +kernel
theorem d_M_number_47 : decode prog_10_method_31_code 47 = .ok (.iload 4, 2) := by decide +kernel
theorem d_M_number_49 : decode prog_10_method_31_code 49 = .ok (.iastore, 1) := by decide +kernel
theorem d_M_number_50 : decode prog_10_method_31_code 50 = .ok (.iinc 4 1, 3) := by decide +kernel
theorem d_M_number_53 : decode prog_10_method_31_code 53 = .ok (.iinc 6 1, 3) := by decide +kernel
theorem d_M_number_56 : decode prog_10_method_31_code 56 = .ok (.goto (-34), 3) := by decide +kernel
theorem d_M_number_59 : decode prog_10_method_31_code 59 = .ok (.iinc 5 1, 3) := by decide +kernel
theorem d_M_number_62 : decode prog_10_method_31_code 62 = .ok (.goto (-56), 3) := by decide +kernel
theorem d_M_number_65 : decode prog_10_method_31_code 65 = .ok (.return_, 1) := by decide +kernel
theorem d_M_place_0 : decode prog_10_method_26_code 0 = .ok (.aload_n 0, 1) := by decide +kernel
theorem d_M_place_1 : decode prog_10_method_26_code 1 = .ok (.iconst 0, 1) := by decide +kernel
theorem d_M_place_2 : decode prog_10_method_26_code 2 = .ok (.putfield 77, 3) := by decide +kernel
theorem d_M_place_5 : decode prog_10_method_26_code 5 = .ok (.aload_n 0, 1) := by decide +kernel
theorem d_M_place_6 : decode prog_10_method_26_code 6 = .ok (.getfield 13, 3) := by decide +kernel
theorem d_M_place_9 : decode prog_10_method_26_code 9 = .ok (.ireturn, 1) := by decide +kernel
theorem d_M_refuse_0 : decode prog_10_method_28_code 0 = .ok (.aload_n 0, 1) := by decide +kernel
theorem d_M_refuse_1 : decode prog_10_method_28_code 1 = .ok (.getfield 196, 3) := by decide +kernel
theorem d_M_refuse_4 : decode prog_10_method_28_code 4 = .ok (.ifCond .ne 8, 3) := by decide +kernel
theorem d_M_refuse_7 : decode prog_10_method_28_code 7 = .ok (.aload_n 0, 1) := by decide +kernel
theorem d_M_refuse_8 : decode prog_10_method_28_code 8 = .ok (.iload_n 1, 1) := by decide +kernel
theorem d_M_refuse_9 : decode prog_10_method_28_code 9 = .ok (.putfield 196, 3) := by decide +kernel
theorem d_M_refuse_12 : decode prog_10_method_28_code 12 = .ok (.iconst 0, 1) := by decide +kernel
theorem d_M_refuse_13 : decode prog_10_method_28_code 13 = .ok (.ireturn, 1) := by decide +kernel
theorem d_M_shut_0 : decode prog_10_method_4_code 0 = .ok (.aload_n 0, 1) := by decide +kernel
theorem d_M_shut_1 : decode prog_10_method_4_code 1 = .ok (.iconst 0, 1) := by decide +kernel
theorem d_M_shut_2 : decode prog_10_method_4_code 2 = .ok (.putfield 80, 3) := by decide +kernel
theorem d_M_shut_5 : decode prog_10_method_4_code 5 = .ok (.aload_n 0, 1) := by decide +kernel
theorem d_M_shut_6 : decode prog_10_method_4_code 6 = .ok (.iconst 0, 1) := by decide +kernel
theorem d_M_shut_7 : decode prog_10_method_4_code 7 = .ok (.putfield 84, 3) := by decide +kernel
theorem d_M_shut_10 : decode prog_10_method_4_code 10 = .ok (.aload_n 0, 1) := by decide +kernel
theorem d_M_shut_11 : decode prog_10_method_4_code 11 = .ok (.iconst 0, 1) := by decide +kernel
theorem d_M_shut_12 : decode prog_10_method_4_code 12 = .ok (.putfield 87, 3) := by decide +kernel
theorem d_M_shut_15 : decode prog_10_method_4_code 15 = .ok (.return_, 1) := by decide +kernel
theorem d_M_stop_0 : decode prog_10_method_12_code 0 = .ok (.aload_n 0, 1) := by decide +kernel
theorem d_M_stop_1 : decode prog_10_method_12_code 1 = .ok (.lload_n 2, 1) := by decide +kernel
theorem d_M_stop_2 : decode prog_10_method_12_code 2 = .ok (.l2i, 1) := by decide +kernel
theorem d_M_stop_3 : decode prog_10_method_12_code 3 = .ok (.putfield 13, 3) := by decide +kernel
theorem d_M_stop_6 : decode prog_10_method_12_code 6 = .ok (.iload_n 1, 1) := by decide +kernel
theorem d_M_stop_7 : decode prog_10_method_12_code 7 = .ok (.ineg, 1) := by decide +kernel
theorem d_M_stop_8 : decode prog_10_method_12_code 8 = .ok (.ireturn, 1) := by decide +kernel
theorem d_M_symbol_0 : decode prog_10_method_32_code 0 = .ok (.iconst 0, 1) := by decide +kernel
theorem d_M_symbol_1 : decode prog_10_method_32_code 1 = .ok (.istore 5, 2) := by decide +kernel
theorem d_M_symbol_3 : decode prog_10_method_32_code 3 = .ok (.iconst 0, 1) := by decide +kernel
theorem d_M_symbol_4 : decode prog_10_method_32_code 4 = .ok (.istore 6, 2) := by decide +kernel
theorem d_M_symbol_6 : decode prog_10_method_32_code 6 = .ok (.iconst 1, 1) := by decide +kernel
theorem d_M_symbol_7 : decode prog_10_method_32_code 7 = .ok (.istore 7, 2) := by decide +kernel
theorem d_M_symbol_9 : decode prog_10_method_32_code 9 = .ok (.iload 7, 2) := by decide +kernel
theorem d_M_symbol_11 : decode prog_10_method_32_code 11 = .ok (.ifCond .eq 112, 3) := by decide +kernel
theorem d_M_symbol_14 : decode prog_10_method_32_code 14 = .ok (.iload 5, 2) := by decide +kernel
theorem d_M_symbol_16 : decode prog_10_method_32_code 16 = .ok (.iconst 1, 1) := by decide +kernel
theorem d_M_symbol_17 : decode prog_10_method_32_code 17 = .ok (.ishl, 1) := by decide +kernel
theorem d_M_symbol_18 : decode prog_10_method_32_code 18 = .ok (.aload_n 0, 1) := by decide +kernel
theorem d_M_symbol_19 : decode prog_10_method_32_code 19 = .ok (.iconst 1, 1) := by decide +kernel
theorem d_M_symbol_20 : decode prog_10_method_32_code 20 = .ok (.invokevirtual 208, 3) := by decide +kernel
theorem d_M_symbol_23 : decode prog_10_method_32_code 23 = .ok (.ior, 1) := by decide +kernel
theorem d_M_symbol_24 : decode prog_10_method_32_code 24 = .ok (.istore 5, 2) := by decide +kernel
theorem d_M_symbol_26 : decode prog_10_method_32_code 26 = .ok (.iinc 6 1, 3) := by decide +kernel
theorem d_M_symbol_29 : decode prog_10_method_32_code 29 = .ok (.aload_n 0, 1) := by decide +kernel
theorem d_M_symbol_30 : decode prog_10_method_32_code 30 = .ok (.getfield 196, 3) := by decide +kernel
theorem d_M_symbol_33 : decode prog_10_method_32_code 33 = .ok (.ifCond .eq 5, 3) := by decide +kernel
theorem d_M_symbol_36 : decode prog_10_method_32_code 36 = .ok (.iconst (-1), 1) := by decide +kernel
theorem d_M_symbol_37 : decode prog_10_method_32_code 37 = .ok (.ireturn, 1) := by decide +kernel
theorem d_M_symbol_38 : decode prog_10_method_32_code 38 = .ok (.iconst 0, 1) := by decide +kernel
theorem d_M_symbol_39 : decode prog_10_method_32_code 39 = .ok (.istore 7, 2) := by decide +kernel
theorem d_M_symbol_41 : decode prog_10_method_32_code 41 = .ok (.iconst 0, 1) := by decide +kernel
theorem d_M_symbol_42 : decode prog_10_method_32_code 42 = .ok (.istore 8, 2) := by decide +kernel
theorem d_M_symbol_44 : decode prog_10_method_32_code 44 = .ok (.iload 8, 2) := by decide +kernel
theorem d_M_symbol_46 : decode prog_10_method_32_code 46 = .ok (.iload 4, 2) := by decide +kernel
theorem d_M_symbol_48 : decode prog_10_method_32_code 48 = .ok (.if_icmp .ge 72, 3) := by decide +kernel
theorem d_M_symbol_51 : decode prog_10_method_32_code 51 = .ok (.aload_n 1, 1) := by decide +kernel
theorem d_M_symbol_52 : decode prog_10_method_32_code 52 = .ok (.iload_n 3, 1) := by decide +kernel
theorem d_M_symbol_53 : decode prog_10_method_32_code 53 = .ok (.iload 8, 2) := by decide +kernel
theorem d_M_symbol_55 : decode prog_10_method_32_code 55 = .ok (.iadd, 1) := by decide +kernel
theorem d_M_symbol_56 : decode prog_10_method_32_code 56 = .ok (.iaload, 1) := by decide +kernel
theorem d_M_symbol_57 : decode prog_10_method_32_code 57 = .ok (.istore 9, 2) := by decide +kernel
theorem d_M_symbol_59 : decode prog_10_method_32_code 59 = .ok (.iload 9, 2) := by decide +kernel
theorem d_M_symbol_61 : decode prog_10_method_32_code 61 = .ok (.iload 6, 2) := by decide +kernel
theorem d_M_symbol_63 : decode prog_10_method_32_code 63 = .ok (.if_icmp .ne 17, 3) := by decide +kernel
theorem d_M_symbol_66 : decode prog_10_method_32_code 66 = .ok (.aload_n 2, 1) := by decide +kernel
theorem d_M_symbol_67 : decode prog_10_method_32_code 67 = .ok (.iload_n 3, 1) := by decide +kernel
theorem d_M_symbol_68 : decode prog_10_method_32_code 68 = .ok (.iload 8, 2) := by decide +kernel
theorem d_M_symbol_70 : decode prog_10_method_32_code 70 = .ok (.iadd, 1) := by decide +kernel
theorem d_M_symbol_71 : decode prog_10_method_32_code 71 = .ok (.iaload, 1) := by decide +kernel
theorem d_M_symbol_72 : decode prog_10_method_32_code 72 = .ok (.iload 5, 2) := by decide +kernel
theorem d_M_symbol_74 : decode prog_10_method_32_code 74 = .ok (.if_icmp .ne 6, 3) := by decide +kernel
theorem d_M_symbol_77 : decode prog_10_method_32_code 77 = .ok (.iload 8, 2) := by decide +kernel
theorem d_M_symbol_79 : decode prog_10_method_32_code 79 = .ok (.ireturn, 1) := by decide +kernel
theorem d_M_symbol_80 : decode prog_10_method_32_code 80 = .ok (.iload 7, 2) := by decide +kernel
theorem d_M_symbol_82 : decode prog_10_method_32_code 82 = .ok (.iload 9, 2) := by decide +kernel
theorem d_M_symbol_84 : decode prog_10_method_32_code 84 = .ok (.iload 6, 2) := by decide +kernel
theorem d_M_symbol_86 : decode prog_10_method_32_code 86 = .ok (.if_icmp .le 24, 3) := by decide +kernel
theorem d_M_symbol_89 : decode prog_10_method_32_code 89 = .ok (.aload_n 2, 1) := by decide +kernel
theorem d_M_symbol_90 : decode prog_10_method_32_code 90 = .ok (.iload_n 3, 1) := by decide +kernel
theorem d_M_symbol_91 : decode prog_10_method_32_code 91 = .ok (.iload 8, 2) := by decide +kernel
theorem d_M_symbol_93 : decode prog_10_method_32_code 93 = .ok (.iadd, 1) := by decide +kernel
theorem d_M_symbol_94 : decode prog_10_method_32_code 94 = .ok (.iaload, 1) := by decide +kernel
theorem d_M_symbol_95 : decode prog_10_method_32_code 95 = .ok (.iload 9, 2) := by decide +kernel
theorem d_M_symbol_97 : decode prog_10_method_32_code 97 = .ok (.iload 6, 2) := by decide +kernel
theorem d_M_symbol_99 : decode prog_10_method_32_code 99 = .ok (.isub, 1) := by decide +kernel
theorem d_M_symbol_100 : decode prog_10_method_32_code 100 = .ok (.ishr, 1) := by decide +kernel
theorem d_M_symbol_101 : decode prog_10_method_32_code 101 = .ok (.iload 5, 2) := by decide +kernel
theorem d_M_symbol_103 : decode prog_10_method_32_code 103 = .ok (.if_icmp .ne 7, 3) := by decide +kernel
theorem d_M_symbol_106 : decode prog_10_method_32_code 106 = .ok (.iconst 1, 1) := by decide +kernel
theorem d_M_symbol_107 : decode prog_10_method_32_code 107 = .ok (.goto 4, 3) := by decide +kernel
theorem d_M_symbol_110 : decode prog_10_method_32_code 110 = .ok (.iconst 0, 1) := by decide +kernel
theorem d_M_symbol_111 : decode prog_10_method_32_code 111 = .ok (.ior, 1) := by decide +kernel
theorem d_M_symbol_112 : decode prog_10_method_32_code 112 = .ok (.istore 7, 2) := by decide +kernel
theorem d_M_symbol_114 : decode prog_10_method_32_code 114 = .ok (.iinc 8 1, 3) := by decide +kernel
theorem d_M_symbol_117 : decode prog_10_method_32_code 117 = .ok (.goto (-73), 3) := by decide +kernel
theorem d_M_symbol_120 : decode prog_10_method_32_code 120 = .ok (.goto (-111), 3) := by decide +kernel
theorem d_M_symbol_123 : decode prog_10_method_32_code 123 = .ok (.aload_n 0, 1) := by decide +kernel
theorem d_M_symbol_124 : decode prog_10_method_32_code 124 = .ok (.bipush 34, 2) := by decide +kernel
theorem d_M_symbol_126 : decode prog_10_method_32_code 126 = .ok (.invokevirtual 202, 3) := by decide +kernel
theorem d_M_symbol_129 : decode prog_10_method_32_code 129 = .ok (.pop, 1) := by decide +kernel
theorem d_M_symbol_130 : decode prog_10_method_32_code 130 = .ok (.iconst (-1), 1) := by decide +kernel
theorem d_M_symbol_131 : decode prog_10_method_32_code 131 = .ok (.ireturn, 1) := by decide +kernel
theorem d_M_write_0 : decode prog_10_method_29_code 0 = .ok (.aload_n 0, 1) := by decide +kernel
theorem d_M_write_1 : decode prog_10_method_29_code 1 = .ok (.getfield 196, 3) := by decide +kernel
theorem d_M_write_4 : decode prog_10_method_29_code 4 = .ok (.ifCond .eq 5, 3) := by decide +kernel
theorem d_M_write_7 : decode prog_10_method_29_code 7 = .ok (.iconst 0, 1) := by decide +kernel
theorem d_M_write_8 : decode prog_10_method_29_code 8 = .ok (.ireturn, 1) := by decide +kernel
theorem d_M_write_9 : decode prog_10_method_29_code 9 = .ok (.aload_n 0, 1) := by decide +kernel
theorem d_M_write_10 : decode prog_10_method_29_code 10 = .ok (.getfield 58, 3) := by decide +kernel
theorem d_M_write_13 : decode prog_10_method_29_code 13 = .ok (.aload_n 0, 1) := by decide +kernel
theorem d_M_write_14 : decode prog_10_method_29_code 14 = .ok (.getfield 199, 3) := by decide +kernel
theorem d_M_write_17 : decode prog_10_method_29_code 17 = .ok (.iaload, 1) := by decide +kernel
theorem d_M_write_18 : decode prog_10_method_29_code 18 = .ok (.i2l, 1) := by decide +kernel
theorem d_M_write_19 : decode prog_10_method_29_code 19 = .ok (.aload_n 0, 1) := by decide +kernel
theorem d_M_write_20 : decode prog_10_method_29_code 20 = .ok (.getfield 31, 3) := by decide +kernel
theorem d_M_write_23 : decode prog_10_method_29_code 23 = .ok (.aload_n 0, 1) := by decide +kernel
theorem d_M_write_24 : decode prog_10_method_29_code 24 = .ok (.getfield 199, 3) := by decide +kernel
theorem d_M_write_27 : decode prog_10_method_29_code 27 = .ok (.laload, 1) := by decide +kernel
theorem d_M_write_28 : decode prog_10_method_29_code 28 = .ok (.lcmp, 1) := by decide +kernel
theorem d_M_write_29 : decode prog_10_method_29_code 29 = .ok (.ifCond .lt 10, 3) := by decide +kernel
theorem d_M_write_32 : decode prog_10_method_29_code 32 = .ok (.aload_n 0, 1) := by decide +kernel
theorem d_M_write_33 : decode prog_10_method_29_code 33 = .ok (.bipush 20, 2) := by decide +kernel
theorem d_M_write_35 : decode prog_10_method_29_code 35 = .ok (.invokevirtual 202, 3) := by decide +kernel
theorem d_M_write_38 : decode prog_10_method_29_code 38 = .ok (.ireturn, 1) := by decide +kernel
theorem d_M_write_39 : decode prog_10_method_29_code 39 = .ok (.aload_n 0, 1) := by decide +kernel
theorem d_M_write_40 : decode prog_10_method_29_code 40 = .ok (.getfield 58, 3) := by decide +kernel
theorem d_M_write_43 : decode prog_10_method_29_code 43 = .ok (.aload_n 0, 1) := by decide +kernel
theorem d_M_write_44 : decode prog_10_method_29_code 44 = .ok (.getfield 199, 3) := by decide +kernel
theorem d_M_write_47 : decode prog_10_method_29_code 47 = .ok (.iaload, 1) := by decide +kernel
theorem d_M_write_48 : decode prog_10_method_29_code 48 = .ok (.i2l, 1) := by decide +kernel
theorem d_M_write_49 : decode prog_10_method_29_code 49 = .ok (.aload_n 0, 1) := by decide +kernel
theorem d_M_write_50 : decode prog_10_method_29_code 50 = .ok (.getfield 20, 3) := by decide +kernel
theorem d_M_write_53 : decode prog_10_method_29_code 53 = .ok (.i2l, 1) := by decide +kernel
theorem d_M_write_54 : decode prog_10_method_29_code 54 = .ok (.aload_n 0, 1) := by decide +kernel
theorem d_M_write_55 : decode prog_10_method_29_code 55 = .ok (.getfield 27, 3) := by decide +kernel
theorem d_M_write_58 : decode prog_10_method_29_code 58 = .ok (.aload_n 0, 1) := by decide +kernel
theorem d_M_write_59 : decode prog_10_method_29_code 59 = .ok (.getfield 199, 3) := by decide +kernel
theorem d_M_write_62 : decode prog_10_method_29_code 62 = .ok (.laload, 1) := by decide +kernel
theorem d_M_write_63 : decode prog_10_method_29_code 63 = .ok (.lmul, 1) := by decide +kernel
theorem d_M_write_64 : decode prog_10_method_29_code 64 = .ok (.ldc2_w 162, 3) := by decide +kernel
theorem d_M_write_67 : decode prog_10_method_29_code 67 = .ok (.ladd, 1) := by decide +kernel
theorem d_M_write_68 : decode prog_10_method_29_code 68 = .ok (.lcmp, 1) := by decide +kernel
theorem d_M_write_69 : decode prog_10_method_29_code 69 = .ok (.ifCond .lt 10, 3) := by decide +kernel
theorem d_M_write_72 : decode prog_10_method_29_code 72 = .ok (.aload_n 0, 1) := by decide +kernel
theorem d_M_write_73 : decode prog_10_method_29_code 73 = .ok (.bipush 21, 2) := by decide +kernel
theorem d_M_write_75 : decode prog_10_method_29_code 75 = .ok (.invokevirtual 202, 3) := by decide +kernel
theorem d_M_write_78 : decode prog_10_method_29_code 78 = .ok (.ireturn, 1) := by decide +kernel
theorem d_M_write_79 : decode prog_10_method_29_code 79 = .ok (.aload_n 0, 1) := by decide +kernel
theorem d_M_write_80 : decode prog_10_method_29_code 80 = .ok (.getfield 87, 3) := by decide +kernel
theorem d_M_write_83 : decode prog_10_method_29_code 83 = .ok (.aload_n 0, 1) := by decide +kernel
theorem d_M_write_84 : decode prog_10_method_29_code 84 = .ok (.getfield 17, 3) := by decide +kernel
theorem d_M_write_87 : decode prog_10_method_29_code 87 = .ok (.if_icmp .lt 10, 3) := by decide +kernel
theorem d_M_write_90 : decode prog_10_method_29_code 90 = .ok (.aload_n 0, 1) := by decide +kernel
theorem d_M_write_91 : decode prog_10_method_29_code 91 = .ok (.bipush 22, 2) := by decide +kernel
theorem d_M_write_93 : decode prog_10_method_29_code 93 = .ok (.invokevirtual 202, 3) := by decide +kernel
theorem d_M_write_96 : decode prog_10_method_29_code 96 = .ok (.ireturn, 1) := by decide +kernel
theorem d_M_write_97 : decode prog_10_method_29_code 97 = .ok (.aload_n 0, 1) := by decide +kernel
theorem d_M_write_98 : decode prog_10_method_29_code 98 = .ok (.getfield 62, 3) := by decide +kernel
theorem d_M_write_101 : decode prog_10_method_29_code 101 = .ok (.aload_n 0, 1) := by decide +kernel
theorem d_M_write_102 : decode prog_10_method_29_code 102 = .ok (.getfield 87, 3) := by decide +kernel
theorem d_M_write_105 : decode prog_10_method_29_code 105 = .ok (.iload_n 1, 1) := by decide +kernel
theorem d_M_write_106 : decode prog_10_method_29_code 106 = .ok (.i2b, 1) := by decide +kernel
theorem d_M_write_107 : decode prog_10_method_29_code 107 = .ok (.bastore, 1) := by decide +kernel
theorem d_M_write_108 : decode prog_10_method_29_code 108 = .ok (.aload_n 0, 1) := by decide +kernel
theorem d_M_write_109 : decode prog_10_method_29_code 109 = .ok (.dup, 1) := by decide +kernel
theorem d_M_write_110 : decode prog_10_method_29_code 110 = .ok (.getfield 87, 3) := by decide +kernel
theorem d_M_write_113 : decode prog_10_method_29_code 113 = .ok (.iconst 1, 1) := by decide +kernel
theorem d_M_write_114 : decode prog_10_method_29_code 114 = .ok (.iadd, 1) := by decide +kernel
theorem d_M_write_115 : decode prog_10_method_29_code 115 = .ok (.putfield 87, 3) := by decide +kernel
theorem d_M_write_118 : decode prog_10_method_29_code 118 = .ok (.aload_n 0, 1) := by decide +kernel
theorem d_M_write_119 : decode prog_10_method_29_code 119 = .ok (.getfield 58, 3) := by decide +kernel
theorem d_M_write_122 : decode prog_10_method_29_code 122 = .ok (.aload_n 0, 1) := by decide +kernel
theorem d_M_write_123 : decode prog_10_method_29_code 123 = .ok (.getfield 199, 3) := by decide +kernel
theorem d_M_write_126 : decode prog_10_method_29_code 126 = .ok (.dup2, 1) := by decide +kernel
theorem d_M_write_127 : decode prog_10_method_29_code 127 = .ok (.iaload, 1) := by decide +kernel
theorem d_M_write_128 : decode prog_10_method_29_code 128 = .ok (.iconst 1, 1) := by decide +kernel
theorem d_M_write_129 : decode prog_10_method_29_code 129 = .ok (.iadd, 1) := by decide +kernel
theorem d_M_write_130 : decode prog_10_method_29_code 130 = .ok (.iastore, 1) := by decide +kernel
theorem d_M_write_131 : decode prog_10_method_29_code 131 = .ok (.iconst 1, 1) := by decide +kernel
theorem d_M_write_132 : decode prog_10_method_29_code 132 = .ok (.ireturn, 1) := by decide +kernel
set_option maxHeartbeats 4000000 in
set_option maxRecDepth 100000 in
theorem m_fails (l : Launch) (D : va_G) (sz : Nat) (qm : Nat) (qT : Nat) (len : Int) (op : Int) (fp : Int) (bu : Int) (ra : Int) (en : Int) (qMe : Nat) (qPk : Nat) (qSz : Nat) (qSu : Nat) (qDa : Nat) (qLo : Nat) (qLe : Nat) (qNa : Nat) (qNs : Nat) (qSt : Nat) (qSa : Nat) (qCo : Nat) (qWr : Nat) (to : Int) (nw : Int) (bt : Int) (rf : Int) (qLn : Nat) (qSm : Nat) (qCd : Nat) (qSc : Nat) (sy : Int) (di : Int) (th : Int) (so : Int) (kd : Int) (hso : 0 ≤ so ∧ so ≤ 1) : Met l y_M_fails (Cond.code y_M_fails prog_10_method_3_code 3 (Option.some Jvm.ClassFile.FieldType.boolean) :: zt) { frames := 0, cells := 0, slots := 0, locals := 0 } (zPc [.ref qm, .int (iI so), .int (iI kd)] D [(qm, .inr (8, [.ref qT, .int (iI len), .int (iI op), .int (iI fp), .int (iI bu), .int (iI ra), .int (iI en), .ref qMe, .ref qPk, .ref qSz, .ref qSu, .ref qDa, .ref qLo, .ref qLe, .ref qNa, .ref qNs, .ref qSt, .ref qSa, .ref qCo, .ref qWr, .int (iI to), .int (iI nw), .int (iI bt), .int (iI rf), .ref qLn, .ref qSm, .ref qCd, .ref qSc, .int (iI sy), .int (iI di), .int (iI th)]))] [] sz (fun _ => True)) (va_Qi (fun (r : Int32) => fun (u9 : Int) => match u9 with | t1 => r = (iI so) ∧ ((so = 0 → t1 = 0) ∧ (so = 1 → t1 = kd))) (fun u9 t => zB D ((fun (u9 : Int) => match u9 with | t1 => [(qm, .inr (8, [.ref qT, .int (iI len), .int (iI op), .int (iI fp), .int (iI bu), .int (iI ra), .int (iI en), .ref qMe, .ref qPk, .ref qSz, .ref qSu, .ref qDa, .ref qLo, .ref qLe, .ref qNa, .ref qNs, .ref qSt, .ref qSa, .ref qCo, .ref qWr, .int (iI to), .int (iI nw), .int (iI bt), .int (iI rf), .ref qLn, .ref qSm, .ref qCd, .ref qSc, .int (iI sy), .int (iI di), .int (iI t1)]))]) u9) ((fun (u9 : Int) => match u9 with | t1 => []) u9) (va_A [(qm, .inr (8, [.ref qT, .int (iI len), .int (iI op), .int (iI fp), .int (iI bu), .int (iI ra), .int (iI en), .ref qMe, .ref qPk, .ref qSz, .ref qSu, .ref qDa, .ref qLo, .ref qLe, .ref qNa, .ref qNs, .ref qSt, .ref qSa, .ref qCo, .ref qWr, .int (iI to), .int (iI nw), .int (iI bt), .int (iI rf), .ref qLn, .ref qSm, .ref qCd, .ref qSc, .int (iI sy), .int (iI di), .int (iI th)]))] sz) t) (va_A [(qm, .inr (8, [.ref qT, .int (iI len), .int (iI op), .int (iI fp), .int (iI bu), .int (iI ra), .int (iI en), .ref qMe, .ref qPk, .ref qSz, .ref qSu, .ref qDa, .ref qLo, .ref qLe, .ref qNa, .ref qNs, .ref qSt, .ref qSa, .ref qCo, .ref qWr, .int (iI to), .int (iI nw), .int (iI bt), .int (iI rf), .ref qLn, .ref qSm, .ref qCd, .ref qSc, .int (iI sy), .int (iI di), .int (iI th)]))] sz)) 0 0 (va_A [(qm, .inr (8, [.ref qT, .int (iI len), .int (iI op), .int (iI fp), .int (iI bu), .int (iI ra), .int (iI en), .ref qMe, .ref qPk, .ref qSz, .ref qSu, .ref qDa, .ref qLo, .ref qLe, .ref qNa, .ref qNs, .ref qSt, .ref qSa, .ref qCo, .ref qWr, .int (iI to), .int (iI nw), .int (iI bt), .int (iI rf), .ref qLn, .ref qSm, .ref qCd, .ref qSc, .int (iI sy), .int (iI di), .int (iI th)]))] sz) :=
  zMet (Qf := fun A => va_Qi (fun (r : Int32) => fun (u9 : Int) => match u9 with | t1 => r = (iI so) ∧ ((so = 0 → t1 = 0) ∧ (so = 1 → t1 = kd))) (fun u9 t => zB D ((fun (u9 : Int) => match u9 with | t1 => [(qm, .inr (8, [.ref qT, .int (iI len), .int (iI op), .int (iI fp), .int (iI bu), .int (iI ra), .int (iI en), .ref qMe, .ref qPk, .ref qSz, .ref qSu, .ref qDa, .ref qLo, .ref qLe, .ref qNa, .ref qNs, .ref qSt, .ref qSa, .ref qCo, .ref qWr, .int (iI to), .int (iI nw), .int (iI bt), .int (iI rf), .ref qLn, .ref qSm, .ref qCd, .ref qSc, .int (iI sy), .int (iI di), .int (iI t1)]))]) u9) ((fun (u9 : Int) => match u9 with | t1 => []) u9) A t) A) (by decide) (Nat.le_of_ble_eq_true rfl) (fun p e s m below meth c A ls hx hb hr hml hown ht hlk hnm hA hK hP hD hX hl => by
    have hS : va_S A s.heap s.heap [] := va_S.rf
    have hl : lv_has ls 3 [(0, .ref qm), (1, .int (iI so)), (2, .int (iI kd))] := hl
    refine lv_aload_n hx hb d_M_fails_0 rfl (lv_at hl 0 rfl) ?_
    refine lv_iload_n hx hb d_M_fails_1 rfl (lv_at hl 1 rfl) ?_
    refine zv_if_eq (tgt := 9) hx hb d_M_fails_2 (by decide) (by omega) (fun hc_1 => ?_) (fun hc_1 => ?_)
    · skip
      refine lv_iconst (v := iI 0) hx hb d_M_fails_9 (by decide) ?_
      refine va_put (ci := 8) (v := .int (iI 0)) (ty := .int) (C := "ZipGuardModel") (T := F_M) (N := 31) hx hb ht zi_M ty_M tk_M nm_M hown hK hP hD hS 0 rfl rfl 30 (by decide) (ht _ zm_782) (fun _ h9 => h9) rfl (by decide +kernel) rfl rfl (Nat.le_of_ble_eq_true rfl) d_M_fails_10 (fun H locs hP hD hS => ?_)
      have hP : va_P D zcl [(qm, .inr (8, [.ref qT, .int (iI len), .int (iI op), .int (iI fp), .int (iI bu), .int (iI ra), .int (iI en), .ref qMe, .ref qPk, .ref qSz, .ref qSu, .ref qDa, .ref qLo, .ref qLe, .ref qNa, .ref qNs, .ref qSt, .ref qSa, .ref qCo, .ref qWr, .int (iI to), .int (iI nw), .int (iI bt), .int (iI rf), .ref qLn, .ref qSm, .ref qCd, .ref qSc, .int (iI sy), .int (iI di), .int (iI 0)]))] H := hP
      have hD : va_D A [(qm, .inr (8, [.ref qT, .int (iI len), .int (iI op), .int (iI fp), .int (iI bu), .int (iI ra), .int (iI en), .ref qMe, .ref qPk, .ref qSz, .ref qSu, .ref qDa, .ref qLo, .ref qLe, .ref qNa, .ref qNs, .ref qSt, .ref qSa, .ref qCo, .ref qWr, .int (iI to), .int (iI nw), .int (iI bt), .int (iI rf), .ref qLn, .ref qSm, .ref qCd, .ref qSc, .int (iI sy), .int (iI di), .int (iI 0)]))] := hD
      refine lv_iload_n hx hb d_M_fails_13 rfl (lv_at hl 1 rfl) ?_
      exact zretz hx hb hr hlk hK hP hD hS 0 [0] [] rfl (by decide) rfl (⟨rfl, by omega⟩) (zn01 (by omega)) (Nat.le_of_ble_eq_true rfl) (Nat.le_of_ble_eq_true rfl) d_M_fails_14
    · skip
      refine lv_iload_n hx hb d_M_fails_5 rfl (lv_at hl 2 rfl) ?_
      refine lv_goto (tgt := 10) hx hb d_M_fails_6 (by decide) ?_
      refine va_put (ci := 8) (v := .int (iI kd)) (ty := .int) (C := "ZipGuardModel") (T := F_M) (N := 31) hx hb ht zi_M ty_M tk_M nm_M hown hK hP hD hS 0 rfl rfl 30 (by decide) (ht _ zm_782) (fun _ h9 => h9) rfl (by decide +kernel) rfl rfl (Nat.le_of_ble_eq_true rfl) d_M_fails_10 (fun H locs hP hD hS => ?_)
      have hP : va_P D zcl [(qm, .inr (8, [.ref qT, .int (iI len), .int (iI op), .int (iI fp), .int (iI bu), .int (iI ra), .int (iI en), .ref qMe, .ref qPk, .ref qSz, .ref qSu, .ref qDa, .ref qLo, .ref qLe, .ref qNa, .ref qNs, .ref qSt, .ref qSa, .ref qCo, .ref qWr, .int (iI to), .int (iI nw), .int (iI bt), .int (iI rf), .ref qLn, .ref qSm, .ref qCd, .ref qSc, .int (iI sy), .int (iI di), .int (iI kd)]))] H := hP
      have hD : va_D A [(qm, .inr (8, [.ref qT, .int (iI len), .int (iI op), .int (iI fp), .int (iI bu), .int (iI ra), .int (iI en), .ref qMe, .ref qPk, .ref qSz, .ref qSu, .ref qDa, .ref qLo, .ref qLe, .ref qNa, .ref qNs, .ref qSt, .ref qSa, .ref qCo, .ref qWr, .int (iI to), .int (iI nw), .int (iI bt), .int (iI rf), .ref qLn, .ref qSm, .ref qCd, .ref qSc, .int (iI sy), .int (iI di), .int (iI kd)]))] := hD
      refine lv_iload_n hx hb d_M_fails_13 rfl (lv_at hl 1 rfl) ?_
      exact zretz hx hb hr hlk hK hP hD hS kd [0] [] rfl (by decide) rfl (⟨rfl, by omega⟩) (zn01 (by omega)) (Nat.le_of_ble_eq_true rfl) (Nat.le_of_ble_eq_true rfl) d_M_fails_14)
set_option maxHeartbeats 4000000 in
set_option maxRecDepth 100000 in
theorem m_shut (l : Launch) (D : va_G) (sz : Nat) (qm : Nat) (qT : Nat) (len : Int) (op : Int) (fp : Int) (bu : Int) (ra : Int) (en : Int) (qMe : Nat) (qPk : Nat) (qSz : Nat) (qSu : Nat) (qDa : Nat) (qLo : Nat) (qLe : Nat) (qNa : Nat) (qNs : Nat) (qSt : Nat) (qSa : Nat) (qCo : Nat) (qWr : Nat) (to : Int) (nw : Int) (bt : Int) (rf : Int) (qLn : Nat) (qSm : Nat) (qCd : Nat) (qSc : Nat) (sy : Int) (di : Int) (th : Int)  : Met l y_M_shut (Cond.code y_M_shut prog_10_method_4_code 1 (Option.none : Option Jvm.ClassFile.FieldType) :: zt) { frames := 0, cells := 0, slots := 0, locals := 0 } (zPc [.ref qm] D [(qm, .inr (8, [.ref qT, .int (iI len), .int (iI op), .int (iI fp), .int (iI bu), .int (iI ra), .int (iI en), .ref qMe, .ref qPk, .ref qSz, .ref qSu, .ref qDa, .ref qLo, .ref qLe, .ref qNa, .ref qNs, .ref qSt, .ref qSa, .ref qCo, .ref qWr, .int (iI to), .int (iI nw), .int (iI bt), .int (iI rf), .ref qLn, .ref qSm, .ref qCd, .ref qSc, .int (iI sy), .int (iI di), .int (iI th)]))] [] sz (fun _ => True)) (va_Qv (fun (_ : Unit) => True) (fun u9 t => zB D ((fun (_ : Unit) => [(qm, .inr (8, [.ref qT, .int (iI len), .int (iI 0), .int (iI fp), .int (iI bu), .int (iI ra), .int (iI 0), .ref qMe, .ref qPk, .ref qSz, .ref qSu, .ref qDa, .ref qLo, .ref qLe, .ref qNa, .ref qNs, .ref qSt, .ref qSa, .ref qCo, .ref qWr, .int (iI 0), .int (iI nw), .int (iI bt), .int (iI rf), .ref qLn, .ref qSm, .ref qCd, .ref qSc, .int (iI sy), .int (iI di), .int (iI th)]))]) u9) ((fun (_ : Unit) => []) u9) (va_A [(qm, .inr (8, [.ref qT, .int (iI len), .int (iI op), .int (iI fp), .int (iI bu), .int (iI ra), .int (iI en), .ref qMe, .ref qPk, .ref qSz, .ref qSu, .ref qDa, .ref qLo, .ref qLe, .ref qNa, .ref qNs, .ref qSt, .ref qSa, .ref qCo, .ref qWr, .int (iI to), .int (iI nw), .int (iI bt), .int (iI rf), .ref qLn, .ref qSm, .ref qCd, .ref qSc, .int (iI sy), .int (iI di), .int (iI th)]))] sz) t) (va_A [(qm, .inr (8, [.ref qT, .int (iI len), .int (iI op), .int (iI fp), .int (iI bu), .int (iI ra), .int (iI en), .ref qMe, .ref qPk, .ref qSz, .ref qSu, .ref qDa, .ref qLo, .ref qLe, .ref qNa, .ref qNs, .ref qSt, .ref qSa, .ref qCo, .ref qWr, .int (iI to), .int (iI nw), .int (iI bt), .int (iI rf), .ref qLn, .ref qSm, .ref qCd, .ref qSc, .int (iI sy), .int (iI di), .int (iI th)]))] sz)) 0 0 (va_A [(qm, .inr (8, [.ref qT, .int (iI len), .int (iI op), .int (iI fp), .int (iI bu), .int (iI ra), .int (iI en), .ref qMe, .ref qPk, .ref qSz, .ref qSu, .ref qDa, .ref qLo, .ref qLe, .ref qNa, .ref qNs, .ref qSt, .ref qSa, .ref qCo, .ref qWr, .int (iI to), .int (iI nw), .int (iI bt), .int (iI rf), .ref qLn, .ref qSm, .ref qCd, .ref qSc, .int (iI sy), .int (iI di), .int (iI th)]))] sz) :=
  zMet (Qf := fun A => va_Qv (fun (_ : Unit) => True) (fun u9 t => zB D ((fun (_ : Unit) => [(qm, .inr (8, [.ref qT, .int (iI len), .int (iI 0), .int (iI fp), .int (iI bu), .int (iI ra), .int (iI 0), .ref qMe, .ref qPk, .ref qSz, .ref qSu, .ref qDa, .ref qLo, .ref qLe, .ref qNa, .ref qNs, .ref qSt, .ref qSa, .ref qCo, .ref qWr, .int (iI 0), .int (iI nw), .int (iI bt), .int (iI rf), .ref qLn, .ref qSm, .ref qCd, .ref qSc, .int (iI sy), .int (iI di), .int (iI th)]))]) u9) ((fun (_ : Unit) => []) u9) A t) A) (by decide) (Nat.le_of_ble_eq_true rfl) (fun p e s m below meth c A ls hx hb hr hml hown ht hlk hnm hA hK hP hD hX hl => by
    have hS : va_S A s.heap s.heap [] := va_S.rf
    have hl : lv_has ls 1 [(0, .ref qm)] := hl
    refine lv_aload_n hx hb d_M_shut_0 rfl (lv_at hl 0 rfl) ?_
    refine lv_iconst (v := iI 0) hx hb d_M_shut_1 (by decide) ?_
    refine va_put (ci := 8) (v := .int (iI 0)) (ty := .boolean) (C := "ZipGuardModel") (T := F_M) (N := 31) hx hb ht zi_M ty_M tk_M nm_M hown hK hP hD hS 0 rfl rfl 2 (by decide) (ht _ zm_754) (fun _ h9 => h9) rfl (by decide +kernel) (zn01 (by omega)) rfl (Nat.le_of_ble_eq_true rfl) d_M_shut_2 (fun H locs hP hD hS => ?_)
    have hP : va_P D zcl [(qm, .inr (8, [.ref qT, .int (iI len), .int (iI 0), .int (iI fp), .int (iI bu), .int (iI ra), .int (iI en), .ref qMe, .ref qPk, .ref qSz, .ref qSu, .ref qDa, .ref qLo, .ref qLe, .ref qNa, .ref qNs, .ref qSt, .ref qSa, .ref qCo, .ref qWr, .int (iI to), .int (iI nw), .int (iI bt), .int (iI rf), .ref qLn, .ref qSm, .ref qCd, .ref qSc, .int (iI sy), .int (iI di), .int (iI th)]))] H := hP
    have hD : va_D A [(qm, .inr (8, [.ref qT, .int (iI len), .int (iI 0), .int (iI fp), .int (iI bu), .int (iI ra), .int (iI en), .ref qMe, .ref qPk, .ref qSz, .ref qSu, .ref qDa, .ref qLo, .ref qLe, .ref qNa, .ref qNs, .ref qSt, .ref qSa, .ref qCo, .ref qWr, .int (iI to), .int (iI nw), .int (iI bt), .int (iI rf), .ref qLn, .ref qSm, .ref qCd, .ref qSc, .int (iI sy), .int (iI di), .int (iI th)]))] := hD
    refine lv_aload_n hx hb d_M_shut_5 rfl (lv_at hl 0 rfl) ?_
    refine lv_iconst (v := iI 0) hx hb d_M_shut_6 (by decide) ?_
    refine va_put (ci := 8) (v := .int (iI 0)) (ty := .int) (C := "ZipGuardModel") (T := F_M) (N := 31) hx hb ht zi_M ty_M tk_M nm_M hown hK hP hD hS 0 rfl rfl 6 (by decide) (ht _ zm_758) (fun _ h9 => h9) rfl (by decide +kernel) rfl rfl (Nat.le_of_ble_eq_true rfl) d_M_shut_7 (fun H locs hP hD hS => ?_)
    have hP : va_P D zcl [(qm, .inr (8, [.ref qT, .int (iI len), .int (iI 0), .int (iI fp), .int (iI bu), .int (iI ra), .int (iI 0), .ref qMe, .ref qPk, .ref qSz, .ref qSu, .ref qDa, .ref qLo, .ref qLe, .ref qNa, .ref qNs, .ref qSt, .ref qSa, .ref qCo, .ref qWr, .int (iI to), .int (iI nw), .int (iI bt), .int (iI rf), .ref qLn, .ref qSm, .ref qCd, .ref qSc, .int (iI sy), .int (iI di), .int (iI th)]))] H := hP
    have hD : va_D A [(qm, .inr (8, [.ref qT, .int (iI len), .int (iI 0), .int (iI fp), .int (iI bu), .int (iI ra), .int (iI 0), .ref qMe, .ref qPk, .ref qSz, .ref qSu, .ref qDa, .ref qLo, .ref qLe, .ref qNa, .ref qNs, .ref qSt, .ref qSa, .ref qCo, .ref qWr, .int (iI to), .int (iI nw), .int (iI bt), .int (iI rf), .ref qLn, .ref qSm, .ref qCd, .ref qSc, .int (iI sy), .int (iI di), .int (iI th)]))] := hD
    refine lv_aload_n hx hb d_M_shut_10 rfl (lv_at hl 0 rfl) ?_
    refine lv_iconst (v := iI 0) hx hb d_M_shut_11 (by decide) ?_
    refine va_put (ci := 8) (v := .int (iI 0)) (ty := .int) (C := "ZipGuardModel") (T := F_M) (N := 31) hx hb ht zi_M ty_M tk_M nm_M hown hK hP hD hS 0 rfl rfl 20 (by decide) (ht _ zm_772) (fun _ h9 => h9) rfl (by decide +kernel) rfl rfl (Nat.le_of_ble_eq_true rfl) d_M_shut_12 (fun H locs hP hD hS => ?_)
    have hP : va_P D zcl [(qm, .inr (8, [.ref qT, .int (iI len), .int (iI 0), .int (iI fp), .int (iI bu), .int (iI ra), .int (iI 0), .ref qMe, .ref qPk, .ref qSz, .ref qSu, .ref qDa, .ref qLo, .ref qLe, .ref qNa, .ref qNs, .ref qSt, .ref qSa, .ref qCo, .ref qWr, .int (iI 0), .int (iI nw), .int (iI bt), .int (iI rf), .ref qLn, .ref qSm, .ref qCd, .ref qSc, .int (iI sy), .int (iI di), .int (iI th)]))] H := hP
    have hD : va_D A [(qm, .inr (8, [.ref qT, .int (iI len), .int (iI 0), .int (iI fp), .int (iI bu), .int (iI ra), .int (iI 0), .ref qMe, .ref qPk, .ref qSz, .ref qSu, .ref qDa, .ref qLo, .ref qLe, .ref qNa, .ref qNs, .ref qSt, .ref qSa, .ref qCo, .ref qWr, .int (iI 0), .int (iI nw), .int (iI bt), .int (iI rf), .ref qLn, .ref qSm, .ref qCd, .ref qSc, .int (iI sy), .int (iI di), .int (iI th)]))] := hD
    exact zretv hx hb hr hlk hK hP hD hS () [0] [] rfl (by decide) rfl (trivial) (Nat.le_of_ble_eq_true rfl) (Nat.le_of_ble_eq_true rfl) d_M_shut_15)
set_option maxHeartbeats 4000000 in
set_option maxRecDepth 100000 in
theorem m_stop (l : Launch) (D : va_G) (sz : Nat) (qm : Nat) (qT : Nat) (len : Int) (op : Int) (fp : Int) (bu : Int) (ra : Int) (en : Int) (qMe : Nat) (qPk : Nat) (qSz : Nat) (qSu : Nat) (qDa : Nat) (qLo : Nat) (qLe : Nat) (qNa : Nat) (qNs : Nat) (qSt : Nat) (qSa : Nat) (qCo : Nat) (qWr : Nat) (to : Int) (nw : Int) (bt : Int) (rf : Int) (qLn : Nat) (qSm : Nat) (qCd : Nat) (qSc : Nat) (sy : Int) (di : Int) (th : Int) (fa : Int) (wh : Int)  : Met l y_M_stop (Cond.code y_M_stop prog_10_method_12_code 4 (Option.some Jvm.ClassFile.FieldType.int) :: zt) { frames := 0, cells := 0, slots := 0, locals := 0 } (zPc [.ref qm, .int (iI fa), .long (lI wh)] D [(qm, .inr (8, [.ref qT, .int (iI len), .int (iI op), .int (iI fp), .int (iI bu), .int (iI ra), .int (iI en), .ref qMe, .ref qPk, .ref qSz, .ref qSu, .ref qDa, .ref qLo, .ref qLe, .ref qNa, .ref qNs, .ref qSt, .ref qSa, .ref qCo, .ref qWr, .int (iI to), .int (iI nw), .int (iI bt), .int (iI rf), .ref qLn, .ref qSm, .ref qCd, .ref qSc, .int (iI sy), .int (iI di), .int (iI th)]))] [] sz (fun _ => True)) (va_Qi (fun (r : Int32) => fun (_ : Unit) => r = (iI (-fa)) ∧ (True)) (fun u9 t => zB D ((fun (_ : Unit) => [(qm, .inr (8, [.ref qT, .int (iI len), .int (iI op), .int (iI wh), .int (iI bu), .int (iI ra), .int (iI en), .ref qMe, .ref qPk, .ref qSz, .ref qSu, .ref qDa, .ref qLo, .ref qLe, .ref qNa, .ref qNs, .ref qSt, .ref qSa, .ref qCo, .ref qWr, .int (iI to), .int (iI nw), .int (iI bt), .int (iI rf), .ref qLn, .ref qSm, .ref qCd, .ref qSc, .int (iI sy), .int (iI di), .int (iI th)]))]) u9) ((fun (_ : Unit) => []) u9) (va_A [(qm, .inr (8, [.ref qT, .int (iI len), .int (iI op), .int (iI fp), .int (iI bu), .int (iI ra), .int (iI en), .ref qMe, .ref qPk, .ref qSz, .ref qSu, .ref qDa, .ref qLo, .ref qLe, .ref qNa, .ref qNs, .ref qSt, .ref qSa, .ref qCo, .ref qWr, .int (iI to), .int (iI nw), .int (iI bt), .int (iI rf), .ref qLn, .ref qSm, .ref qCd, .ref qSc, .int (iI sy), .int (iI di), .int (iI th)]))] sz) t) (va_A [(qm, .inr (8, [.ref qT, .int (iI len), .int (iI op), .int (iI fp), .int (iI bu), .int (iI ra), .int (iI en), .ref qMe, .ref qPk, .ref qSz, .ref qSu, .ref qDa, .ref qLo, .ref qLe, .ref qNa, .ref qNs, .ref qSt, .ref qSa, .ref qCo, .ref qWr, .int (iI to), .int (iI nw), .int (iI bt), .int (iI rf), .ref qLn, .ref qSm, .ref qCd, .ref qSc, .int (iI sy), .int (iI di), .int (iI th)]))] sz)) 0 0 (va_A [(qm, .inr (8, [.ref qT, .int (iI len), .int (iI op), .int (iI fp), .int (iI bu), .int (iI ra), .int (iI en), .ref qMe, .ref qPk, .ref qSz, .ref qSu, .ref qDa, .ref qLo, .ref qLe, .ref qNa, .ref qNs, .ref qSt, .ref qSa, .ref qCo, .ref qWr, .int (iI to), .int (iI nw), .int (iI bt), .int (iI rf), .ref qLn, .ref qSm, .ref qCd, .ref qSc, .int (iI sy), .int (iI di), .int (iI th)]))] sz) :=
  zMet (Qf := fun A => va_Qi (fun (r : Int32) => fun (_ : Unit) => r = (iI (-fa)) ∧ (True)) (fun u9 t => zB D ((fun (_ : Unit) => [(qm, .inr (8, [.ref qT, .int (iI len), .int (iI op), .int (iI wh), .int (iI bu), .int (iI ra), .int (iI en), .ref qMe, .ref qPk, .ref qSz, .ref qSu, .ref qDa, .ref qLo, .ref qLe, .ref qNa, .ref qNs, .ref qSt, .ref qSa, .ref qCo, .ref qWr, .int (iI to), .int (iI nw), .int (iI bt), .int (iI rf), .ref qLn, .ref qSm, .ref qCd, .ref qSc, .int (iI sy), .int (iI di), .int (iI th)]))]) u9) ((fun (_ : Unit) => []) u9) A t) A) (by decide) (Nat.le_of_ble_eq_true rfl) (fun p e s m below meth c A ls hx hb hr hml hown ht hlk hnm hA hK hP hD hX hl => by
    have hS : va_S A s.heap s.heap [] := va_S.rf
    have hl : lv_has ls 4 [(0, .ref qm), (1, .int (iI fa)), (2, .long (lI wh))] := hl
    refine lv_aload_n hx hb d_M_stop_0 rfl (lv_at hl 0 rfl) ?_
    refine lv_lload_n hx hb d_M_stop_1 rfl (lv_at hl 2 rfl) ?_
    refine zv_l2i hx hb d_M_stop_2 ?_
    refine va_put (ci := 8) (v := .int (iI wh)) (ty := .int) (C := "ZipGuardModel") (T := F_M) (N := 31) hx hb ht zi_M ty_M tk_M nm_M hown hK hP hD hS 0 rfl rfl 3 (by decide) (ht _ zm_755) (fun _ h9 => h9) rfl (by decide +kernel) rfl rfl (Nat.le_of_ble_eq_true rfl) d_M_stop_3 (fun H locs hP hD hS => ?_)
    have hP : va_P D zcl [(qm, .inr (8, [.ref qT, .int (iI len), .int (iI op), .int (iI wh), .int (iI bu), .int (iI ra), .int (iI en), .ref qMe, .ref qPk, .ref qSz, .ref qSu, .ref qDa, .ref qLo, .ref qLe, .ref qNa, .ref qNs, .ref qSt, .ref qSa, .ref qCo, .ref qWr, .int (iI to), .int (iI nw), .int (iI bt), .int (iI rf), .ref qLn, .ref qSm, .ref qCd, .ref qSc, .int (iI sy), .int (iI di), .int (iI th)]))] H := hP
    have hD : va_D A [(qm, .inr (8, [.ref qT, .int (iI len), .int (iI op), .int (iI wh), .int (iI bu), .int (iI ra), .int (iI en), .ref qMe, .ref qPk, .ref qSz, .ref qSu, .ref qDa, .ref qLo, .ref qLe, .ref qNa, .ref qNs, .ref qSt, .ref qSa, .ref qCo, .ref qWr, .int (iI to), .int (iI nw), .int (iI bt), .int (iI rf), .ref qLn, .ref qSm, .ref qCd, .ref qSc, .int (iI sy), .int (iI di), .int (iI th)]))] := hD
    refine lv_iload_n hx hb d_M_stop_6 rfl (lv_at hl 1 rfl) ?_
    refine zv_ineg (z := -fa) hx hb d_M_stop_7 (by omega) ?_
    exact zreti hx hb hr hlk hK hP hD hS () [0] [] rfl (by decide) rfl (⟨rfl, trivial⟩) (Nat.le_of_ble_eq_true rfl) (Nat.le_of_ble_eq_true rfl) d_M_stop_8)
set_option maxHeartbeats 4000000 in
set_option maxRecDepth 100000 in
theorem m_refuse (l : Launch) (D : va_G) (sz : Nat) (qm : Nat) (qT : Nat) (len : Int) (op : Int) (fp : Int) (bu : Int) (ra : Int) (en : Int) (qMe : Nat) (qPk : Nat) (qSz : Nat) (qSu : Nat) (qDa : Nat) (qLo : Nat) (qLe : Nat) (qNa : Nat) (qNs : Nat) (qSt : Nat) (qSa : Nat) (qCo : Nat) (qWr : Nat) (to : Int) (nw : Int) (bt : Int) (rf : Int) (qLn : Nat) (qSm : Nat) (qCd : Nat) (qSc : Nat) (sy : Int) (di : Int) (th : Int) (wy : Int) (hrf : -2147483648 ≤ rf ∧ rf ≤ 2147483647) : Met l y_M_refuse (Cond.code y_M_refuse prog_10_method_28_code 2 (Option.some Jvm.ClassFile.FieldType.boolean) :: zt) { frames := 0, cells := 0, slots := 0, locals := 0 } (zPc [.ref qm, .int (iI wy)] D [(qm, .inr (8, [.ref qT, .int (iI len), .int (iI op), .int (iI fp), .int (iI bu), .int (iI ra), .int (iI en), .ref qMe, .ref qPk, .ref qSz, .ref qSu, .ref qDa, .ref qLo, .ref qLe, .ref qNa, .ref qNs, .ref qSt, .ref qSa, .ref qCo, .ref qWr, .int (iI to), .int (iI nw), .int (iI bt), .int (iI rf), .ref qLn, .ref qSm, .ref qCd, .ref qSc, .int (iI sy), .int (iI di), .int (iI th)]))] [] sz (fun _ => True)) (va_Qi (fun (r : Int32) => fun (u9 : Int) => match u9 with | r1 => r = (iI 0) ∧ ((rf = 0 → r1 = wy) ∧ (¬ rf = 0 → r1 = rf))) (fun u9 t => zB D ((fun (u9 : Int) => match u9 with | r1 => [(qm, .inr (8, [.ref qT, .int (iI len), .int (iI op), .int (iI fp), .int (iI bu), .int (iI ra), .int (iI en), .ref qMe, .ref qPk, .ref qSz, .ref qSu, .ref qDa, .ref qLo, .ref qLe, .ref qNa, .ref qNs, .ref qSt, .ref qSa, .ref qCo, .ref qWr, .int (iI to), .int (iI nw), .int (iI bt), .int (iI r1), .ref qLn, .ref qSm, .ref qCd, .ref qSc, .int (iI sy), .int (iI di), .int (iI th)]))]) u9) ((fun (u9 : Int) => match u9 with | r1 => []) u9) (va_A [(qm, .inr (8, [.ref qT, .int (iI len), .int (iI op), .int (iI fp), .int (iI bu), .int (iI ra), .int (iI en), .ref qMe, .ref qPk, .ref qSz, .ref qSu, .ref qDa, .ref qLo, .ref qLe, .ref qNa, .ref qNs, .ref qSt, .ref qSa, .ref qCo, .ref qWr, .int (iI to), .int (iI nw), .int (iI bt), .int (iI rf), .ref qLn, .ref qSm, .ref qCd, .ref qSc, .int (iI sy), .int (iI di), .int (iI th)]))] sz) t) (va_A [(qm, .inr (8, [.ref qT, .int (iI len), .int (iI op), .int (iI fp), .int (iI bu), .int (iI ra), .int (iI en), .ref qMe, .ref qPk, .ref qSz, .ref qSu, .ref qDa, .ref qLo, .ref qLe, .ref qNa, .ref qNs, .ref qSt, .ref qSa, .ref qCo, .ref qWr, .int (iI to), .int (iI nw), .int (iI bt), .int (iI rf), .ref qLn, .ref qSm, .ref qCd, .ref qSc, .int (iI sy), .int (iI di), .int (iI th)]))] sz)) 0 0 (va_A [(qm, .inr (8, [.ref qT, .int (iI len), .int (iI op), .int (iI fp), .int (iI bu), .int (iI ra), .int (iI en), .ref qMe, .ref qPk, .ref qSz, .ref qSu, .ref qDa, .ref qLo, .ref qLe, .ref qNa, .ref qNs, .ref qSt, .ref qSa, .ref qCo, .ref qWr, .int (iI to), .int (iI nw), .int (iI bt), .int (iI rf), .ref qLn, .ref qSm, .ref qCd, .ref qSc, .int (iI sy), .int (iI di), .int (iI th)]))] sz) :=
  zMet (Qf := fun A => va_Qi (fun (r : Int32) => fun (u9 : Int) => match u9 with | r1 => r = (iI 0) ∧ ((rf = 0 → r1 = wy) ∧ (¬ rf = 0 → r1 = rf))) (fun u9 t => zB D ((fun (u9 : Int) => match u9 with | r1 => [(qm, .inr (8, [.ref qT, .int (iI len), .int (iI op), .int (iI fp), .int (iI bu), .int (iI ra), .int (iI en), .ref qMe, .ref qPk, .ref qSz, .ref qSu, .ref qDa, .ref qLo, .ref qLe, .ref qNa, .ref qNs, .ref qSt, .ref qSa, .ref qCo, .ref qWr, .int (iI to), .int (iI nw), .int (iI bt), .int (iI r1), .ref qLn, .ref qSm, .ref qCd, .ref qSc, .int (iI sy), .int (iI di), .int (iI th)]))]) u9) ((fun (u9 : Int) => match u9 with | r1 => []) u9) A t) A) (by decide) (Nat.le_of_ble_eq_true rfl) (fun p e s m below meth c A ls hx hb hr hml hown ht hlk hnm hA hK hP hD hX hl => by
    have hS : va_S A s.heap s.heap [] := va_S.rf
    have hl : lv_has ls 2 [(0, .ref qm), (1, .int (iI wy))] := hl
    refine lv_aload_n hx hb d_M_refuse_0 rfl (lv_at hl 0 rfl) ?_
    refine va_get (ci := 8) (C := "ZipGuardModel") (T := F_M) (N := 31) hx hb ht zi_M hown hK hP 0 rfl rfl 23 (by decide) (ht _ zm_775) (fun _ h9 => h9) rfl d_M_refuse_1 ?_
    refine zv_if_ne (tgt := 12) hx hb d_M_refuse_4 (by decide) (by omega) (fun hc_1 => ?_) (fun hc_1 => ?_)
    · skip
      refine lv_iconst (v := iI 0) hx hb d_M_refuse_12 (by decide) ?_
      exact zretz hx hb hr hlk hK hP hD hS rf [0] [] rfl (by decide) rfl (⟨rfl, by omega⟩) (zn01 (by omega)) (Nat.le_of_ble_eq_true rfl) (Nat.le_of_ble_eq_true rfl) d_M_refuse_13
    · skip
      refine lv_aload_n hx hb d_M_refuse_7 rfl (lv_at hl 0 rfl) ?_
      refine lv_iload_n hx hb d_M_refuse_8 rfl (lv_at hl 1 rfl) ?_
      refine va_put (ci := 8) (v := .int (iI wy)) (ty := .int) (C := "ZipGuardModel") (T := F_M) (N := 31) hx hb ht zi_M ty_M tk_M nm_M hown hK hP hD hS 0 rfl rfl 23 (by decide) (ht _ zm_775) (fun _ h9 => h9) rfl (by decide +kernel) rfl rfl (Nat.le_of_ble_eq_true rfl) d_M_refuse_9 (fun H locs hP hD hS => ?_)
      have hP : va_P D zcl [(qm, .inr (8, [.ref qT, .int (iI len), .int (iI op), .int (iI fp), .int (iI bu), .int (iI ra), .int (iI en), .ref qMe, .ref qPk, .ref qSz, .ref qSu, .ref qDa, .ref qLo, .ref qLe, .ref qNa, .ref qNs, .ref qSt, .ref qSa, .ref qCo, .ref qWr, .int (iI to), .int (iI nw), .int (iI bt), .int (iI wy), .ref qLn, .ref qSm, .ref qCd, .ref qSc, .int (iI sy), .int (iI di), .int (iI th)]))] H := hP
      have hD : va_D A [(qm, .inr (8, [.ref qT, .int (iI len), .int (iI op), .int (iI fp), .int (iI bu), .int (iI ra), .int (iI en), .ref qMe, .ref qPk, .ref qSz, .ref qSu, .ref qDa, .ref qLo, .ref qLe, .ref qNa, .ref qNs, .ref qSt, .ref qSa, .ref qCo, .ref qWr, .int (iI to), .int (iI nw), .int (iI bt), .int (iI wy), .ref qLn, .ref qSm, .ref qCd, .ref qSc, .int (iI sy), .int (iI di), .int (iI th)]))] := hD
      refine lv_iconst (v := iI 0) hx hb d_M_refuse_12 (by decide) ?_
      exact zretz hx hb hr hlk hK hP hD hS wy [0] [] rfl (by decide) rfl (⟨rfl, by omega⟩) (zn01 (by omega)) (Nat.le_of_ble_eq_true rfl) (Nat.le_of_ble_eq_true rfl) d_M_refuse_13)
set_option maxHeartbeats 4000000 in
set_option maxRecDepth 100000 in
theorem m_place (l : Launch) (D : va_G) (sz : Nat) (qm : Nat) (qT : Nat) (len : Int) (op : Int) (fp : Int) (bu : Int) (ra : Int) (en : Int) (qMe : Nat) (qPk : Nat) (qSz : Nat) (qSu : Nat) (qDa : Nat) (qLo : Nat) (qLe : Nat) (qNa : Nat) (qNs : Nat) (qSt : Nat) (qSa : Nat) (qCo : Nat) (qWr : Nat) (to : Int) (nw : Int) (bt : Int) (rf : Int) (qLn : Nat) (qSm : Nat) (qCd : Nat) (qSc : Nat) (sy : Int) (di : Int) (th : Int)  : Met l y_M_place (Cond.code y_M_place prog_10_method_26_code 1 (Option.some Jvm.ClassFile.FieldType.int) :: zt) { frames := 0, cells := 0, slots := 0, locals := 0 } (zPc [.ref qm] D [(qm, .inr (8, [.ref qT, .int (iI len), .int (iI op), .int (iI fp), .int (iI bu), .int (iI ra), .int (iI en), .ref qMe, .ref qPk, .ref qSz, .ref qSu, .ref qDa, .ref qLo, .ref qLe, .ref qNa, .ref qNs, .ref qSt, .ref qSa, .ref qCo, .ref qWr, .int (iI to), .int (iI nw), .int (iI bt), .int (iI rf), .ref qLn, .ref qSm, .ref qCd, .ref qSc, .int (iI sy), .int (iI di), .int (iI th)]))] [] sz (fun _ => True)) (va_Qi (fun (r : Int32) => fun (_ : Unit) => r = (iI fp) ∧ (True)) (fun u9 t => zB D ((fun (_ : Unit) => [(qm, .inr (8, [.ref qT, .int (iI len), .int (iI op), .int (iI fp), .int (iI bu), .int (iI ra), .int (iI en), .ref qMe, .ref qPk, .ref qSz, .ref qSu, .ref qDa, .ref qLo, .ref qLe, .ref qNa, .ref qNs, .ref qSt, .ref qSa, .ref qCo, .ref qWr, .int (iI to), .int (iI nw), .int (iI bt), .int (iI rf), .ref qLn, .ref qSm, .ref qCd, .ref qSc, .int (iI sy), .int (iI di), .int (iI 0)]))]) u9) ((fun (_ : Unit) => []) u9) (va_A [(qm, .inr (8, [.ref qT, .int (iI len), .int (iI op), .int (iI fp), .int (iI bu), .int (iI ra), .int (iI en), .ref qMe, .ref qPk, .ref qSz, .ref qSu, .ref qDa, .ref qLo, .ref qLe, .ref qNa, .ref qNs, .ref qSt, .ref qSa, .ref qCo, .ref qWr, .int (iI to), .int (iI nw), .int (iI bt), .int (iI rf), .ref qLn, .ref qSm, .ref qCd, .ref qSc, .int (iI sy), .int (iI di), .int (iI th)]))] sz) t) (va_A [(qm, .inr (8, [.ref qT, .int (iI len), .int (iI op), .int (iI fp), .int (iI bu), .int (iI ra), .int (iI en), .ref qMe, .ref qPk, .ref qSz, .ref qSu, .ref qDa, .ref qLo, .ref qLe, .ref qNa, .ref qNs, .ref qSt, .ref qSa, .ref qCo, .ref qWr, .int (iI to), .int (iI nw), .int (iI bt), .int (iI rf), .ref qLn, .ref qSm, .ref qCd, .ref qSc, .int (iI sy), .int (iI di), .int (iI th)]))] sz)) 0 0 (va_A [(qm, .inr (8, [.ref qT, .int (iI len), .int (iI op), .int (iI fp), .int (iI bu), .int (iI ra), .int (iI en), .ref qMe, .ref qPk, .ref qSz, .ref qSu, .ref qDa, .ref qLo, .ref qLe, .ref qNa, .ref qNs, .ref qSt, .ref qSa, .ref qCo, .ref qWr, .int (iI to), .int (iI nw), .int (iI bt), .int (iI rf), .ref qLn, .ref qSm, .ref qCd, .ref qSc, .int (iI sy), .int (iI di), .int (iI th)]))] sz) :=
  zMet (Qf := fun A => va_Qi (fun (r : Int32) => fun (_ : Unit) => r = (iI fp) ∧ (True)) (fun u9 t => zB D ((fun (_ : Unit) => [(qm, .inr (8, [.ref qT, .int (iI len), .int (iI op), .int (iI fp), .int (iI bu), .int (iI ra), .int (iI en), .ref qMe, .ref qPk, .ref qSz, .ref qSu, .ref qDa, .ref qLo, .ref qLe, .ref qNa, .ref qNs, .ref qSt, .ref qSa, .ref qCo, .ref qWr, .int (iI to), .int (iI nw), .int (iI bt), .int (iI rf), .ref qLn, .ref qSm, .ref qCd, .ref qSc, .int (iI sy), .int (iI di), .int (iI 0)]))]) u9) ((fun (_ : Unit) => []) u9) A t) A) (by decide) (Nat.le_of_ble_eq_true rfl) (fun p e s m below meth c A ls hx hb hr hml hown ht hlk hnm hA hK hP hD hX hl => by
    have hS : va_S A s.heap s.heap [] := va_S.rf
    have hl : lv_has ls 1 [(0, .ref qm)] := hl
    refine lv_aload_n hx hb d_M_place_0 rfl (lv_at hl 0 rfl) ?_
    refine lv_iconst (v := iI 0) hx hb d_M_place_1 (by decide) ?_
    refine va_put (ci := 8) (v := .int (iI 0)) (ty := .int) (C := "ZipGuardModel") (T := F_M) (N := 31) hx hb ht zi_M ty_M tk_M nm_M hown hK hP hD hS 0 rfl rfl 30 (by decide) (ht _ zm_782) (fun _ h9 => h9) rfl (by decide +kernel) rfl rfl (Nat.le_of_ble_eq_true rfl) d_M_place_2 (fun H locs hP hD hS => ?_)
    have hP : va_P D zcl [(qm, .inr (8, [.ref qT, .int (iI len), .int (iI op), .int (iI fp), .int (iI bu), .int (iI ra), .int (iI en), .ref qMe, .ref qPk, .ref qSz, .ref qSu, .ref qDa, .ref qLo, .ref qLe, .ref qNa, .ref qNs, .ref qSt, .ref qSa, .ref qCo, .ref qWr, .int (iI to), .int (iI nw), .int (iI bt), .int (iI rf), .ref qLn, .ref qSm, .ref qCd, .ref qSc, .int (iI sy), .int (iI di), .int (iI 0)]))] H := hP
    have hD : va_D A [(qm, .inr (8, [.ref qT, .int (iI len), .int (iI op), .int (iI fp), .int (iI bu), .int (iI ra), .int (iI en), .ref qMe, .ref qPk, .ref qSz, .ref qSu, .ref qDa, .ref qLo, .ref qLe, .ref qNa, .ref qNs, .ref qSt, .ref qSa, .ref qCo, .ref qWr, .int (iI to), .int (iI nw), .int (iI bt), .int (iI rf), .ref qLn, .ref qSm, .ref qCd, .ref qSc, .int (iI sy), .int (iI di), .int (iI 0)]))] := hD
    refine lv_aload_n hx hb d_M_place_5 rfl (lv_at hl 0 rfl) ?_
    refine va_get (ci := 8) (C := "ZipGuardModel") (T := F_M) (N := 31) hx hb ht zi_M hown hK hP 0 rfl rfl 3 (by decide) (ht _ zm_755) (fun _ h9 => h9) rfl d_M_place_6 ?_
    exact zreti hx hb hr hlk hK hP hD hS () [0] [] rfl (by decide) rfl (⟨rfl, trivial⟩) (Nat.le_of_ble_eq_true rfl) (Nat.le_of_ble_eq_true rfl) d_M_place_9)
set_option maxHeartbeats 4000000 in
set_option maxRecDepth 100000 in
theorem m_feed (l : Launch) (D : va_G) (sz : Nat) (qm : Nat) (qT : Nat) (len : Int) (op : Int) (fp : Int) (bu : Int) (ra : Int) (en : Int) (qMe : Nat) (qPk : Nat) (qSz : Nat) (qSu : Nat) (qDa : Nat) (qLo : Nat) (qLe : Nat) (qNa : Nat) (qNs : Nat) (qSt : Nat) (qSa : Nat) (qCo : Nat) (qWr : Nat) (to : Int) (nw : Int) (bt : Int) (rf : Int) (qLn : Nat) (qSm : Nat) (qCd : Nat) (qSc : Nat) (sy : Int) (di : Int) (th : Int) (cT : ClassId) (fT : Nat → Int32) (a0 : Int) (a1 : Int) (a2 : Int) (a3 : Int) (a4 : Int) (hlen : 0 ≤ len ∧ len ≤ 20000) : Met l y_M_feed (Cond.code y_M_feed prog_10_method_5_code 8 (Option.some Jvm.ClassFile.FieldType.int) :: zt) { frames := 1, cells := 0, slots := 0, locals := 22 } (zPc [.ref qm, .int (iI a0), .int (iI a1), .int (iI a2), .int (iI a3), .int (iI a4)] D [(qm, .inr (8, [.ref qT, .int (iI len), .int (iI op), .int (iI fp), .int (iI bu), .int (iI ra), .int (iI en), .ref qMe, .ref qPk, .ref qSz, .ref qSu, .ref qDa, .ref qLo, .ref qLe, .ref qNa, .ref qNs, .ref qSt, .ref qSa, .ref qCo, .ref qWr, .int (iI to), .int (iI nw), .int (iI bt), .int (iI rf), .ref qLn, .ref qSm, .ref qCd, .ref qSc, .int (iI sy), .int (iI di), .int (iI th)])), (qT, .inl (cT, 20000, .inl fT))] [(cT, .byte)] sz (fun _ => True)) (va_Qi (fun (r : Int32) => fun (u9 : Int × Int × Int × Int × Int × Int × (Nat → Int32)) => match u9 with | (len1, op1, en1, to1, t1, x, f1) => r = (iI x) ∧ ((zFq fT f1 len a0 a1 a2 a3 a4) ∧ (len + 20 ≤ 20000 → len1 = len + 20 ∧ t1 = 0 ∧ x = len + 20 ∧ op1 = 0 ∧ en1 = 0 ∧ to1 = 0) ∧ (20000 < len + 20 → t1 = 1 ∧ len1 = len ∧ op1 = op ∧ en1 = en ∧ to1 = to))) (fun u9 t => zB D ((fun (u9 : Int × Int × Int × Int × Int × Int × (Nat → Int32)) => match u9 with | (len1, op1, en1, to1, t1, x, f1) => [(qm, .inr (8, [.ref qT, .int (iI len1), .int (iI op1), .int (iI fp), .int (iI bu), .int (iI ra), .int (iI en1), .ref qMe, .ref qPk, .ref qSz, .ref qSu, .ref qDa, .ref qLo, .ref qLe, .ref qNa, .ref qNs, .ref qSt, .ref qSa, .ref qCo, .ref qWr, .int (iI to1), .int (iI nw), .int (iI bt), .int (iI rf), .ref qLn, .ref qSm, .ref qCd, .ref qSc, .int (iI sy), .int (iI di), .int (iI t1)])), (qT, .inl (cT, 20000, .inl f1))]) u9) ((fun (u9 : Int × Int × Int × Int × Int × Int × (Nat → Int32)) => match u9 with | (len1, op1, en1, to1, t1, x, f1) => [(cT, .byte)]) u9) (va_A [(qm, .inr (8, [.ref qT, .int (iI len), .int (iI op), .int (iI fp), .int (iI bu), .int (iI ra), .int (iI en), .ref qMe, .ref qPk, .ref qSz, .ref qSu, .ref qDa, .ref qLo, .ref qLe, .ref qNa, .ref qNs, .ref qSt, .ref qSa, .ref qCo, .ref qWr, .int (iI to), .int (iI nw), .int (iI bt), .int (iI rf), .ref qLn, .ref qSm, .ref qCd, .ref qSc, .int (iI sy), .int (iI di), .int (iI th)])), (qT, .inl (cT, 20000, .inl fT))] sz) t) (va_A [(qm, .inr (8, [.ref qT, .int (iI len), .int (iI op), .int (iI fp), .int (iI bu), .int (iI ra), .int (iI en), .ref qMe, .ref qPk, .ref qSz, .ref qSu, .ref qDa, .ref qLo, .ref qLe, .ref qNa, .ref qNs, .ref qSt, .ref qSa, .ref qCo, .ref qWr, .int (iI to), .int (iI nw), .int (iI bt), .int (iI rf), .ref qLn, .ref qSm, .ref qCd, .ref qSc, .int (iI sy), .int (iI di), .int (iI th)])), (qT, .inl (cT, 20000, .inl fT))] sz)) 0 0 (va_A [(qm, .inr (8, [.ref qT, .int (iI len), .int (iI op), .int (iI fp), .int (iI bu), .int (iI ra), .int (iI en), .ref qMe, .ref qPk, .ref qSz, .ref qSu, .ref qDa, .ref qLo, .ref qLe, .ref qNa, .ref qNs, .ref qSt, .ref qSa, .ref qCo, .ref qWr, .int (iI to), .int (iI nw), .int (iI bt), .int (iI rf), .ref qLn, .ref qSm, .ref qCd, .ref qSc, .int (iI sy), .int (iI di), .int (iI th)])), (qT, .inl (cT, 20000, .inl fT))] sz) :=
  zMet (Qf := fun A => va_Qi (fun (r : Int32) => fun (u9 : Int × Int × Int × Int × Int × Int × (Nat → Int32)) => match u9 with | (len1, op1, en1, to1, t1, x, f1) => r = (iI x) ∧ ((zFq fT f1 len a0 a1 a2 a3 a4) ∧ (len + 20 ≤ 20000 → len1 = len + 20 ∧ t1 = 0 ∧ x = len + 20 ∧ op1 = 0 ∧ en1 = 0 ∧ to1 = 0) ∧ (20000 < len + 20 → t1 = 1 ∧ len1 = len ∧ op1 = op ∧ en1 = en ∧ to1 = to))) (fun u9 t => zB D ((fun (u9 : Int × Int × Int × Int × Int × Int × (Nat → Int32)) => match u9 with | (len1, op1, en1, to1, t1, x, f1) => [(qm, .inr (8, [.ref qT, .int (iI len1), .int (iI op1), .int (iI fp), .int (iI bu), .int (iI ra), .int (iI en1), .ref qMe, .ref qPk, .ref qSz, .ref qSu, .ref qDa, .ref qLo, .ref qLe, .ref qNa, .ref qNs, .ref qSt, .ref qSa, .ref qCo, .ref qWr, .int (iI to1), .int (iI nw), .int (iI bt), .int (iI rf), .ref qLn, .ref qSm, .ref qCd, .ref qSc, .int (iI sy), .int (iI di), .int (iI t1)])), (qT, .inl (cT, 20000, .inl f1))]) u9) ((fun (u9 : Int × Int × Int × Int × Int × Int × (Nat → Int32)) => match u9 with | (len1, op1, en1, to1, t1, x, f1) => [(cT, .byte)]) u9) A t) A) (by decide) (Nat.le_of_ble_eq_true rfl) (fun p e s m below meth c A ls hx hb hr hml hown ht hlk hnm hA hK hP hD hX hl => by
    have hS : va_S A s.heap s.heap [] := va_S.rf
    have hl : lv_has ls 8 [(0, .ref qm), (1, .int (iI a0)), (2, .int (iI a1)), (3, .int (iI a2)), (4, .int (iI a3)), (5, .int (iI a4))] := hl
    refine lv_aload_n hx hb d_M_feed_0 rfl (lv_at hl 0 rfl) ?_
    refine lv_aload_n hx hb d_M_feed_1 rfl (lv_at hl 0 rfl) ?_
    refine va_get (ci := 8) (C := "ZipGuardModel") (T := F_M) (N := 31) hx hb ht zi_M hown hK hP 0 rfl rfl 1 (by decide) (ht _ zm_753) (fun _ h9 => h9) rfl d_M_feed_2 ?_
    refine lv_bipush (v := iI 20) hx hb d_M_feed_5 (by decide) ?_
    refine zv_iadd (z := len + 20) hx hb d_M_feed_7 (by omega) ?_
    refine lv_sipush (v := iI 20000) hx hb d_M_feed_8 (by decide) ?_
    refine zv_icmp_le (tgt := 18) hx hb d_M_feed_11 (by decide) (by omega) (by omega) (fun hc_1 => ?_) (fun hc_1 => ?_)
    · skip
      refine lv_iconst (v := iI 0) hx hb d_M_feed_18 (by decide) ?_
      refine lv_iconst (v := iI 1) hx hb d_M_feed_19 (by decide) ?_
      refine zji (wr := [(qT, .inl (cT, 20000, .inl fT))]) (va_runV (As := [.int (iI 0), .int (iI 1)]) (rest := []) ⟨hx, hb, hml, hown, ht⟩ (m_fails l D _ qm qT len op fp bu ra en qMe qPk qSz qSu qDa qLo qLe qNa qNs qSt qSa qCo qWr to nw bt rf qLn qSm qCd qSc sy di th 0 1 (by omega)) (cwV 2 ht (zt_goodV zm_855 zm_856 zm_30 zm_79 zm_857) rfl rfl rfl (by decide +kernel) ⟨Nat.le_of_ble_eq_true rfl, Nat.le_of_ble_eq_true rfl⟩) (zpreV zBlind_t hK hP hD [0] [] rfl (by decide) rfl (fun _ _ _ => trivial) (va_recv (q := ("ZipGuardModel", F_M, 31)) hK hP rfl (q0 := 0) (ci := 8) rfl)) rfl rfl hl.1 rfl (lv_room (Nat.le_of_ble_eq_true rfl)) d_M_feed_20 ⟨Nat.le_of_ble_eq_true rfl, Nat.le_of_ble_eq_true rfl⟩) hK hP hD hS hA [0] [1] rfl rfl (by decide) (by decide) (fun r3 u9 H locs hp4 hP hD hK hS => ?_)
      obtain ⟨t_2, rfl⟩ : ∃ z, z = u9 := ⟨u9, rfl⟩
      dsimp only at hp4 hP hD hK
      have hP : va_P D zcl [(qT, .inl (cT, 20000, .inl fT)), (qm, .inr (8, [.ref qT, .int (iI len), .int (iI op), .int (iI fp), .int (iI bu), .int (iI ra), .int (iI en), .ref qMe, .ref qPk, .ref qSz, .ref qSu, .ref qDa, .ref qLo, .ref qLe, .ref qNa, .ref qNs, .ref qSt, .ref qSa, .ref qCo, .ref qWr, .int (iI to), .int (iI nw), .int (iI bt), .int (iI rf), .ref qLn, .ref qSm, .ref qCd, .ref qSc, .int (iI sy), .int (iI di), .int (iI t_2)]))] H := hP
      have hD : va_D A [(qT, .inl (cT, 20000, .inl fT)), (qm, .inr (8, [.ref qT, .int (iI len), .int (iI op), .int (iI fp), .int (iI bu), .int (iI ra), .int (iI en), .ref qMe, .ref qPk, .ref qSz, .ref qSu, .ref qDa, .ref qLo, .ref qLe, .ref qNa, .ref qNs, .ref qSt, .ref qSa, .ref qCo, .ref qWr, .int (iI to), .int (iI nw), .int (iI bt), .int (iI rf), .ref qLn, .ref qSm, .ref qCd, .ref qSc, .int (iI sy), .int (iI di), .int (iI t_2)]))] := hD
      have hK : va_K D zcl [(cT, .byte)] s := hK
      obtain ⟨he_5, hp4⟩ := hp4
      subst he_5
      have hP := hP.sub (ws' := [(qm, .inr (8, [.ref qT, .int (iI len), .int (iI op), .int (iI fp), .int (iI bu), .int (iI ra), .int (iI en), .ref qMe, .ref qPk, .ref qSz, .ref qSu, .ref qDa, .ref qLo, .ref qLe, .ref qNa, .ref qNs, .ref qSt, .ref qSa, .ref qCo, .ref qWr, .int (iI to), .int (iI nw), .int (iI bt), .int (iI rf), .ref qLn, .ref qSm, .ref qCd, .ref qSc, .int (iI sy), .int (iI di), .int (iI t_2)])), (qT, .inl (cT, 20000, .inl fT))]) [1, 0] rfl
      have hD := hD.sub (ws' := [(qm, .inr (8, [.ref qT, .int (iI len), .int (iI op), .int (iI fp), .int (iI bu), .int (iI ra), .int (iI en), .ref qMe, .ref qPk, .ref qSz, .ref qSu, .ref qDa, .ref qLo, .ref qLe, .ref qNa, .ref qNs, .ref qSt, .ref qSa, .ref qCo, .ref qWr, .int (iI to), .int (iI nw), .int (iI bt), .int (iI rf), .ref qLn, .ref qSm, .ref qCd, .ref qSc, .int (iI sy), .int (iI di), .int (iI t_2)])), (qT, .inl (cT, 20000, .inl fT))]) [1, 0] (by decide) rfl
      have hK := hK.sub (tys' := [(cT, .byte)]) [0] rfl
      refine zv_if_eq (tgt := 28) hx hb d_M_feed_23 (by decide) (by omega) (fun hc_6 => ?_) (fun hc_6 => by omega)
      refine lv_iconst (v := iI 0) hx hb d_M_feed_28 (by decide) ?_
      refine lv_istore (lv' := [(6, .int (iI 0)), (0, .ref qm), (1, .int (iI a0)), (2, .int (iI a1)), (3, .int (iI a2)), (4, .int (iI a3)), (5, .int (iI a4))]) hx hb d_M_feed_29 hl (by decide) rfl (fun ls hl => ?_)
      have lp31 : ∀ (j : Nat) (k : Int) (f2 : Nat → Int32) (H : Heap) (locs : List Loc) (ls : Array Slot), (0 ≤ k ∧ k ≤ 20) → (∀ i : Nat, ((i : Int) < len ∨ len + 20 ≤ (i : Int)) → f2 i = fT i) → (∀ j : Int, 0 ≤ j → j < k → f2 (len + j).toNat = zfb a0 a1 a2 a3 a4 j) → (20 - k < (j : Int)) → va_P D zcl [(qm, .inr (8, [.ref qT, .int (iI len), .int (iI op), .int (iI fp), .int (iI bu), .int (iI ra), .int (iI en), .ref qMe, .ref qPk, .ref qSz, .ref qSu, .ref qDa, .ref qLo, .ref qLe, .ref qNa, .ref qNs, .ref qSt, .ref qSa, .ref qCo, .ref qWr, .int (iI to), .int (iI nw), .int (iI bt), .int (iI rf), .ref qLn, .ref qSm, .ref qCd, .ref qSc, .int (iI sy), .int (iI di), .int (iI t_2)])), (qT, .inl (cT, 20000, .inl f2))] H → va_D A [(qm, .inr (8, [.ref qT, .int (iI len), .int (iI op), .int (iI fp), .int (iI bu), .int (iI ra), .int (iI en), .ref qMe, .ref qPk, .ref qSz, .ref qSu, .ref qDa, .ref qLo, .ref qLe, .ref qNa, .ref qNs, .ref qSt, .ref qSa, .ref qCo, .ref qWr, .int (iI to), .int (iI nw), .int (iI bt), .int (iI rf), .ref qLn, .ref qSm, .ref qCd, .ref qSc, .int (iI sy), .int (iI di), .int (iI t_2)])), (qT, .inl (cT, 20000, .inl f2))] → va_S A s.heap H locs → lv_has ls 8 [(6, .int (iI k)), (0, .ref qm), (1, .int (iI a0)), (2, .int (iI a1)), (3, .int (iI a2)), (4, .int (iI a3)), (5, .int (iI a4))] → W p l e { frames := 1, cells := 0, slots := 0, locals := 22 } s m [.ref qm, .int (iI a0), .int (iI a1), .int (iI a2), .int (iI a3), .int (iI a4)].toArray below meth c H locs 0 0 (MQ below ((fun A => va_Qi (fun (r : Int32) => fun (u9 : Int × Int × Int × Int × Int × Int × (Nat → Int32)) => match u9 with | (len1, op1, en1, to1, t1, x, f1) => r = (iI x) ∧ ((zFq fT f1 len a0 a1 a2 a3 a4) ∧ (len + 20 ≤ 20000 → len1 = len + 20 ∧ t1 = 0 ∧ x = len + 20 ∧ op1 = 0 ∧ en1 = 0 ∧ to1 = 0) ∧ (20000 < len + 20 → t1 = 1 ∧ len1 = len ∧ op1 = op ∧ en1 = en ∧ to1 = to))) (fun u9 t => zB D ((fun (u9 : Int × Int × Int × Int × Int × Int × (Nat → Int32)) => match u9 with | (len1, op1, en1, to1, t1, x, f1) => [(qm, .inr (8, [.ref qT, .int (iI len1), .int (iI op1), .int (iI fp), .int (iI bu), .int (iI ra), .int (iI en1), .ref qMe, .ref qPk, .ref qSz, .ref qSu, .ref qDa, .ref qLo, .ref qLe, .ref qNa, .ref qNs, .ref qSt, .ref qSa, .ref qCo, .ref qWr, .int (iI to1), .int (iI nw), .int (iI bt), .int (iI rf), .ref qLn, .ref qSm, .ref qCd, .ref qSc, .int (iI sy), .int (iI di), .int (iI t1)])), (qT, .inl (cT, 20000, .inl f1))]) u9) ((fun (u9 : Int × Int × Int × Int × Int × Int × (Nat → Int32)) => match u9 with | (len1, op1, en1, to1, t1, x, f1) => [(cT, .byte)]) u9) A t) A) A) [.ref qm, .int (iI a0), .int (iI a1), .int (iI a2), .int (iI a3), .int (iI a4)].toArray s 0 0 A) (F0 m 31 ls []) := by
        intro j
        induction j with
        | zero => intro k f2 H locs ls hk1 hlo hhi hj31 hP hD hS hl; exfalso; omega
        | succ j ih31 =>
          intro k f2 H locs ls hk1 hlo hhi hj31 hP hD hS hl
          refine lv_iload hx hb d_M_feed_31 (lv_at hl 0 rfl) ?_
          refine lv_bipush (v := iI 20) hx hb d_M_feed_33 (by decide) ?_
          refine zv_icmp_ge (tgt := 118) hx hb d_M_feed_35 (by decide) (by omega) (by omega) (fun hc_7 => ?_) (fun hc_7 => ?_)
          · skip
            refine lv_aload_n hx hb d_M_feed_118 rfl (lv_at hl 1 rfl) ?_
            refine lv_dup hx hb d_M_feed_119 rfl ?_
            refine va_get (ci := 8) (C := "ZipGuardModel") (T := F_M) (N := 31) hx hb ht zi_M hown hK hP 0 rfl rfl 1 (by decide) (ht _ zm_753) (fun _ h9 => h9) rfl d_M_feed_120 ?_
            refine lv_bipush (v := iI 20) hx hb d_M_feed_123 (by decide) ?_
            refine zv_iadd (z := len + 20) hx hb d_M_feed_125 (by omega) ?_
            refine va_put (ci := 8) (v := .int (iI (len + 20))) (ty := .int) (C := "ZipGuardModel") (T := F_M) (N := 31) hx hb ht zi_M ty_M tk_M nm_M hown hK hP hD hS 0 rfl rfl 1 (by decide) (ht _ zm_753) (fun _ h9 => h9) rfl (by decide +kernel) rfl rfl (Nat.le_of_ble_eq_true rfl) d_M_feed_126 (fun H locs hP hD hS => ?_)
            have hP : va_P D zcl [(qm, .inr (8, [.ref qT, .int (iI (len + 20)), .int (iI op), .int (iI fp), .int (iI bu), .int (iI ra), .int (iI en), .ref qMe, .ref qPk, .ref qSz, .ref qSu, .ref qDa, .ref qLo, .ref qLe, .ref qNa, .ref qNs, .ref qSt, .ref qSa, .ref qCo, .ref qWr, .int (iI to), .int (iI nw), .int (iI bt), .int (iI rf), .ref qLn, .ref qSm, .ref qCd, .ref qSc, .int (iI sy), .int (iI di), .int (iI t_2)])), (qT, .inl (cT, 20000, .inl f2))] H := hP
            have hD : va_D A [(qm, .inr (8, [.ref qT, .int (iI (len + 20)), .int (iI op), .int (iI fp), .int (iI bu), .int (iI ra), .int (iI en), .ref qMe, .ref qPk, .ref qSz, .ref qSu, .ref qDa, .ref qLo, .ref qLe, .ref qNa, .ref qNs, .ref qSt, .ref qSa, .ref qCo, .ref qWr, .int (iI to), .int (iI nw), .int (iI bt), .int (iI rf), .ref qLn, .ref qSm, .ref qCd, .ref qSc, .int (iI sy), .int (iI di), .int (iI t_2)])), (qT, .inl (cT, 20000, .inl f2))] := hD
            refine lv_aload_n hx hb d_M_feed_129 rfl (lv_at hl 1 rfl) ?_
            refine zjv (wr := [(qT, .inl (cT, 20000, .inl f2))]) (va_runV (As := []) (rest := []) ⟨hx, hb, hml, hown, ht⟩ (m_shut l D _ qm qT (len + 20) op fp bu ra en qMe qPk qSz qSu qDa qLo qLe qNa qNs qSt qSa qCo qWr to nw bt rf qLn qSm qCd qSc sy di t_2 ) (cwV 0 ht (zt_goodV zm_858 zm_859 zm_31 zm_79 zm_860) rfl rfl rfl (by decide +kernel) ⟨Nat.le_of_ble_eq_true rfl, Nat.le_of_ble_eq_true rfl⟩) (zpreV zBlind_t hK hP hD [0] [] rfl (by decide) rfl (fun _ _ _ => trivial) (va_recv (q := ("ZipGuardModel", F_M, 31)) hK hP rfl (q0 := 0) (ci := 8) rfl)) rfl rfl hl.1 rfl (lv_room (Nat.le_of_ble_eq_true rfl)) d_M_feed_130 ⟨Nat.le_of_ble_eq_true rfl, Nat.le_of_ble_eq_true rfl⟩) hK hP hD hS hA [0] [1] rfl rfl (by decide) (by decide) (fun u9 H locs hp9 hP hD hK hS => ?_)
            have hP : va_P D zcl [(qT, .inl (cT, 20000, .inl f2)), (qm, .inr (8, [.ref qT, .int (iI (len + 20)), .int (iI 0), .int (iI fp), .int (iI bu), .int (iI ra), .int (iI 0), .ref qMe, .ref qPk, .ref qSz, .ref qSu, .ref qDa, .ref qLo, .ref qLe, .ref qNa, .ref qNs, .ref qSt, .ref qSa, .ref qCo, .ref qWr, .int (iI 0), .int (iI nw), .int (iI bt), .int (iI rf), .ref qLn, .ref qSm, .ref qCd, .ref qSc, .int (iI sy), .int (iI di), .int (iI t_2)]))] H := hP
            have hD : va_D A [(qT, .inl (cT, 20000, .inl f2)), (qm, .inr (8, [.ref qT, .int (iI (len + 20)), .int (iI 0), .int (iI fp), .int (iI bu), .int (iI ra), .int (iI 0), .ref qMe, .ref qPk, .ref qSz, .ref qSu, .ref qDa, .ref qLo, .ref qLe, .ref qNa, .ref qNs, .ref qSt, .ref qSa, .ref qCo, .ref qWr, .int (iI 0), .int (iI nw), .int (iI bt), .int (iI rf), .ref qLn, .ref qSm, .ref qCd, .ref qSc, .int (iI sy), .int (iI di), .int (iI t_2)]))] := hD
            have hK : va_K D zcl [(cT, .byte)] s := hK
            have hP := hP.sub (ws' := [(qm, .inr (8, [.ref qT, .int (iI (len + 20)), .int (iI 0), .int (iI fp), .int (iI bu), .int (iI ra), .int (iI 0), .ref qMe, .ref qPk, .ref qSz, .ref qSu, .ref qDa, .ref qLo, .ref qLe, .ref qNa, .ref qNs, .ref qSt, .ref qSa, .ref qCo, .ref qWr, .int (iI 0), .int (iI nw), .int (iI bt), .int (iI rf), .ref qLn, .ref qSm, .ref qCd, .ref qSc, .int (iI sy), .int (iI di), .int (iI t_2)])), (qT, .inl (cT, 20000, .inl f2))]) [1, 0] rfl
            have hD := hD.sub (ws' := [(qm, .inr (8, [.ref qT, .int (iI (len + 20)), .int (iI 0), .int (iI fp), .int (iI bu), .int (iI ra), .int (iI 0), .ref qMe, .ref qPk, .ref qSz, .ref qSu, .ref qDa, .ref qLo, .ref qLe, .ref qNa, .ref qNs, .ref qSt, .ref qSa, .ref qCo, .ref qWr, .int (iI 0), .int (iI nw), .int (iI bt), .int (iI rf), .ref qLn, .ref qSm, .ref qCd, .ref qSc, .int (iI sy), .int (iI di), .int (iI t_2)])), (qT, .inl (cT, 20000, .inl f2))]) [1, 0] (by decide) rfl
            have hK := hK.sub (tys' := [(cT, .byte)]) [0] rfl
            refine lv_aload_n hx hb d_M_feed_133 rfl (lv_at hl 1 rfl) ?_
            refine va_get (ci := 8) (C := "ZipGuardModel") (T := F_M) (N := 31) hx hb ht zi_M hown hK hP 0 rfl rfl 1 (by decide) (ht _ zm_753) (fun _ h9 => h9) rfl d_M_feed_134 ?_
            exact zreti hx hb hr hlk hK hP hD hS ((len + 20), 0, 0, 0, t_2, (len + 20), f2) [0, 1] [0] rfl (by decide) rfl (⟨rfl, ⟨⟨fun _ => ⟨hlo, fun j h1 h2 => hhi j h1 (by omega)⟩, fun h9 => absurd h9 (by omega)⟩, by omega⟩⟩) (Nat.le_of_ble_eq_true rfl) (Nat.le_of_ble_eq_true rfl) d_M_feed_137
          · skip
            have jn_10 : ∀ (wd : Int) (H : Heap) (locs : List Loc) (ls : Array Slot), (wd = zsel a0 a1 a2 a3 a4 k) → va_P D zcl [(qm, .inr (8, [.ref qT, .int (iI len), .int (iI op), .int (iI fp), .int (iI bu), .int (iI ra), .int (iI en), .ref qMe, .ref qPk, .ref qSz, .ref qSu, .ref qDa, .ref qLo, .ref qLe, .ref qNa, .ref qNs, .ref qSt, .ref qSa, .ref qCo, .ref qWr, .int (iI to), .int (iI nw), .int (iI bt), .int (iI rf), .ref qLn, .ref qSm, .ref qCd, .ref qSc, .int (iI sy), .int (iI di), .int (iI t_2)])), (qT, .inl (cT, 20000, .inl f2))] H → va_D A [(qm, .inr (8, [.ref qT, .int (iI len), .int (iI op), .int (iI fp), .int (iI bu), .int (iI ra), .int (iI en), .ref qMe, .ref qPk, .ref qSz, .ref qSu, .ref qDa, .ref qLo, .ref qLe, .ref qNa, .ref qNs, .ref qSt, .ref qSa, .ref qCo, .ref qWr, .int (iI to), .int (iI nw), .int (iI bt), .int (iI rf), .ref qLn, .ref qSm, .ref qCd, .ref qSc, .int (iI sy), .int (iI di), .int (iI t_2)])), (qT, .inl (cT, 20000, .inl f2))] → va_S A s.heap H locs → lv_has ls 8 [(6, .int (iI k)), (0, .ref qm), (1, .int (iI a0)), (2, .int (iI a1)), (3, .int (iI a2)), (4, .int (iI a3)), (5, .int (iI a4)), (7, .int (iI wd))] → W p l e { frames := 1, cells := 0, slots := 0, locals := 22 } s m [.ref qm, .int (iI a0), .int (iI a1), .int (iI a2), .int (iI a3), .int (iI a4)].toArray below meth c H locs 0 0 (MQ below ((fun A => va_Qi (fun (r : Int32) => fun (u9 : Int × Int × Int × Int × Int × Int × (Nat → Int32)) => match u9 with | (len1, op1, en1, to1, t1, x, f1) => r = (iI x) ∧ ((zFq fT f1 len a0 a1 a2 a3 a4) ∧ (len + 20 ≤ 20000 → len1 = len + 20 ∧ t1 = 0 ∧ x = len + 20 ∧ op1 = 0 ∧ en1 = 0 ∧ to1 = 0) ∧ (20000 < len + 20 → t1 = 1 ∧ len1 = len ∧ op1 = op ∧ en1 = en ∧ to1 = to))) (fun u9 t => zB D ((fun (u9 : Int × Int × Int × Int × Int × Int × (Nat → Int32)) => match u9 with | (len1, op1, en1, to1, t1, x, f1) => [(qm, .inr (8, [.ref qT, .int (iI len1), .int (iI op1), .int (iI fp), .int (iI bu), .int (iI ra), .int (iI en1), .ref qMe, .ref qPk, .ref qSz, .ref qSu, .ref qDa, .ref qLo, .ref qLe, .ref qNa, .ref qNs, .ref qSt, .ref qSa, .ref qCo, .ref qWr, .int (iI to1), .int (iI nw), .int (iI bt), .int (iI rf), .ref qLn, .ref qSm, .ref qCd, .ref qSc, .int (iI sy), .int (iI di), .int (iI t1)])), (qT, .inl (cT, 20000, .inl f1))]) u9) ((fun (u9 : Int × Int × Int × Int × Int × Int × (Nat → Int32)) => match u9 with | (len1, op1, en1, to1, t1, x, f1) => [(cT, .byte)]) u9) A t) A) A) [.ref qm, .int (iI a0), .int (iI a1), .int (iI a2), .int (iI a3), .int (iI a4)].toArray s 0 0 A) (F0 m 86 ls []) := by
              intro wd H locs ls hwd hP hD hS hl
              refine lv_aload_n hx hb d_M_feed_86 rfl (lv_at hl 1 rfl) ?_
              refine va_get (ci := 8) (C := "ZipGuardModel") (T := F_M) (N := 31) hx hb ht zi_M hown hK hP 0 rfl rfl 0 (by decide) (ht _ zm_752) (fun _ h9 => h9) rfl d_M_feed_87 ?_
              refine lv_aload_n hx hb d_M_feed_90 rfl (lv_at hl 1 rfl) ?_
              refine va_get (ci := 8) (C := "ZipGuardModel") (T := F_M) (N := 31) hx hb ht zi_M hown hK hP 0 rfl rfl 1 (by decide) (ht _ zm_753) (fun _ h9 => h9) rfl d_M_feed_91 ?_
              refine lv_iload hx hb d_M_feed_94 (lv_at hl 0 rfl) ?_
              refine zv_iadd (z := len + k) hx hb d_M_feed_96 (by omega) ?_
              refine lv_iload hx hb d_M_feed_97 (lv_at hl 7 rfl) ?_
              refine lv_bipush (v := iI 24) hx hb d_M_feed_99 (by decide) ?_
              refine lv_bipush (v := iI 8) hx hb d_M_feed_101 (by decide) ?_
              refine lv_iload hx hb d_M_feed_103 (lv_at hl 0 rfl) ?_
              refine lv_iconst (v := iI 4) hx hb d_M_feed_105 (by decide) ?_
              refine zv_irem hx hb d_M_feed_106 (by omega) (by omega) rfl ?_
              refine zv_nm (fun x_11 hz_12 => ?_)
              refine zv_imul (z := 8 * x_11) hx hb d_M_feed_107 (by omega) ?_
              refine zv_isub (z := -8 * x_11 + 24) hx hb d_M_feed_108 (by omega) ?_
              refine lv_ishr hx hb d_M_feed_109 ?_
              refine lv_i2b hx hb d_M_feed_110 rfl ?_
              refine zv_bast hx hb hK hP hD hS 1 0 rfl rfl (by omega) (by decide) d_M_feed_111 (fun g_13 H locs hg_14 hP hD hS => ?_)
              have hP : va_P D zcl [(qm, .inr (8, [.ref qT, .int (iI len), .int (iI op), .int (iI fp), .int (iI bu), .int (iI ra), .int (iI en), .ref qMe, .ref qPk, .ref qSz, .ref qSu, .ref qDa, .ref qLo, .ref qLe, .ref qNa, .ref qNs, .ref qSt, .ref qSa, .ref qCo, .ref qWr, .int (iI to), .int (iI nw), .int (iI bt), .int (iI rf), .ref qLn, .ref qSm, .ref qCd, .ref qSc, .int (iI sy), .int (iI di), .int (iI t_2)])), (qT, .inl (cT, 20000, .inl g_13))] H := hP
              have hD : va_D A [(qm, .inr (8, [.ref qT, .int (iI len), .int (iI op), .int (iI fp), .int (iI bu), .int (iI ra), .int (iI en), .ref qMe, .ref qPk, .ref qSz, .ref qSu, .ref qDa, .ref qLo, .ref qLe, .ref qNa, .ref qNs, .ref qSt, .ref qSa, .ref qCo, .ref qWr, .int (iI to), .int (iI nw), .int (iI bt), .int (iI rf), .ref qLn, .ref qSm, .ref qCd, .ref qSc, .int (iI sy), .int (iI di), .int (iI t_2)])), (qT, .inl (cT, 20000, .inl g_13))] := hD
              refine lv_iinc (k := 0) (v := iI (k + 1)) (lv' := [(6, .int (iI (k + 1))), (0, .ref qm), (1, .int (iI a0)), (2, .int (iI a1)), (3, .int (iI a2)), (4, .int (iI a3)), (5, .int (iI a4)), (7, .int (iI wd))]) hx hb d_M_feed_112 hl rfl (zinc (by omega)) (by decide) rfl (fun ls hl => ?_)
              refine lv_goto (tgt := 31) hx hb d_M_feed_115 (by decide) ?_
              exact ih31 (k + 1) g_13 _ _ _ (by omega) (zap_lo hg_14 (by omega) hlo) (zfd_hi hg_14 hwd (by omega) (by omega) (by omega) hhi) (by omega) hP hD hS (lv_sub hl [0, 1, 2, 3, 4, 5, 6] rfl)
            refine lv_iload hx hb d_M_feed_38 (lv_at hl 0 rfl) ?_
            refine lv_iconst (v := iI 4) hx hb d_M_feed_40 (by decide) ?_
            refine zv_icmp_ge (tgt := 48) hx hb d_M_feed_41 (by decide) (by omega) (by omega) (fun hc_15 => ?_) (fun hc_15 => ?_)
            · skip
              refine lv_iload hx hb d_M_feed_48 (lv_at hl 0 rfl) ?_
              refine lv_bipush (v := iI 8) hx hb d_M_feed_50 (by decide) ?_
              refine zv_icmp_ge (tgt := 59) hx hb d_M_feed_52 (by decide) (by omega) (by omega) (fun hc_16 => ?_) (fun hc_16 => ?_)
              · skip
                refine lv_iload hx hb d_M_feed_59 (lv_at hl 0 rfl) ?_
                refine lv_bipush (v := iI 12) hx hb d_M_feed_61 (by decide) ?_
                refine zv_icmp_ge (tgt := 70) hx hb d_M_feed_63 (by decide) (by omega) (by omega) (fun hc_17 => ?_) (fun hc_17 => ?_)
                · skip
                  refine lv_iload hx hb d_M_feed_70 (lv_at hl 0 rfl) ?_
                  refine lv_bipush (v := iI 16) hx hb d_M_feed_72 (by decide) ?_
                  refine zv_icmp_ge (tgt := 82) hx hb d_M_feed_74 (by decide) (by omega) (by omega) (fun hc_18 => ?_) (fun hc_18 => ?_)
                  · skip
                    refine lv_iload hx hb d_M_feed_82 (lv_at hl 6 rfl) ?_
                    refine lv_istore (lv' := [(7, .int (iI a4)), (6, .int (iI k)), (0, .ref qm), (1, .int (iI a0)), (2, .int (iI a1)), (3, .int (iI a2)), (4, .int (iI a3)), (5, .int (iI a4))]) hx hb d_M_feed_84 hl (by decide) rfl (fun ls hl => ?_)
                    exact jn_10 a4 _ _ _ (by unfold zsel; (repeat' split) <;> omega) hP hD hS (lv_sub hl [1, 2, 3, 4, 5, 6, 7, 0] rfl)
                  · skip
                    refine lv_iload hx hb d_M_feed_77 (lv_at hl 5 rfl) ?_
                    refine lv_goto (tgt := 84) hx hb d_M_feed_79 (by decide) ?_
                    refine lv_istore (lv' := [(7, .int (iI a3)), (6, .int (iI k)), (0, .ref qm), (1, .int (iI a0)), (2, .int (iI a1)), (3, .int (iI a2)), (4, .int (iI a3)), (5, .int (iI a4))]) hx hb d_M_feed_84 hl (by decide) rfl (fun ls hl => ?_)
                    exact jn_10 a3 _ _ _ (by unfold zsel; (repeat' split) <;> omega) hP hD hS (lv_sub hl [1, 2, 3, 4, 5, 6, 7, 0] rfl)
                · skip
                  refine lv_iload_n hx hb d_M_feed_66 rfl (lv_at hl 4 rfl) ?_
                  refine lv_goto (tgt := 84) hx hb d_M_feed_67 (by decide) ?_
                  refine lv_istore (lv' := [(7, .int (iI a2)), (6, .int (iI k)), (0, .ref qm), (1, .int (iI a0)), (2, .int (iI a1)), (3, .int (iI a2)), (4, .int (iI a3)), (5, .int (iI a4))]) hx hb d_M_feed_84 hl (by decide) rfl (fun ls hl => ?_)
                  exact jn_10 a2 _ _ _ (by unfold zsel; (repeat' split) <;> omega) hP hD hS (lv_sub hl [1, 2, 3, 4, 5, 6, 7, 0] rfl)
              · skip
                refine lv_iload_n hx hb d_M_feed_55 rfl (lv_at hl 3 rfl) ?_
                refine lv_goto (tgt := 84) hx hb d_M_feed_56 (by decide) ?_
                refine lv_istore (lv' := [(7, .int (iI a1)), (6, .int (iI k)), (0, .ref qm), (1, .int (iI a0)), (2, .int (iI a1)), (3, .int (iI a2)), (4, .int (iI a3)), (5, .int (iI a4))]) hx hb d_M_feed_84 hl (by decide) rfl (fun ls hl => ?_)
                exact jn_10 a1 _ _ _ (by unfold zsel; (repeat' split) <;> omega) hP hD hS (lv_sub hl [1, 2, 3, 4, 5, 6, 7, 0] rfl)
            · skip
              refine lv_iload_n hx hb d_M_feed_44 rfl (lv_at hl 2 rfl) ?_
              refine lv_goto (tgt := 84) hx hb d_M_feed_45 (by decide) ?_
              refine lv_istore (lv' := [(7, .int (iI a0)), (6, .int (iI k)), (0, .ref qm), (1, .int (iI a0)), (2, .int (iI a1)), (3, .int (iI a2)), (4, .int (iI a3)), (5, .int (iI a4))]) hx hb d_M_feed_84 hl (by decide) rfl (fun ls hl => ?_)
              exact jn_10 a0 _ _ _ (by unfold zsel; (repeat' split) <;> omega) hP hD hS (lv_sub hl [1, 2, 3, 4, 5, 6, 7, 0] rfl)
      exact lp31 ((20 - 0 + 1 : Int)).toNat 0 fT _ _ _ (by omega) (fun _ _ => rfl) (fun j h1 h2 => absurd h2 (by omega)) (by omega) hP hD hS hl
    · skip
      refine lv_iconst (v := iI 1) hx hb d_M_feed_14 (by decide) ?_
      refine lv_goto (tgt := 19) hx hb d_M_feed_15 (by decide) ?_
      refine lv_iconst (v := iI 1) hx hb d_M_feed_19 (by decide) ?_
      refine zji (wr := [(qT, .inl (cT, 20000, .inl fT))]) (va_runV (As := [.int (iI 1), .int (iI 1)]) (rest := []) ⟨hx, hb, hml, hown, ht⟩ (m_fails l D _ qm qT len op fp bu ra en qMe qPk qSz qSu qDa qLo qLe qNa qNs qSt qSa qCo qWr to nw bt rf qLn qSm qCd qSc sy di th 1 1 (by omega)) (cwV 2 ht (zt_goodV zm_855 zm_856 zm_30 zm_79 zm_857) rfl rfl rfl (by decide +kernel) ⟨Nat.le_of_ble_eq_true rfl, Nat.le_of_ble_eq_true rfl⟩) (zpreV zBlind_t hK hP hD [0] [] rfl (by decide) rfl (fun _ _ _ => trivial) (va_recv (q := ("ZipGuardModel", F_M, 31)) hK hP rfl (q0 := 0) (ci := 8) rfl)) rfl rfl hl.1 rfl (lv_room (Nat.le_of_ble_eq_true rfl)) d_M_feed_20 ⟨Nat.le_of_ble_eq_true rfl, Nat.le_of_ble_eq_true rfl⟩) hK hP hD hS hA [0] [1] rfl rfl (by decide) (by decide) (fun r20 u9 H locs hp21 hP hD hK hS => ?_)
      obtain ⟨t_19, rfl⟩ : ∃ z, z = u9 := ⟨u9, rfl⟩
      dsimp only at hp21 hP hD hK
      have hP : va_P D zcl [(qT, .inl (cT, 20000, .inl fT)), (qm, .inr (8, [.ref qT, .int (iI len), .int (iI op), .int (iI fp), .int (iI bu), .int (iI ra), .int (iI en), .ref qMe, .ref qPk, .ref qSz, .ref qSu, .ref qDa, .ref qLo, .ref qLe, .ref qNa, .ref qNs, .ref qSt, .ref qSa, .ref qCo, .ref qWr, .int (iI to), .int (iI nw), .int (iI bt), .int (iI rf), .ref qLn, .ref qSm, .ref qCd, .ref qSc, .int (iI sy), .int (iI di), .int (iI t_19)]))] H := hP
      have hD : va_D A [(qT, .inl (cT, 20000, .inl fT)), (qm, .inr (8, [.ref qT, .int (iI len), .int (iI op), .int (iI fp), .int (iI bu), .int (iI ra), .int (iI en), .ref qMe, .ref qPk, .ref qSz, .ref qSu, .ref qDa, .ref qLo, .ref qLe, .ref qNa, .ref qNs, .ref qSt, .ref qSa, .ref qCo, .ref qWr, .int (iI to), .int (iI nw), .int (iI bt), .int (iI rf), .ref qLn, .ref qSm, .ref qCd, .ref qSc, .int (iI sy), .int (iI di), .int (iI t_19)]))] := hD
      have hK : va_K D zcl [(cT, .byte)] s := hK
      obtain ⟨he_22, hp21⟩ := hp21
      subst he_22
      have hP := hP.sub (ws' := [(qm, .inr (8, [.ref qT, .int (iI len), .int (iI op), .int (iI fp), .int (iI bu), .int (iI ra), .int (iI en), .ref qMe, .ref qPk, .ref qSz, .ref qSu, .ref qDa, .ref qLo, .ref qLe, .ref qNa, .ref qNs, .ref qSt, .ref qSa, .ref qCo, .ref qWr, .int (iI to), .int (iI nw), .int (iI bt), .int (iI rf), .ref qLn, .ref qSm, .ref qCd, .ref qSc, .int (iI sy), .int (iI di), .int (iI t_19)])), (qT, .inl (cT, 20000, .inl fT))]) [1, 0] rfl
      have hD := hD.sub (ws' := [(qm, .inr (8, [.ref qT, .int (iI len), .int (iI op), .int (iI fp), .int (iI bu), .int (iI ra), .int (iI en), .ref qMe, .ref qPk, .ref qSz, .ref qSu, .ref qDa, .ref qLo, .ref qLe, .ref qNa, .ref qNs, .ref qSt, .ref qSa, .ref qCo, .ref qWr, .int (iI to), .int (iI nw), .int (iI bt), .int (iI rf), .ref qLn, .ref qSm, .ref qCd, .ref qSc, .int (iI sy), .int (iI di), .int (iI t_19)])), (qT, .inl (cT, 20000, .inl fT))]) [1, 0] (by decide) rfl
      have hK := hK.sub (tys' := [(cT, .byte)]) [0] rfl
      refine zv_if_eq (tgt := 28) hx hb d_M_feed_23 (by decide) (by omega) (fun hc_23 => by omega) (fun hc_23 => ?_)
      refine lv_iconst (v := iI 0) hx hb d_M_feed_26 (by decide) ?_
      exact zreti hx hb hr hlk hK hP hD hS (len, op, en, to, t_19, 0, fT) [0, 1] [0] rfl (by decide) rfl (⟨rfl, ⟨⟨fun h9 => absurd h9 (by omega), fun _ => rfl⟩, by omega⟩⟩) (Nat.le_of_ble_eq_true rfl) (Nat.le_of_ble_eq_true rfl) d_M_feed_27)
set_option maxHeartbeats 4000000 in
set_option maxRecDepth 100000 in
theorem m_end (l : Launch) (D : va_G) (sz : Nat) (qm : Nat) (qT : Nat) (len : Int) (op : Int) (fp : Int) (bu : Int) (ra : Int) (en : Int) (qMe : Nat) (qPk : Nat) (qSz : Nat) (qSu : Nat) (qDa : Nat) (qLo : Nat) (qLe : Nat) (qNa : Nat) (qNs : Nat) (qSt : Nat) (qSa : Nat) (qCo : Nat) (qWr : Nat) (to : Int) (nw : Int) (bt : Int) (rf : Int) (qLn : Nat) (qSm : Nat) (qCd : Nat) (qSc : Nat) (sy : Int) (di : Int) (th : Int) (n : Int) (hlen : 0 ≤ len ∧ len ≤ 20000) (hn : -2147483648 ≤ n ∧ n ≤ 2147483647) : Met l y_M_end (Cond.code y_M_end prog_10_method_6_code 2 (Option.none : Option Jvm.ClassFile.FieldType) :: zt) { frames := 1, cells := 0, slots := 0, locals := 22 } (zPc [.ref qm, .int (iI n)] D [(qm, .inr (8, [.ref qT, .int (iI len), .int (iI op), .int (iI fp), .int (iI bu), .int (iI ra), .int (iI en), .ref qMe, .ref qPk, .ref qSz, .ref qSu, .ref qDa, .ref qLo, .ref qLe, .ref qNa, .ref qNs, .ref qSt, .ref qSa, .ref qCo, .ref qWr, .int (iI to), .int (iI nw), .int (iI bt), .int (iI rf), .ref qLn, .ref qSm, .ref qCd, .ref qSc, .int (iI sy), .int (iI di), .int (iI th)]))] [] sz (fun _ => True)) (va_Qv (fun (u9 : Int × Int × Int × Int × Int) => match u9 with | (len1, op1, en1, to1, t1) => (0 ≤ n ∧ n ≤ len → len1 = n ∧ t1 = 0 ∧ op1 = 0 ∧ en1 = 0 ∧ to1 = 0) ∧ (n < 0 ∨ len < n → t1 = 1 ∧ len1 = len ∧ op1 = op ∧ en1 = en ∧ to1 = to)) (fun u9 t => zB D ((fun (u9 : Int × Int × Int × Int × Int) => match u9 with | (len1, op1, en1, to1, t1) => [(qm, .inr (8, [.ref qT, .int (iI len1), .int (iI op1), .int (iI fp), .int (iI bu), .int (iI ra), .int (iI en1), .ref qMe, .ref qPk, .ref qSz, .ref qSu, .ref qDa, .ref qLo, .ref qLe, .ref qNa, .ref qNs, .ref qSt, .ref qSa, .ref qCo, .ref qWr, .int (iI to1), .int (iI nw), .int (iI bt), .int (iI rf), .ref qLn, .ref qSm, .ref qCd, .ref qSc, .int (iI sy), .int (iI di), .int (iI t1)]))]) u9) ((fun (u9 : Int × Int × Int × Int × Int) => match u9 with | (len1, op1, en1, to1, t1) => []) u9) (va_A [(qm, .inr (8, [.ref qT, .int (iI len), .int (iI op), .int (iI fp), .int (iI bu), .int (iI ra), .int (iI en), .ref qMe, .ref qPk, .ref qSz, .ref qSu, .ref qDa, .ref qLo, .ref qLe, .ref qNa, .ref qNs, .ref qSt, .ref qSa, .ref qCo, .ref qWr, .int (iI to), .int (iI nw), .int (iI bt), .int (iI rf), .ref qLn, .ref qSm, .ref qCd, .ref qSc, .int (iI sy), .int (iI di), .int (iI th)]))] sz) t) (va_A [(qm, .inr (8, [.ref qT, .int (iI len), .int (iI op), .int (iI fp), .int (iI bu), .int (iI ra), .int (iI en), .ref qMe, .ref qPk, .ref qSz, .ref qSu, .ref qDa, .ref qLo, .ref qLe, .ref qNa, .ref qNs, .ref qSt, .ref qSa, .ref qCo, .ref qWr, .int (iI to), .int (iI nw), .int (iI bt), .int (iI rf), .ref qLn, .ref qSm, .ref qCd, .ref qSc, .int (iI sy), .int (iI di), .int (iI th)]))] sz)) 0 0 (va_A [(qm, .inr (8, [.ref qT, .int (iI len), .int (iI op), .int (iI fp), .int (iI bu), .int (iI ra), .int (iI en), .ref qMe, .ref qPk, .ref qSz, .ref qSu, .ref qDa, .ref qLo, .ref qLe, .ref qNa, .ref qNs, .ref qSt, .ref qSa, .ref qCo, .ref qWr, .int (iI to), .int (iI nw), .int (iI bt), .int (iI rf), .ref qLn, .ref qSm, .ref qCd, .ref qSc, .int (iI sy), .int (iI di), .int (iI th)]))] sz) :=
  zMet (Qf := fun A => va_Qv (fun (u9 : Int × Int × Int × Int × Int) => match u9 with | (len1, op1, en1, to1, t1) => (0 ≤ n ∧ n ≤ len → len1 = n ∧ t1 = 0 ∧ op1 = 0 ∧ en1 = 0 ∧ to1 = 0) ∧ (n < 0 ∨ len < n → t1 = 1 ∧ len1 = len ∧ op1 = op ∧ en1 = en ∧ to1 = to)) (fun u9 t => zB D ((fun (u9 : Int × Int × Int × Int × Int) => match u9 with | (len1, op1, en1, to1, t1) => [(qm, .inr (8, [.ref qT, .int (iI len1), .int (iI op1), .int (iI fp), .int (iI bu), .int (iI ra), .int (iI en1), .ref qMe, .ref qPk, .ref qSz, .ref qSu, .ref qDa, .ref qLo, .ref qLe, .ref qNa, .ref qNs, .ref qSt, .ref qSa, .ref qCo, .ref qWr, .int (iI to1), .int (iI nw), .int (iI bt), .int (iI rf), .ref qLn, .ref qSm, .ref qCd, .ref qSc, .int (iI sy), .int (iI di), .int (iI t1)]))]) u9) ((fun (u9 : Int × Int × Int × Int × Int) => match u9 with | (len1, op1, en1, to1, t1) => []) u9) A t) A) (by decide) (Nat.le_of_ble_eq_true rfl) (fun p e s m below meth c A ls hx hb hr hml hown ht hlk hnm hA hK hP hD hX hl => by
    have hS : va_S A s.heap s.heap [] := va_S.rf
    have hl : lv_has ls 2 [(0, .ref qm), (1, .int (iI n))] := hl
    refine lv_aload_n hx hb d_M_end_0 rfl (lv_at hl 0 rfl) ?_
    refine lv_iload_n hx hb d_M_end_1 rfl (lv_at hl 1 rfl) ?_
    refine zv_if_lt (tgt := 13) hx hb d_M_end_2 (by decide) (by omega) (fun hc_1 => ?_) (fun hc_1 => ?_)
    · skip
      refine lv_iconst (v := iI 1) hx hb d_M_end_13 (by decide) ?_
      refine lv_goto (tgt := 18) hx hb d_M_end_14 (by decide) ?_
      refine lv_iconst (v := iI 1) hx hb d_M_end_18 (by decide) ?_
      refine zji (wr := []) (va_runV (As := [.int (iI 1), .int (iI 1)]) (rest := []) ⟨hx, hb, hml, hown, ht⟩ (m_fails l D _ qm qT len op fp bu ra en qMe qPk qSz qSu qDa qLo qLe qNa qNs qSt qSa qCo qWr to nw bt rf qLn qSm qCd qSc sy di th 1 1 (by omega)) (cwV 2 ht (zt_goodV zm_855 zm_856 zm_30 zm_79 zm_857) rfl rfl rfl (by decide +kernel) ⟨Nat.le_of_ble_eq_true rfl, Nat.le_of_ble_eq_true rfl⟩) (zpreV zBlind_t hK hP hD [0] [] rfl (by decide) rfl (fun _ _ _ => trivial) (va_recv (q := ("ZipGuardModel", F_M, 31)) hK hP rfl (q0 := 0) (ci := 8) rfl)) rfl rfl hl.1 rfl (lv_room (Nat.le_of_ble_eq_true rfl)) d_M_end_19 ⟨Nat.le_of_ble_eq_true rfl, Nat.le_of_ble_eq_true rfl⟩) hK hP hD hS hA [0] [] rfl rfl (by decide) (by decide) (fun r3 u9 H locs hp4 hP hD hK hS => ?_)
      obtain ⟨t_2, rfl⟩ : ∃ z, z = u9 := ⟨u9, rfl⟩
      dsimp only at hp4 hP hD hK
      have hP : va_P D zcl [(qm, .inr (8, [.ref qT, .int (iI len), .int (iI op), .int (iI fp), .int (iI bu), .int (iI ra), .int (iI en), .ref qMe, .ref qPk, .ref qSz, .ref qSu, .ref qDa, .ref qLo, .ref qLe, .ref qNa, .ref qNs, .ref qSt, .ref qSa, .ref qCo, .ref qWr, .int (iI to), .int (iI nw), .int (iI bt), .int (iI rf), .ref qLn, .ref qSm, .ref qCd, .ref qSc, .int (iI sy), .int (iI di), .int (iI t_2)]))] H := hP
      have hD : va_D A [(qm, .inr (8, [.ref qT, .int (iI len), .int (iI op), .int (iI fp), .int (iI bu), .int (iI ra), .int (iI en), .ref qMe, .ref qPk, .ref qSz, .ref qSu, .ref qDa, .ref qLo, .ref qLe, .ref qNa, .ref qNs, .ref qSt, .ref qSa, .ref qCo, .ref qWr, .int (iI to), .int (iI nw), .int (iI bt), .int (iI rf), .ref qLn, .ref qSm, .ref qCd, .ref qSc, .int (iI sy), .int (iI di), .int (iI t_2)]))] := hD
      have hK : va_K D zcl [] s := hK
      obtain ⟨he_5, hp4⟩ := hp4
      subst he_5
      refine zv_if_eq (tgt := 26) hx hb d_M_end_22 (by decide) (by omega) (fun hc_6 => by omega) (fun hc_6 => ?_)
      exact zretv hx hb hr hlk hK hP hD hS (len, op, en, to, t_2) [0] [] rfl (by decide) rfl (by omega) (Nat.le_of_ble_eq_true rfl) (Nat.le_of_ble_eq_true rfl) d_M_end_25
    · skip
      refine lv_iload_n hx hb d_M_end_5 rfl (lv_at hl 1 rfl) ?_
      refine lv_aload_n hx hb d_M_end_6 rfl (lv_at hl 0 rfl) ?_
      refine va_get (ci := 8) (C := "ZipGuardModel") (T := F_M) (N := 31) hx hb ht zi_M hown hK hP 0 rfl rfl 1 (by decide) (ht _ zm_753) (fun _ h9 => h9) rfl d_M_end_7 ?_
      refine zv_icmp_le (tgt := 17) hx hb d_M_end_10 (by decide) (by omega) (by omega) (fun hc_7 => ?_) (fun hc_7 => ?_)
      · skip
        refine lv_iconst (v := iI 0) hx hb d_M_end_17 (by decide) ?_
        refine lv_iconst (v := iI 1) hx hb d_M_end_18 (by decide) ?_
        refine zji (wr := []) (va_runV (As := [.int (iI 0), .int (iI 1)]) (rest := []) ⟨hx, hb, hml, hown, ht⟩ (m_fails l D _ qm qT len op fp bu ra en qMe qPk qSz qSu qDa qLo qLe qNa qNs qSt qSa qCo qWr to nw bt rf qLn qSm qCd qSc sy di th 0 1 (by omega)) (cwV 2 ht (zt_goodV zm_855 zm_856 zm_30 zm_79 zm_857) rfl rfl rfl (by decide +kernel) ⟨Nat.le_of_ble_eq_true rfl, Nat.le_of_ble_eq_true rfl⟩) (zpreV zBlind_t hK hP hD [0] [] rfl (by decide) rfl (fun _ _ _ => trivial) (va_recv (q := ("ZipGuardModel", F_M, 31)) hK hP rfl (q0 := 0) (ci := 8) rfl)) rfl rfl hl.1 rfl (lv_room (Nat.le_of_ble_eq_true rfl)) d_M_end_19 ⟨Nat.le_of_ble_eq_true rfl, Nat.le_of_ble_eq_true rfl⟩) hK hP hD hS hA [0] [] rfl rfl (by decide) (by decide) (fun r9 u9 H locs hp10 hP hD hK hS => ?_)
        obtain ⟨t_8, rfl⟩ : ∃ z, z = u9 := ⟨u9, rfl⟩
        dsimp only at hp10 hP hD hK
        have hP : va_P D zcl [(qm, .inr (8, [.ref qT, .int (iI len), .int (iI op), .int (iI fp), .int (iI bu), .int (iI ra), .int (iI en), .ref qMe, .ref qPk, .ref qSz, .ref qSu, .ref qDa, .ref qLo, .ref qLe, .ref qNa, .ref qNs, .ref qSt, .ref qSa, .ref qCo, .ref qWr, .int (iI to), .int (iI nw), .int (iI bt), .int (iI rf), .ref qLn, .ref qSm, .ref qCd, .ref qSc, .int (iI sy), .int (iI di), .int (iI t_8)]))] H := hP
        have hD : va_D A [(qm, .inr (8, [.ref qT, .int (iI len), .int (iI op), .int (iI fp), .int (iI bu), .int (iI ra), .int (iI en), .ref qMe, .ref qPk, .ref qSz, .ref qSu, .ref qDa, .ref qLo, .ref qLe, .ref qNa, .ref qNs, .ref qSt, .ref qSa, .ref qCo, .ref qWr, .int (iI to), .int (iI nw), .int (iI bt), .int (iI rf), .ref qLn, .ref qSm, .ref qCd, .ref qSc, .int (iI sy), .int (iI di), .int (iI t_8)]))] := hD
        have hK : va_K D zcl [] s := hK
        obtain ⟨he_11, hp10⟩ := hp10
        subst he_11
        refine zv_if_eq (tgt := 26) hx hb d_M_end_22 (by decide) (by omega) (fun hc_12 => ?_) (fun hc_12 => by omega)
        refine lv_aload_n hx hb d_M_end_26 rfl (lv_at hl 0 rfl) ?_
        refine lv_iload_n hx hb d_M_end_27 rfl (lv_at hl 1 rfl) ?_
        refine va_put (ci := 8) (v := .int (iI n)) (ty := .int) (C := "ZipGuardModel") (T := F_M) (N := 31) hx hb ht zi_M ty_M tk_M nm_M hown hK hP hD hS 0 rfl rfl 1 (by decide) (ht _ zm_753) (fun _ h9 => h9) rfl (by decide +kernel) rfl rfl (Nat.le_of_ble_eq_true rfl) d_M_end_28 (fun H locs hP hD hS => ?_)
        have hP : va_P D zcl [(qm, .inr (8, [.ref qT, .int (iI n), .int (iI op), .int (iI fp), .int (iI bu), .int (iI ra), .int (iI en), .ref qMe, .ref qPk, .ref qSz, .ref qSu, .ref qDa, .ref qLo, .ref qLe, .ref qNa, .ref qNs, .ref qSt, .ref qSa, .ref qCo, .ref qWr, .int (iI to), .int (iI nw), .int (iI bt), .int (iI rf), .ref qLn, .ref qSm, .ref qCd, .ref qSc, .int (iI sy), .int (iI di), .int (iI t_8)]))] H := hP
        have hD : va_D A [(qm, .inr (8, [.ref qT, .int (iI n), .int (iI op), .int (iI fp), .int (iI bu), .int (iI ra), .int (iI en), .ref qMe, .ref qPk, .ref qSz, .ref qSu, .ref qDa, .ref qLo, .ref qLe, .ref qNa, .ref qNs, .ref qSt, .ref qSa, .ref qCo, .ref qWr, .int (iI to), .int (iI nw), .int (iI bt), .int (iI rf), .ref qLn, .ref qSm, .ref qCd, .ref qSc, .int (iI sy), .int (iI di), .int (iI t_8)]))] := hD
        refine lv_aload_n hx hb d_M_end_31 rfl (lv_at hl 0 rfl) ?_
        refine zjv (wr := []) (va_runV (As := []) (rest := []) ⟨hx, hb, hml, hown, ht⟩ (m_shut l D _ qm qT n op fp bu ra en qMe qPk qSz qSu qDa qLo qLe qNa qNs qSt qSa qCo qWr to nw bt rf qLn qSm qCd qSc sy di t_8 ) (cwV 0 ht (zt_goodV zm_858 zm_859 zm_31 zm_79 zm_860) rfl rfl rfl (by decide +kernel) ⟨Nat.le_of_ble_eq_true rfl, Nat.le_of_ble_eq_true rfl⟩) (zpreV zBlind_t hK hP hD [0] [] rfl (by decide) rfl (fun _ _ _ => trivial) (va_recv (q := ("ZipGuardModel", F_M, 31)) hK hP rfl (q0 := 0) (ci := 8) rfl)) rfl rfl hl.1 rfl (lv_room (Nat.le_of_ble_eq_true rfl)) d_M_end_32 ⟨Nat.le_of_ble_eq_true rfl, Nat.le_of_ble_eq_true rfl⟩) hK hP hD hS hA [0] [] rfl rfl (by decide) (by decide) (fun u9 H locs hp14 hP hD hK hS => ?_)
        have hP : va_P D zcl [(qm, .inr (8, [.ref qT, .int (iI n), .int (iI 0), .int (iI fp), .int (iI bu), .int (iI ra), .int (iI 0), .ref qMe, .ref qPk, .ref qSz, .ref qSu, .ref qDa, .ref qLo, .ref qLe, .ref qNa, .ref qNs, .ref qSt, .ref qSa, .ref qCo, .ref qWr, .int (iI 0), .int (iI nw), .int (iI bt), .int (iI rf), .ref qLn, .ref qSm, .ref qCd, .ref qSc, .int (iI sy), .int (iI di), .int (iI t_8)]))] H := hP
        have hD : va_D A [(qm, .inr (8, [.ref qT, .int (iI n), .int (iI 0), .int (iI fp), .int (iI bu), .int (iI ra), .int (iI 0), .ref qMe, .ref qPk, .ref qSz, .ref qSu, .ref qDa, .ref qLo, .ref qLe, .ref qNa, .ref qNs, .ref qSt, .ref qSa, .ref qCo, .ref qWr, .int (iI 0), .int (iI nw), .int (iI bt), .int (iI rf), .ref qLn, .ref qSm, .ref qCd, .ref qSc, .int (iI sy), .int (iI di), .int (iI t_8)]))] := hD
        have hK : va_K D zcl [] s := hK
        exact zretv hx hb hr hlk hK hP hD hS (n, 0, 0, 0, t_8) [0] [] rfl (by decide) rfl (by omega) (Nat.le_of_ble_eq_true rfl) (Nat.le_of_ble_eq_true rfl) d_M_end_35
      · skip
        refine lv_iconst (v := iI 1) hx hb d_M_end_13 (by decide) ?_
        refine lv_goto (tgt := 18) hx hb d_M_end_14 (by decide) ?_
        refine lv_iconst (v := iI 1) hx hb d_M_end_18 (by decide) ?_
        refine zji (wr := []) (va_runV (As := [.int (iI 1), .int (iI 1)]) (rest := []) ⟨hx, hb, hml, hown, ht⟩ (m_fails l D _ qm qT len op fp bu ra en qMe qPk qSz qSu qDa qLo qLe qNa qNs qSt qSa qCo qWr to nw bt rf qLn qSm qCd qSc sy di th 1 1 (by omega)) (cwV 2 ht (zt_goodV zm_855 zm_856 zm_30 zm_79 zm_857) rfl rfl rfl (by decide +kernel) ⟨Nat.le_of_ble_eq_true rfl, Nat.le_of_ble_eq_true rfl⟩) (zpreV zBlind_t hK hP hD [0] [] rfl (by decide) rfl (fun _ _ _ => trivial) (va_recv (q := ("ZipGuardModel", F_M, 31)) hK hP rfl (q0 := 0) (ci := 8) rfl)) rfl rfl hl.1 rfl (lv_room (Nat.le_of_ble_eq_true rfl)) d_M_end_19 ⟨Nat.le_of_ble_eq_true rfl, Nat.le_of_ble_eq_true rfl⟩) hK hP hD hS hA [0] [] rfl rfl (by decide) (by decide) (fun r16 u9 H locs hp17 hP hD hK hS => ?_)
        obtain ⟨t_15, rfl⟩ : ∃ z, z = u9 := ⟨u9, rfl⟩
        dsimp only at hp17 hP hD hK
        have hP : va_P D zcl [(qm, .inr (8, [.ref qT, .int (iI len), .int (iI op), .int (iI fp), .int (iI bu), .int (iI ra), .int (iI en), .ref qMe, .ref qPk, .ref qSz, .ref qSu, .ref qDa, .ref qLo, .ref qLe, .ref qNa, .ref qNs, .ref qSt, .ref qSa, .ref qCo, .ref qWr, .int (iI to), .int (iI nw), .int (iI bt), .int (iI rf), .ref qLn, .ref qSm, .ref qCd, .ref qSc, .int (iI sy), .int (iI di), .int (iI t_15)]))] H := hP
        have hD : va_D A [(qm, .inr (8, [.ref qT, .int (iI len), .int (iI op), .int (iI fp), .int (iI bu), .int (iI ra), .int (iI en), .ref qMe, .ref qPk, .ref qSz, .ref qSu, .ref qDa, .ref qLo, .ref qLe, .ref qNa, .ref qNs, .ref qSt, .ref qSa, .ref qCo, .ref qWr, .int (iI to), .int (iI nw), .int (iI bt), .int (iI rf), .ref qLn, .ref qSm, .ref qCd, .ref qSc, .int (iI sy), .int (iI di), .int (iI t_15)]))] := hD
        have hK : va_K D zcl [] s := hK
        obtain ⟨he_18, hp17⟩ := hp17
        subst he_18
        refine zv_if_eq (tgt := 26) hx hb d_M_end_22 (by decide) (by omega) (fun hc_19 => by omega) (fun hc_19 => ?_)
        exact zretv hx hb hr hlk hK hP hD hS (len, op, en, to, t_15) [0] [] rfl (by decide) rfl (by omega) (Nat.le_of_ble_eq_true rfl) (Nat.le_of_ble_eq_true rfl) d_M_end_25)
set_option maxHeartbeats 4000000 in
set_option maxRecDepth 100000 in
theorem m_alter (l : Launch) (D : va_G) (sz : Nat) (qm : Nat) (qT : Nat) (len : Int) (op : Int) (fp : Int) (bu : Int) (ra : Int) (en : Int) (qMe : Nat) (qPk : Nat) (qSz : Nat) (qSu : Nat) (qDa : Nat) (qLo : Nat) (qLe : Nat) (qNa : Nat) (qNs : Nat) (qSt : Nat) (qSa : Nat) (qCo : Nat) (qWr : Nat) (to : Int) (nw : Int) (bt : Int) (rf : Int) (qLn : Nat) (qSm : Nat) (qCd : Nat) (qSc : Nat) (sy : Int) (di : Int) (th : Int) (cT : ClassId) (fT : Nat → Int32) (i : Int) (b : Int) (hlen : 0 ≤ len ∧ len ≤ 20000) (hi : -2147483648 ≤ i ∧ i ≤ 2147483647) : Met l y_M_alter (Cond.code y_M_alter prog_10_method_7_code 4 (Option.some Jvm.ClassFile.FieldType.int) :: zt) { frames := 1, cells := 0, slots := 0, locals := 22 } (zPc [.ref qm, .int (iI i), .int (iI b)] D [(qm, .inr (8, [.ref qT, .int (iI len), .int (iI op), .int (iI fp), .int (iI bu), .int (iI ra), .int (iI en), .ref qMe, .ref qPk, .ref qSz, .ref qSu, .ref qDa, .ref qLo, .ref qLe, .ref qNa, .ref qNs, .ref qSt, .ref qSa, .ref qCo, .ref qWr, .int (iI to), .int (iI nw), .int (iI bt), .int (iI rf), .ref qLn, .ref qSm, .ref qCd, .ref qSc, .int (iI sy), .int (iI di), .int (iI th)])), (qT, .inl (cT, 20000, .inl fT))] [(cT, .byte)] sz (fun _ => True)) (va_Qi (fun (r : Int32) => fun (u9 : Int × Int × (Nat → Int32)) => match u9 with | (t1, x, f1) => r = (iI x) ∧ ((zAq fT f1 len i b x) ∧ (0 ≤ i ∧ i < len → t1 = 0 ∧ 0 ≤ x ∧ x ≤ 255) ∧ (i < 0 ∨ len ≤ i → t1 = 1))) (fun u9 t => zB D ((fun (u9 : Int × Int × (Nat → Int32)) => match u9 with | (t1, x, f1) => [(qm, .inr (8, [.ref qT, .int (iI len), .int (iI op), .int (iI fp), .int (iI bu), .int (iI ra), .int (iI en), .ref qMe, .ref qPk, .ref qSz, .ref qSu, .ref qDa, .ref qLo, .ref qLe, .ref qNa, .ref qNs, .ref qSt, .ref qSa, .ref qCo, .ref qWr, .int (iI to), .int (iI nw), .int (iI bt), .int (iI rf), .ref qLn, .ref qSm, .ref qCd, .ref qSc, .int (iI sy), .int (iI di), .int (iI t1)])), (qT, .inl (cT, 20000, .inl f1))]) u9) ((fun (u9 : Int × Int × (Nat → Int32)) => match u9 with | (t1, x, f1) => [(cT, .byte)]) u9) (va_A [(qm, .inr (8, [.ref qT, .int (iI len), .int (iI op), .int (iI fp), .int (iI bu), .int (iI ra), .int (iI en), .ref qMe, .ref qPk, .ref qSz, .ref qSu, .ref qDa, .ref qLo, .ref qLe, .ref qNa, .ref qNs, .ref qSt, .ref qSa, .ref qCo, .ref qWr, .int (iI to), .int (iI nw), .int (iI bt), .int (iI rf), .ref qLn, .ref qSm, .ref qCd, .ref qSc, .int (iI sy), .int (iI di), .int (iI th)])), (qT, .inl (cT, 20000, .inl fT))] sz) t) (va_A [(qm, .inr (8, [.ref qT, .int (iI len), .int (iI op), .int (iI fp), .int (iI bu), .int (iI ra), .int (iI en), .ref qMe, .ref qPk, .ref qSz, .ref qSu, .ref qDa, .ref qLo, .ref qLe, .ref qNa, .ref qNs, .ref qSt, .ref qSa, .ref qCo, .ref qWr, .int (iI to), .int (iI nw), .int (iI bt), .int (iI rf), .ref qLn, .ref qSm, .ref qCd, .ref qSc, .int (iI sy), .int (iI di), .int (iI th)])), (qT, .inl (cT, 20000, .inl fT))] sz)) 0 0 (va_A [(qm, .inr (8, [.ref qT, .int (iI len), .int (iI op), .int (iI fp), .int (iI bu), .int (iI ra), .int (iI en), .ref qMe, .ref qPk, .ref qSz, .ref qSu, .ref qDa, .ref qLo, .ref qLe, .ref qNa, .ref qNs, .ref qSt, .ref qSa, .ref qCo, .ref qWr, .int (iI to), .int (iI nw), .int (iI bt), .int (iI rf), .ref qLn, .ref qSm, .ref qCd, .ref qSc, .int (iI sy), .int (iI di), .int (iI th)])), (qT, .inl (cT, 20000, .inl fT))] sz) :=
  zMet (Qf := fun A => va_Qi (fun (r : Int32) => fun (u9 : Int × Int × (Nat → Int32)) => match u9 with | (t1, x, f1) => r = (iI x) ∧ ((zAq fT f1 len i b x) ∧ (0 ≤ i ∧ i < len → t1 = 0 ∧ 0 ≤ x ∧ x ≤ 255) ∧ (i < 0 ∨ len ≤ i → t1 = 1))) (fun u9 t => zB D ((fun (u9 : Int × Int × (Nat → Int32)) => match u9 with | (t1, x, f1) => [(qm, .inr (8, [.ref qT, .int (iI len), .int (iI op), .int (iI fp), .int (iI bu), .int (iI ra), .int (iI en), .ref qMe, .ref qPk, .ref qSz, .ref qSu, .ref qDa, .ref qLo, .ref qLe, .ref qNa, .ref qNs, .ref qSt, .ref qSa, .ref qCo, .ref qWr, .int (iI to), .int (iI nw), .int (iI bt), .int (iI rf), .ref qLn, .ref qSm, .ref qCd, .ref qSc, .int (iI sy), .int (iI di), .int (iI t1)])), (qT, .inl (cT, 20000, .inl f1))]) u9) ((fun (u9 : Int × Int × (Nat → Int32)) => match u9 with | (t1, x, f1) => [(cT, .byte)]) u9) A t) A) (by decide) (Nat.le_of_ble_eq_true rfl) (fun p e s m below meth c A ls hx hb hr hml hown ht hlk hnm hA hK hP hD hX hl => by
    have hS : va_S A s.heap s.heap [] := va_S.rf
    have hl : lv_has ls 4 [(0, .ref qm), (1, .int (iI i)), (2, .int (iI b))] := hl
    refine lv_aload_n hx hb d_M_alter_0 rfl (lv_at hl 0 rfl) ?_
    refine lv_iload_n hx hb d_M_alter_1 rfl (lv_at hl 1 rfl) ?_
    refine zv_if_lt (tgt := 13) hx hb d_M_alter_2 (by decide) (by omega) (fun hc_1 => ?_) (fun hc_1 => ?_)
    · skip
      refine lv_iconst (v := iI 1) hx hb d_M_alter_13 (by decide) ?_
      refine lv_goto (tgt := 18) hx hb d_M_alter_14 (by decide) ?_
      refine lv_iconst (v := iI 1) hx hb d_M_alter_18 (by decide) ?_
      refine zji (wr := [(qT, .inl (cT, 20000, .inl fT))]) (va_runV (As := [.int (iI 1), .int (iI 1)]) (rest := []) ⟨hx, hb, hml, hown, ht⟩ (m_fails l D _ qm qT len op fp bu ra en qMe qPk qSz qSu qDa qLo qLe qNa qNs qSt qSa qCo qWr to nw bt rf qLn qSm qCd qSc sy di th 1 1 (by omega)) (cwV 2 ht (zt_goodV zm_855 zm_856 zm_30 zm_79 zm_857) rfl rfl rfl (by decide +kernel) ⟨Nat.le_of_ble_eq_true rfl, Nat.le_of_ble_eq_true rfl⟩) (zpreV zBlind_t hK hP hD [0] [] rfl (by decide) rfl (fun _ _ _ => trivial) (va_recv (q := ("ZipGuardModel", F_M, 31)) hK hP rfl (q0 := 0) (ci := 8) rfl)) rfl rfl hl.1 rfl (lv_room (Nat.le_of_ble_eq_true rfl)) d_M_alter_19 ⟨Nat.le_of_ble_eq_true rfl, Nat.le_of_ble_eq_true rfl⟩) hK hP hD hS hA [0] [1] rfl rfl (by decide) (by decide) (fun r3 u9 H locs hp4 hP hD hK hS => ?_)
      obtain ⟨t_2, rfl⟩ : ∃ z, z = u9 := ⟨u9, rfl⟩
      dsimp only at hp4 hP hD hK
      have hP : va_P D zcl [(qT, .inl (cT, 20000, .inl fT)), (qm, .inr (8, [.ref qT, .int (iI len), .int (iI op), .int (iI fp), .int (iI bu), .int (iI ra), .int (iI en), .ref qMe, .ref qPk, .ref qSz, .ref qSu, .ref qDa, .ref qLo, .ref qLe, .ref qNa, .ref qNs, .ref qSt, .ref qSa, .ref qCo, .ref qWr, .int (iI to), .int (iI nw), .int (iI bt), .int (iI rf), .ref qLn, .ref qSm, .ref qCd, .ref qSc, .int (iI sy), .int (iI di), .int (iI t_2)]))] H := hP
      have hD : va_D A [(qT, .inl (cT, 20000, .inl fT)), (qm, .inr (8, [.ref qT, .int (iI len), .int (iI op), .int (iI fp), .int (iI bu), .int (iI ra), .int (iI en), .ref qMe, .ref qPk, .ref qSz, .ref qSu, .ref qDa, .ref qLo, .ref qLe, .ref qNa, .ref qNs, .ref qSt, .ref qSa, .ref qCo, .ref qWr, .int (iI to), .int (iI nw), .int (iI bt), .int (iI rf), .ref qLn, .ref qSm, .ref qCd, .ref qSc, .int (iI sy), .int (iI di), .int (iI t_2)]))] := hD
      have hK : va_K D zcl [(cT, .byte)] s := hK
      obtain ⟨he_5, hp4⟩ := hp4
      subst he_5
      have hP := hP.sub (ws' := [(qm, .inr (8, [.ref qT, .int (iI len), .int (iI op), .int (iI fp), .int (iI bu), .int (iI ra), .int (iI en), .ref qMe, .ref qPk, .ref qSz, .ref qSu, .ref qDa, .ref qLo, .ref qLe, .ref qNa, .ref qNs, .ref qSt, .ref qSa, .ref qCo, .ref qWr, .int (iI to), .int (iI nw), .int (iI bt), .int (iI rf), .ref qLn, .ref qSm, .ref qCd, .ref qSc, .int (iI sy), .int (iI di), .int (iI t_2)])), (qT, .inl (cT, 20000, .inl fT))]) [1, 0] rfl
      have hD := hD.sub (ws' := [(qm, .inr (8, [.ref qT, .int (iI len), .int (iI op), .int (iI fp), .int (iI bu), .int (iI ra), .int (iI en), .ref qMe, .ref qPk, .ref qSz, .ref qSu, .ref qDa, .ref qLo, .ref qLe, .ref qNa, .ref qNs, .ref qSt, .ref qSa, .ref qCo, .ref qWr, .int (iI to), .int (iI nw), .int (iI bt), .int (iI rf), .ref qLn, .ref qSm, .ref qCd, .ref qSc, .int (iI sy), .int (iI di), .int (iI t_2)])), (qT, .inl (cT, 20000, .inl fT))]) [1, 0] (by decide) rfl
      have hK := hK.sub (tys' := [(cT, .byte)]) [0] rfl
      refine zv_if_eq (tgt := 27) hx hb d_M_alter_22 (by decide) (by omega) (fun hc_6 => by omega) (fun hc_6 => ?_)
      refine lv_iconst (v := iI 0) hx hb d_M_alter_25 (by decide) ?_
      exact zreti hx hb hr hlk hK hP hD hS (t_2, 0, fT) [0, 1] [0] rfl (by decide) rfl (⟨rfl, ⟨⟨fun h9 => absurd h9 (by omega), fun _ => rfl⟩, by omega⟩⟩) (Nat.le_of_ble_eq_true rfl) (Nat.le_of_ble_eq_true rfl) d_M_alter_26
    · skip
      refine lv_iload_n hx hb d_M_alter_5 rfl (lv_at hl 1 rfl) ?_
      refine lv_aload_n hx hb d_M_alter_6 rfl (lv_at hl 0 rfl) ?_
      refine va_get (ci := 8) (C := "ZipGuardModel") (T := F_M) (N := 31) hx hb ht zi_M hown hK hP 0 rfl rfl 1 (by decide) (ht _ zm_753) (fun _ h9 => h9) rfl d_M_alter_7 ?_
      refine zv_icmp_lt (tgt := 17) hx hb d_M_alter_10 (by decide) (by omega) (by omega) (fun hc_7 => ?_) (fun hc_7 => ?_)
      · skip
        refine lv_iconst (v := iI 0) hx hb d_M_alter_17 (by decide) ?_
        refine lv_iconst (v := iI 1) hx hb d_M_alter_18 (by decide) ?_
        refine zji (wr := [(qT, .inl (cT, 20000, .inl fT))]) (va_runV (As := [.int (iI 0), .int (iI 1)]) (rest := []) ⟨hx, hb, hml, hown, ht⟩ (m_fails l D _ qm qT len op fp bu ra en qMe qPk qSz qSu qDa qLo qLe qNa qNs qSt qSa qCo qWr to nw bt rf qLn qSm qCd qSc sy di th 0 1 (by omega)) (cwV 2 ht (zt_goodV zm_855 zm_856 zm_30 zm_79 zm_857) rfl rfl rfl (by decide +kernel) ⟨Nat.le_of_ble_eq_true rfl, Nat.le_of_ble_eq_true rfl⟩) (zpreV zBlind_t hK hP hD [0] [] rfl (by decide) rfl (fun _ _ _ => trivial) (va_recv (q := ("ZipGuardModel", F_M, 31)) hK hP rfl (q0 := 0) (ci := 8) rfl)) rfl rfl hl.1 rfl (lv_room (Nat.le_of_ble_eq_true rfl)) d_M_alter_19 ⟨Nat.le_of_ble_eq_true rfl, Nat.le_of_ble_eq_true rfl⟩) hK hP hD hS hA [0] [1] rfl rfl (by decide) (by decide) (fun r9 u9 H locs hp10 hP hD hK hS => ?_)
        obtain ⟨t_8, rfl⟩ : ∃ z, z = u9 := ⟨u9, rfl⟩
        dsimp only at hp10 hP hD hK
        have hP : va_P D zcl [(qT, .inl (cT, 20000, .inl fT)), (qm, .inr (8, [.ref qT, .int (iI len), .int (iI op), .int (iI fp), .int (iI bu), .int (iI ra), .int (iI en), .ref qMe, .ref qPk, .ref qSz, .ref qSu, .ref qDa, .ref qLo, .ref qLe, .ref qNa, .ref qNs, .ref qSt, .ref qSa, .ref qCo, .ref qWr, .int (iI to), .int (iI nw), .int (iI bt), .int (iI rf), .ref qLn, .ref qSm, .ref qCd, .ref qSc, .int (iI sy), .int (iI di), .int (iI t_8)]))] H := hP
        have hD : va_D A [(qT, .inl (cT, 20000, .inl fT)), (qm, .inr (8, [.ref qT, .int (iI len), .int (iI op), .int (iI fp), .int (iI bu), .int (iI ra), .int (iI en), .ref qMe, .ref qPk, .ref qSz, .ref qSu, .ref qDa, .ref qLo, .ref qLe, .ref qNa, .ref qNs, .ref qSt, .ref qSa, .ref qCo, .ref qWr, .int (iI to), .int (iI nw), .int (iI bt), .int (iI rf), .ref qLn, .ref qSm, .ref qCd, .ref qSc, .int (iI sy), .int (iI di), .int (iI t_8)]))] := hD
        have hK : va_K D zcl [(cT, .byte)] s := hK
        obtain ⟨he_11, hp10⟩ := hp10
        subst he_11
        have hP := hP.sub (ws' := [(qm, .inr (8, [.ref qT, .int (iI len), .int (iI op), .int (iI fp), .int (iI bu), .int (iI ra), .int (iI en), .ref qMe, .ref qPk, .ref qSz, .ref qSu, .ref qDa, .ref qLo, .ref qLe, .ref qNa, .ref qNs, .ref qSt, .ref qSa, .ref qCo, .ref qWr, .int (iI to), .int (iI nw), .int (iI bt), .int (iI rf), .ref qLn, .ref qSm, .ref qCd, .ref qSc, .int (iI sy), .int (iI di), .int (iI t_8)])), (qT, .inl (cT, 20000, .inl fT))]) [1, 0] rfl
        have hD := hD.sub (ws' := [(qm, .inr (8, [.ref qT, .int (iI len), .int (iI op), .int (iI fp), .int (iI bu), .int (iI ra), .int (iI en), .ref qMe, .ref qPk, .ref qSz, .ref qSu, .ref qDa, .ref qLo, .ref qLe, .ref qNa, .ref qNs, .ref qSt, .ref qSa, .ref qCo, .ref qWr, .int (iI to), .int (iI nw), .int (iI bt), .int (iI rf), .ref qLn, .ref qSm, .ref qCd, .ref qSc, .int (iI sy), .int (iI di), .int (iI t_8)])), (qT, .inl (cT, 20000, .inl fT))]) [1, 0] (by decide) rfl
        have hK := hK.sub (tys' := [(cT, .byte)]) [0] rfl
        refine zv_if_eq (tgt := 27) hx hb d_M_alter_22 (by decide) (by omega) (fun hc_12 => ?_) (fun hc_12 => by omega)
        refine lv_aload_n hx hb d_M_alter_27 rfl (lv_at hl 0 rfl) ?_
        refine va_get (ci := 8) (C := "ZipGuardModel") (T := F_M) (N := 31) hx hb ht zi_M hown hK hP 0 rfl rfl 0 (by decide) (ht _ zm_752) (fun _ h9 => h9) rfl d_M_alter_28 ?_
        refine lv_iload_n hx hb d_M_alter_31 rfl (lv_at hl 1 rfl) ?_
        refine zv_bald hx hb hK hP 1 0 rfl rfl (by omega) (by decide) d_M_alter_32 (fun x_13 hz_14 ha_15 ha_16 => ?_)
        refine lv_sipush (v := iI 255) hx hb d_M_alter_33 (by decide) ?_
        refine zv_byte (f := fT) (k := i) hx hb d_M_alter_36 hz_14 (fun x_17 hz_18 ha_19 ha_20 => ?_)
        refine lv_istore_n (lv' := [(3, .int (iI x_17)), (0, .ref qm), (1, .int (iI i)), (2, .int (iI b))]) hx hb d_M_alter_37 rfl hl (by decide) rfl (fun ls hl => ?_)
        refine lv_aload_n hx hb d_M_alter_38 rfl (lv_at hl 1 rfl) ?_
        refine va_get (ci := 8) (C := "ZipGuardModel") (T := F_M) (N := 31) hx hb ht zi_M hown hK hP 0 rfl rfl 0 (by decide) (ht _ zm_752) (fun _ h9 => h9) rfl d_M_alter_39 ?_
        refine lv_iload_n hx hb d_M_alter_42 rfl (lv_at hl 2 rfl) ?_
        refine lv_iload_n hx hb d_M_alter_43 rfl (lv_at hl 3 rfl) ?_
        refine lv_i2b hx hb d_M_alter_44 rfl ?_
        refine zv_bast hx hb hK hP hD hS 1 0 rfl rfl (by omega) (by decide) d_M_alter_45 (fun g_21 H locs hg_22 hP hD hS => ?_)
        have hP : va_P D zcl [(qm, .inr (8, [.ref qT, .int (iI len), .int (iI op), .int (iI fp), .int (iI bu), .int (iI ra), .int (iI en), .ref qMe, .ref qPk, .ref qSz, .ref qSu, .ref qDa, .ref qLo, .ref qLe, .ref qNa, .ref qNs, .ref qSt, .ref qSa, .ref qCo, .ref qWr, .int (iI to), .int (iI nw), .int (iI bt), .int (iI rf), .ref qLn, .ref qSm, .ref qCd, .ref qSc, .int (iI sy), .int (iI di), .int (iI t_8)])), (qT, .inl (cT, 20000, .inl g_21))] H := hP
        have hD : va_D A [(qm, .inr (8, [.ref qT, .int (iI len), .int (iI op), .int (iI fp), .int (iI bu), .int (iI ra), .int (iI en), .ref qMe, .ref qPk, .ref qSz, .ref qSu, .ref qDa, .ref qLo, .ref qLe, .ref qNa, .ref qNs, .ref qSt, .ref qSa, .ref qCo, .ref qWr, .int (iI to), .int (iI nw), .int (iI bt), .int (iI rf), .ref qLn, .ref qSm, .ref qCd, .ref qSc, .int (iI sy), .int (iI di), .int (iI t_8)])), (qT, .inl (cT, 20000, .inl g_21))] := hD
        refine lv_iload_n hx hb d_M_alter_46 rfl (lv_at hl 0 rfl) ?_
        exact zreti hx hb hr hlk hK hP hD hS (t_8, x_17, g_21) [0, 1] [0] rfl (by decide) rfl (⟨rfl, ⟨⟨fun _ => ⟨by omega, hg_22⟩, fun h9 => absurd h9 (by omega)⟩, by omega⟩⟩) (Nat.le_of_ble_eq_true rfl) (Nat.le_of_ble_eq_true rfl) d_M_alter_47
      · skip
        refine lv_iconst (v := iI 1) hx hb d_M_alter_13 (by decide) ?_
        refine lv_goto (tgt := 18) hx hb d_M_alter_14 (by decide) ?_
        refine lv_iconst (v := iI 1) hx hb d_M_alter_18 (by decide) ?_
        refine zji (wr := [(qT, .inl (cT, 20000, .inl fT))]) (va_runV (As := [.int (iI 1), .int (iI 1)]) (rest := []) ⟨hx, hb, hml, hown, ht⟩ (m_fails l D _ qm qT len op fp bu ra en qMe qPk qSz qSu qDa qLo qLe qNa qNs qSt qSa qCo qWr to nw bt rf qLn qSm qCd qSc sy di th 1 1 (by omega)) (cwV 2 ht (zt_goodV zm_855 zm_856 zm_30 zm_79 zm_857) rfl rfl rfl (by decide +kernel) ⟨Nat.le_of_ble_eq_true rfl, Nat.le_of_ble_eq_true rfl⟩) (zpreV zBlind_t hK hP hD [0] [] rfl (by decide) rfl (fun _ _ _ => trivial) (va_recv (q := ("ZipGuardModel", F_M, 31)) hK hP rfl (q0 := 0) (ci := 8) rfl)) rfl rfl hl.1 rfl (lv_room (Nat.le_of_ble_eq_true rfl)) d_M_alter_19 ⟨Nat.le_of_ble_eq_true rfl, Nat.le_of_ble_eq_true rfl⟩) hK hP hD hS hA [0] [1] rfl rfl (by decide) (by decide) (fun r24 u9 H locs hp25 hP hD hK hS => ?_)
        obtain ⟨t_23, rfl⟩ : ∃ z, z = u9 := ⟨u9, rfl⟩
        dsimp only at hp25 hP hD hK
        have hP : va_P D zcl [(qT, .inl (cT, 20000, .inl fT)), (qm, .inr (8, [.ref qT, .int (iI len), .int (iI op), .int (iI fp), .int (iI bu), .int (iI ra), .int (iI en), .ref qMe, .ref qPk, .ref qSz, .ref qSu, .ref qDa, .ref qLo, .ref qLe, .ref qNa, .ref qNs, .ref qSt, .ref qSa, .ref qCo, .ref qWr, .int (iI to), .int (iI nw), .int (iI bt), .int (iI rf), .ref qLn, .ref qSm, .ref qCd, .ref qSc, .int (iI sy), .int (iI di), .int (iI t_23)]))] H := hP
        have hD : va_D A [(qT, .inl (cT, 20000, .inl fT)), (qm, .inr (8, [.ref qT, .int (iI len), .int (iI op), .int (iI fp), .int (iI bu), .int (iI ra), .int (iI en), .ref qMe, .ref qPk, .ref qSz, .ref qSu, .ref qDa, .ref qLo, .ref qLe, .ref qNa, .ref qNs, .ref qSt, .ref qSa, .ref qCo, .ref qWr, .int (iI to), .int (iI nw), .int (iI bt), .int (iI rf), .ref qLn, .ref qSm, .ref qCd, .ref qSc, .int (iI sy), .int (iI di), .int (iI t_23)]))] := hD
        have hK : va_K D zcl [(cT, .byte)] s := hK
        obtain ⟨he_26, hp25⟩ := hp25
        subst he_26
        have hP := hP.sub (ws' := [(qm, .inr (8, [.ref qT, .int (iI len), .int (iI op), .int (iI fp), .int (iI bu), .int (iI ra), .int (iI en), .ref qMe, .ref qPk, .ref qSz, .ref qSu, .ref qDa, .ref qLo, .ref qLe, .ref qNa, .ref qNs, .ref qSt, .ref qSa, .ref qCo, .ref qWr, .int (iI to), .int (iI nw), .int (iI bt), .int (iI rf), .ref qLn, .ref qSm, .ref qCd, .ref qSc, .int (iI sy), .int (iI di), .int (iI t_23)])), (qT, .inl (cT, 20000, .inl fT))]) [1, 0] rfl
        have hD := hD.sub (ws' := [(qm, .inr (8, [.ref qT, .int (iI len), .int (iI op), .int (iI fp), .int (iI bu), .int (iI ra), .int (iI en), .ref qMe, .ref qPk, .ref qSz, .ref qSu, .ref qDa, .ref qLo, .ref qLe, .ref qNa, .ref qNs, .ref qSt, .ref qSa, .ref qCo, .ref qWr, .int (iI to), .int (iI nw), .int (iI bt), .int (iI rf), .ref qLn, .ref qSm, .ref qCd, .ref qSc, .int (iI sy), .int (iI di), .int (iI t_23)])), (qT, .inl (cT, 20000, .inl fT))]) [1, 0] (by decide) rfl
        have hK := hK.sub (tys' := [(cT, .byte)]) [0] rfl
        refine zv_if_eq (tgt := 27) hx hb d_M_alter_22 (by decide) (by omega) (fun hc_27 => by omega) (fun hc_27 => ?_)
        refine lv_iconst (v := iI 0) hx hb d_M_alter_25 (by decide) ?_
        exact zreti hx hb hr hlk hK hP hD hS (t_23, 0, fT) [0, 1] [0] rfl (by decide) rfl (⟨rfl, ⟨⟨fun h9 => absurd h9 (by omega), fun _ => rfl⟩, by omega⟩⟩) (Nat.le_of_ble_eq_true rfl) (Nat.le_of_ble_eq_true rfl) d_M_alter_26)
set_option maxHeartbeats 4000000 in
set_option maxRecDepth 100000 in
theorem m_limits (l : Launch) (D : va_G) (sz : Nat) (qm : Nat) (qT : Nat) (len : Int) (op : Int) (fp : Int) (bu : Int) (ra : Int) (en : Int) (qMe : Nat) (qPk : Nat) (qSz : Nat) (qSu : Nat) (qDa : Nat) (qLo : Nat) (qLe : Nat) (qNa : Nat) (qNs : Nat) (qSt : Nat) (qSa : Nat) (qCo : Nat) (qWr : Nat) (to : Int) (nw : Int) (bt : Int) (rf : Int) (qLn : Nat) (qSm : Nat) (qCd : Nat) (qSc : Nat) (sy : Int) (di : Int) (th : Int) (nb : Int) (nr : Int) (h1 : -2147483648 ≤ nb ∧ nb ≤ 2147483647) (h2 : -2147483648 ≤ nr ∧ nr ≤ 2147483647) : Met l y_M_limits (Cond.code y_M_limits prog_10_method_27_code 3 (Option.none : Option Jvm.ClassFile.FieldType) :: zt) { frames := 1, cells := 0, slots := 0, locals := 22 } (zPc [.ref qm, .int (iI nb), .int (iI nr)] D [(qm, .inr (8, [.ref qT, .int (iI len), .int (iI op), .int (iI fp), .int (iI bu), .int (iI ra), .int (iI en), .ref qMe, .ref qPk, .ref qSz, .ref qSu, .ref qDa, .ref qLo, .ref qLe, .ref qNa, .ref qNs, .ref qSt, .ref qSa, .ref qCo, .ref qWr, .int (iI to), .int (iI nw), .int (iI bt), .int (iI rf), .ref qLn, .ref qSm, .ref qCd, .ref qSc, .int (iI sy), .int (iI di), .int (iI th)]))] [] sz (fun _ => True)) (va_Qv (fun (u9 : Int × Int × Int) => match u9 with | (b1, r1, t1) => (0 ≤ nb ∧ nb ≤ 40000 ∧ 0 ≤ nr ∧ nr ≤ 2000 → b1 = nb ∧ r1 = nr ∧ t1 = 0) ∧ (nb < 0 ∨ 40000 < nb ∨ nr < 0 ∨ 2000 < nr → b1 = bu ∧ r1 = ra ∧ t1 = 1)) (fun u9 t => zB D ((fun (u9 : Int × Int × Int) => match u9 with | (b1, r1, t1) => [(qm, .inr (8, [.ref qT, .int (iI len), .int (iI op), .int (iI fp), .int (iI b1), .int (iI r1), .int (iI en), .ref qMe, .ref qPk, .ref qSz, .ref qSu, .ref qDa, .ref qLo, .ref qLe, .ref qNa, .ref qNs, .ref qSt, .ref qSa, .ref qCo, .ref qWr, .int (iI to), .int (iI nw), .int (iI bt), .int (iI rf), .ref qLn, .ref qSm, .ref qCd, .ref qSc, .int (iI sy), .int (iI di), .int (iI t1)]))]) u9) ((fun (u9 : Int × Int × Int) => match u9 with | (b1, r1, t1) => []) u9) (va_A [(qm, .inr (8, [.ref qT, .int (iI len), .int (iI op), .int (iI fp), .int (iI bu), .int (iI ra), .int (iI en), .ref qMe, .ref qPk, .ref qSz, .ref qSu, .ref qDa, .ref qLo, .ref qLe, .ref qNa, .ref qNs, .ref qSt, .ref qSa, .ref qCo, .ref qWr, .int (iI to), .int (iI nw), .int (iI bt), .int (iI rf), .ref qLn, .ref qSm, .ref qCd, .ref qSc, .int (iI sy), .int (iI di), .int (iI th)]))] sz) t) (va_A [(qm, .inr (8, [.ref qT, .int (iI len), .int (iI op), .int (iI fp), .int (iI bu), .int (iI ra), .int (iI en), .ref qMe, .ref qPk, .ref qSz, .ref qSu, .ref qDa, .ref qLo, .ref qLe, .ref qNa, .ref qNs, .ref qSt, .ref qSa, .ref qCo, .ref qWr, .int (iI to), .int (iI nw), .int (iI bt), .int (iI rf), .ref qLn, .ref qSm, .ref qCd, .ref qSc, .int (iI sy), .int (iI di), .int (iI th)]))] sz)) 0 0 (va_A [(qm, .inr (8, [.ref qT, .int (iI len), .int (iI op), .int (iI fp), .int (iI bu), .int (iI ra), .int (iI en), .ref qMe, .ref qPk, .ref qSz, .ref qSu, .ref qDa, .ref qLo, .ref qLe, .ref qNa, .ref qNs, .ref qSt, .ref qSa, .ref qCo, .ref qWr, .int (iI to), .int (iI nw), .int (iI bt), .int (iI rf), .ref qLn, .ref qSm, .ref qCd, .ref qSc, .int (iI sy), .int (iI di), .int (iI th)]))] sz) :=
  zMet (Qf := fun A => va_Qv (fun (u9 : Int × Int × Int) => match u9 with | (b1, r1, t1) => (0 ≤ nb ∧ nb ≤ 40000 ∧ 0 ≤ nr ∧ nr ≤ 2000 → b1 = nb ∧ r1 = nr ∧ t1 = 0) ∧ (nb < 0 ∨ 40000 < nb ∨ nr < 0 ∨ 2000 < nr → b1 = bu ∧ r1 = ra ∧ t1 = 1)) (fun u9 t => zB D ((fun (u9 : Int × Int × Int) => match u9 with | (b1, r1, t1) => [(qm, .inr (8, [.ref qT, .int (iI len), .int (iI op), .int (iI fp), .int (iI b1), .int (iI r1), .int (iI en), .ref qMe, .ref qPk, .ref qSz, .ref qSu, .ref qDa, .ref qLo, .ref qLe, .ref qNa, .ref qNs, .ref qSt, .ref qSa, .ref qCo, .ref qWr, .int (iI to), .int (iI nw), .int (iI bt), .int (iI rf), .ref qLn, .ref qSm, .ref qCd, .ref qSc, .int (iI sy), .int (iI di), .int (iI t1)]))]) u9) ((fun (u9 : Int × Int × Int) => match u9 with | (b1, r1, t1) => []) u9) A t) A) (by decide) (Nat.le_of_ble_eq_true rfl) (fun p e s m below meth c A ls hx hb hr hml hown ht hlk hnm hA hK hP hD hX hl => by
    have hS : va_S A s.heap s.heap [] := va_S.rf
    have hl : lv_has ls 3 [(0, .ref qm), (1, .int (iI nb)), (2, .int (iI nr))] := hl
    refine lv_aload_n hx hb d_M_limits_0 rfl (lv_at hl 0 rfl) ?_
    refine lv_iload_n hx hb d_M_limits_1 rfl (lv_at hl 1 rfl) ?_
    refine zv_if_lt (tgt := 22) hx hb d_M_limits_2 (by decide) (by omega) (fun hc_1 => ?_) (fun hc_1 => ?_)
    · skip
      refine lv_iconst (v := iI 1) hx hb d_M_limits_22 (by decide) ?_
      refine lv_goto (tgt := 27) hx hb d_M_limits_23 (by decide) ?_
      refine lv_iconst (v := iI 1) hx hb d_M_limits_27 (by decide) ?_
      refine zji (wr := []) (va_runV (As := [.int (iI 1), .int (iI 1)]) (rest := []) ⟨hx, hb, hml, hown, ht⟩ (m_fails l D _ qm qT len op fp bu ra en qMe qPk qSz qSu qDa qLo qLe qNa qNs qSt qSa qCo qWr to nw bt rf qLn qSm qCd qSc sy di th 1 1 (by omega)) (cwV 2 ht (zt_goodV zm_855 zm_856 zm_30 zm_79 zm_857) rfl rfl rfl (by decide +kernel) ⟨Nat.le_of_ble_eq_true rfl, Nat.le_of_ble_eq_true rfl⟩) (zpreV zBlind_t hK hP hD [0] [] rfl (by decide) rfl (fun _ _ _ => trivial) (va_recv (q := ("ZipGuardModel", F_M, 31)) hK hP rfl (q0 := 0) (ci := 8) rfl)) rfl rfl hl.1 rfl (lv_room (Nat.le_of_ble_eq_true rfl)) d_M_limits_28 ⟨Nat.le_of_ble_eq_true rfl, Nat.le_of_ble_eq_true rfl⟩) hK hP hD hS hA [0] [] rfl rfl (by decide) (by decide) (fun r3 u9 H locs hp4 hP hD hK hS => ?_)
      obtain ⟨t_2, rfl⟩ : ∃ z, z = u9 := ⟨u9, rfl⟩
      dsimp only at hp4 hP hD hK
      have hP : va_P D zcl [(qm, .inr (8, [.ref qT, .int (iI len), .int (iI op), .int (iI fp), .int (iI bu), .int (iI ra), .int (iI en), .ref qMe, .ref qPk, .ref qSz, .ref qSu, .ref qDa, .ref qLo, .ref qLe, .ref qNa, .ref qNs, .ref qSt, .ref qSa, .ref qCo, .ref qWr, .int (iI to), .int (iI nw), .int (iI bt), .int (iI rf), .ref qLn, .ref qSm, .ref qCd, .ref qSc, .int (iI sy), .int (iI di), .int (iI t_2)]))] H := hP
      have hD : va_D A [(qm, .inr (8, [.ref qT, .int (iI len), .int (iI op), .int (iI fp), .int (iI bu), .int (iI ra), .int (iI en), .ref qMe, .ref qPk, .ref qSz, .ref qSu, .ref qDa, .ref qLo, .ref qLe, .ref qNa, .ref qNs, .ref qSt, .ref qSa, .ref qCo, .ref qWr, .int (iI to), .int (iI nw), .int (iI bt), .int (iI rf), .ref qLn, .ref qSm, .ref qCd, .ref qSc, .int (iI sy), .int (iI di), .int (iI t_2)]))] := hD
      have hK : va_K D zcl [] s := hK
      obtain ⟨he_5, hp4⟩ := hp4
      subst he_5
      refine zv_if_eq (tgt := 35) hx hb d_M_limits_31 (by decide) (by omega) (fun hc_6 => by omega) (fun hc_6 => ?_)
      exact zretv hx hb hr hlk hK hP hD hS (bu, ra, t_2) [0] [] rfl (by decide) rfl (by omega) (Nat.le_of_ble_eq_true rfl) (Nat.le_of_ble_eq_true rfl) d_M_limits_34
    · skip
      refine lv_iload_n hx hb d_M_limits_5 rfl (lv_at hl 1 rfl) ?_
      refine lv_ldc (v := 40000) hx hb hown (ht _ zm_751) d_M_limits_6 ?_
      refine zv_lit 40000 (by decide) ?_
      refine zv_icmp_gt (tgt := 22) hx hb d_M_limits_8 (by decide) (by omega) (by omega) (fun hc_7 => ?_) (fun hc_7 => ?_)
      · skip
        refine lv_iconst (v := iI 1) hx hb d_M_limits_22 (by decide) ?_
        refine lv_goto (tgt := 27) hx hb d_M_limits_23 (by decide) ?_
        refine lv_iconst (v := iI 1) hx hb d_M_limits_27 (by decide) ?_
        refine zji (wr := []) (va_runV (As := [.int (iI 1), .int (iI 1)]) (rest := []) ⟨hx, hb, hml, hown, ht⟩ (m_fails l D _ qm qT len op fp bu ra en qMe qPk qSz qSu qDa qLo qLe qNa qNs qSt qSa qCo qWr to nw bt rf qLn qSm qCd qSc sy di th 1 1 (by omega)) (cwV 2 ht (zt_goodV zm_855 zm_856 zm_30 zm_79 zm_857) rfl rfl rfl (by decide +kernel) ⟨Nat.le_of_ble_eq_true rfl, Nat.le_of_ble_eq_true rfl⟩) (zpreV zBlind_t hK hP hD [0] [] rfl (by decide) rfl (fun _ _ _ => trivial) (va_recv (q := ("ZipGuardModel", F_M, 31)) hK hP rfl (q0 := 0) (ci := 8) rfl)) rfl rfl hl.1 rfl (lv_room (Nat.le_of_ble_eq_true rfl)) d_M_limits_28 ⟨Nat.le_of_ble_eq_true rfl, Nat.le_of_ble_eq_true rfl⟩) hK hP hD hS hA [0] [] rfl rfl (by decide) (by decide) (fun r9 u9 H locs hp10 hP hD hK hS => ?_)
        obtain ⟨t_8, rfl⟩ : ∃ z, z = u9 := ⟨u9, rfl⟩
        dsimp only at hp10 hP hD hK
        have hP : va_P D zcl [(qm, .inr (8, [.ref qT, .int (iI len), .int (iI op), .int (iI fp), .int (iI bu), .int (iI ra), .int (iI en), .ref qMe, .ref qPk, .ref qSz, .ref qSu, .ref qDa, .ref qLo, .ref qLe, .ref qNa, .ref qNs, .ref qSt, .ref qSa, .ref qCo, .ref qWr, .int (iI to), .int (iI nw), .int (iI bt), .int (iI rf), .ref qLn, .ref qSm, .ref qCd, .ref qSc, .int (iI sy), .int (iI di), .int (iI t_8)]))] H := hP
        have hD : va_D A [(qm, .inr (8, [.ref qT, .int (iI len), .int (iI op), .int (iI fp), .int (iI bu), .int (iI ra), .int (iI en), .ref qMe, .ref qPk, .ref qSz, .ref qSu, .ref qDa, .ref qLo, .ref qLe, .ref qNa, .ref qNs, .ref qSt, .ref qSa, .ref qCo, .ref qWr, .int (iI to), .int (iI nw), .int (iI bt), .int (iI rf), .ref qLn, .ref qSm, .ref qCd, .ref qSc, .int (iI sy), .int (iI di), .int (iI t_8)]))] := hD
        have hK : va_K D zcl [] s := hK
        obtain ⟨he_11, hp10⟩ := hp10
        subst he_11
        refine zv_if_eq (tgt := 35) hx hb d_M_limits_31 (by decide) (by omega) (fun hc_12 => by omega) (fun hc_12 => ?_)
        exact zretv hx hb hr hlk hK hP hD hS (bu, ra, t_8) [0] [] rfl (by decide) rfl (by omega) (Nat.le_of_ble_eq_true rfl) (Nat.le_of_ble_eq_true rfl) d_M_limits_34
      · skip
        refine lv_iload_n hx hb d_M_limits_11 rfl (lv_at hl 2 rfl) ?_
        refine zv_if_lt (tgt := 22) hx hb d_M_limits_12 (by decide) (by omega) (fun hc_13 => ?_) (fun hc_13 => ?_)
        · skip
          refine lv_iconst (v := iI 1) hx hb d_M_limits_22 (by decide) ?_
          refine lv_goto (tgt := 27) hx hb d_M_limits_23 (by decide) ?_
          refine lv_iconst (v := iI 1) hx hb d_M_limits_27 (by decide) ?_
          refine zji (wr := []) (va_runV (As := [.int (iI 1), .int (iI 1)]) (rest := []) ⟨hx, hb, hml, hown, ht⟩ (m_fails l D _ qm qT len op fp bu ra en qMe qPk qSz qSu qDa qLo qLe qNa qNs qSt qSa qCo qWr to nw bt rf qLn qSm qCd qSc sy di th 1 1 (by omega)) (cwV 2 ht (zt_goodV zm_855 zm_856 zm_30 zm_79 zm_857) rfl rfl rfl (by decide +kernel) ⟨Nat.le_of_ble_eq_true rfl, Nat.le_of_ble_eq_true rfl⟩) (zpreV zBlind_t hK hP hD [0] [] rfl (by decide) rfl (fun _ _ _ => trivial) (va_recv (q := ("ZipGuardModel", F_M, 31)) hK hP rfl (q0 := 0) (ci := 8) rfl)) rfl rfl hl.1 rfl (lv_room (Nat.le_of_ble_eq_true rfl)) d_M_limits_28 ⟨Nat.le_of_ble_eq_true rfl, Nat.le_of_ble_eq_true rfl⟩) hK hP hD hS hA [0] [] rfl rfl (by decide) (by decide) (fun r15 u9 H locs hp16 hP hD hK hS => ?_)
          obtain ⟨t_14, rfl⟩ : ∃ z, z = u9 := ⟨u9, rfl⟩
          dsimp only at hp16 hP hD hK
          have hP : va_P D zcl [(qm, .inr (8, [.ref qT, .int (iI len), .int (iI op), .int (iI fp), .int (iI bu), .int (iI ra), .int (iI en), .ref qMe, .ref qPk, .ref qSz, .ref qSu, .ref qDa, .ref qLo, .ref qLe, .ref qNa, .ref qNs, .ref qSt, .ref qSa, .ref qCo, .ref qWr, .int (iI to), .int (iI nw), .int (iI bt), .int (iI rf), .ref qLn, .ref qSm, .ref qCd, .ref qSc, .int (iI sy), .int (iI di), .int (iI t_14)]))] H := hP
          have hD : va_D A [(qm, .inr (8, [.ref qT, .int (iI len), .int (iI op), .int (iI fp), .int (iI bu), .int (iI ra), .int (iI en), .ref qMe, .ref qPk, .ref qSz, .ref qSu, .ref qDa, .ref qLo, .ref qLe, .ref qNa, .ref qNs, .ref qSt, .ref qSa, .ref qCo, .ref qWr, .int (iI to), .int (iI nw), .int (iI bt), .int (iI rf), .ref qLn, .ref qSm, .ref qCd, .ref qSc, .int (iI sy), .int (iI di), .int (iI t_14)]))] := hD
          have hK : va_K D zcl [] s := hK
          obtain ⟨he_17, hp16⟩ := hp16
          subst he_17
          refine zv_if_eq (tgt := 35) hx hb d_M_limits_31 (by decide) (by omega) (fun hc_18 => by omega) (fun hc_18 => ?_)
          exact zretv hx hb hr hlk hK hP hD hS (bu, ra, t_14) [0] [] rfl (by decide) rfl (by omega) (Nat.le_of_ble_eq_true rfl) (Nat.le_of_ble_eq_true rfl) d_M_limits_34
        · skip
          refine lv_iload_n hx hb d_M_limits_15 rfl (lv_at hl 2 rfl) ?_
          refine lv_sipush (v := iI 2000) hx hb d_M_limits_16 (by decide) ?_
          refine zv_icmp_le (tgt := 26) hx hb d_M_limits_19 (by decide) (by omega) (by omega) (fun hc_19 => ?_) (fun hc_19 => ?_)
          · skip
            refine lv_iconst (v := iI 0) hx hb d_M_limits_26 (by decide) ?_
            refine lv_iconst (v := iI 1) hx hb d_M_limits_27 (by decide) ?_
            refine zji (wr := []) (va_runV (As := [.int (iI 0), .int (iI 1)]) (rest := []) ⟨hx, hb, hml, hown, ht⟩ (m_fails l D _ qm qT len op fp bu ra en qMe qPk qSz qSu qDa qLo qLe qNa qNs qSt qSa qCo qWr to nw bt rf qLn qSm qCd qSc sy di th 0 1 (by omega)) (cwV 2 ht (zt_goodV zm_855 zm_856 zm_30 zm_79 zm_857) rfl rfl rfl (by decide +kernel) ⟨Nat.le_of_ble_eq_true rfl, Nat.le_of_ble_eq_true rfl⟩) (zpreV zBlind_t hK hP hD [0] [] rfl (by decide) rfl (fun _ _ _ => trivial) (va_recv (q := ("ZipGuardModel", F_M, 31)) hK hP rfl (q0 := 0) (ci := 8) rfl)) rfl rfl hl.1 rfl (lv_room (Nat.le_of_ble_eq_true rfl)) d_M_limits_28 ⟨Nat.le_of_ble_eq_true rfl, Nat.le_of_ble_eq_true rfl⟩) hK hP hD hS hA [0] [] rfl rfl (by decide) (by decide) (fun r21 u9 H locs hp22 hP hD hK hS => ?_)
            obtain ⟨t_20, rfl⟩ : ∃ z, z = u9 := ⟨u9, rfl⟩
            dsimp only at hp22 hP hD hK
            have hP : va_P D zcl [(qm, .inr (8, [.ref qT, .int (iI len), .int (iI op), .int (iI fp), .int (iI bu), .int (iI ra), .int (iI en), .ref qMe, .ref qPk, .ref qSz, .ref qSu, .ref qDa, .ref qLo, .ref qLe, .ref qNa, .ref qNs, .ref qSt, .ref qSa, .ref qCo, .ref qWr, .int (iI to), .int (iI nw), .int (iI bt), .int (iI rf), .ref qLn, .ref qSm, .ref qCd, .ref qSc, .int (iI sy), .int (iI di), .int (iI t_20)]))] H := hP
            have hD : va_D A [(qm, .inr (8, [.ref qT, .int (iI len), .int (iI op), .int (iI fp), .int (iI bu), .int (iI ra), .int (iI en), .ref qMe, .ref qPk, .ref qSz, .ref qSu, .ref qDa, .ref qLo, .ref qLe, .ref qNa, .ref qNs, .ref qSt, .ref qSa, .ref qCo, .ref qWr, .int (iI to), .int (iI nw), .int (iI bt), .int (iI rf), .ref qLn, .ref qSm, .ref qCd, .ref qSc, .int (iI sy), .int (iI di), .int (iI t_20)]))] := hD
            have hK : va_K D zcl [] s := hK
            obtain ⟨he_23, hp22⟩ := hp22
            subst he_23
            refine zv_if_eq (tgt := 35) hx hb d_M_limits_31 (by decide) (by omega) (fun hc_24 => ?_) (fun hc_24 => by omega)
            refine lv_aload_n hx hb d_M_limits_35 rfl (lv_at hl 0 rfl) ?_
            refine lv_iload_n hx hb d_M_limits_36 rfl (lv_at hl 1 rfl) ?_
            refine va_put (ci := 8) (v := .int (iI nb)) (ty := .int) (C := "ZipGuardModel") (T := F_M) (N := 31) hx hb ht zi_M ty_M tk_M nm_M hown hK hP hD hS 0 rfl rfl 4 (by decide) (ht _ zm_756) (fun _ h9 => h9) rfl (by decide +kernel) rfl rfl (Nat.le_of_ble_eq_true rfl) d_M_limits_37 (fun H locs hP hD hS => ?_)
            have hP : va_P D zcl [(qm, .inr (8, [.ref qT, .int (iI len), .int (iI op), .int (iI fp), .int (iI nb), .int (iI ra), .int (iI en), .ref qMe, .ref qPk, .ref qSz, .ref qSu, .ref qDa, .ref qLo, .ref qLe, .ref qNa, .ref qNs, .ref qSt, .ref qSa, .ref qCo, .ref qWr, .int (iI to), .int (iI nw), .int (iI bt), .int (iI rf), .ref qLn, .ref qSm, .ref qCd, .ref qSc, .int (iI sy), .int (iI di), .int (iI t_20)]))] H := hP
            have hD : va_D A [(qm, .inr (8, [.ref qT, .int (iI len), .int (iI op), .int (iI fp), .int (iI nb), .int (iI ra), .int (iI en), .ref qMe, .ref qPk, .ref qSz, .ref qSu, .ref qDa, .ref qLo, .ref qLe, .ref qNa, .ref qNs, .ref qSt, .ref qSa, .ref qCo, .ref qWr, .int (iI to), .int (iI nw), .int (iI bt), .int (iI rf), .ref qLn, .ref qSm, .ref qCd, .ref qSc, .int (iI sy), .int (iI di), .int (iI t_20)]))] := hD
            refine lv_aload_n hx hb d_M_limits_40 rfl (lv_at hl 0 rfl) ?_
            refine lv_iload_n hx hb d_M_limits_41 rfl (lv_at hl 2 rfl) ?_
            refine va_put (ci := 8) (v := .int (iI nr)) (ty := .int) (C := "ZipGuardModel") (T := F_M) (N := 31) hx hb ht zi_M ty_M tk_M nm_M hown hK hP hD hS 0 rfl rfl 5 (by decide) (ht _ zm_757) (fun _ h9 => h9) rfl (by decide +kernel) rfl rfl (Nat.le_of_ble_eq_true rfl) d_M_limits_42 (fun H locs hP hD hS => ?_)
            have hP : va_P D zcl [(qm, .inr (8, [.ref qT, .int (iI len), .int (iI op), .int (iI fp), .int (iI nb), .int (iI nr), .int (iI en), .ref qMe, .ref qPk, .ref qSz, .ref qSu, .ref qDa, .ref qLo, .ref qLe, .ref qNa, .ref qNs, .ref qSt, .ref qSa, .ref qCo, .ref qWr, .int (iI to), .int (iI nw), .int (iI bt), .int (iI rf), .ref qLn, .ref qSm, .ref qCd, .ref qSc, .int (iI sy), .int (iI di), .int (iI t_20)]))] H := hP
            have hD : va_D A [(qm, .inr (8, [.ref qT, .int (iI len), .int (iI op), .int (iI fp), .int (iI nb), .int (iI nr), .int (iI en), .ref qMe, .ref qPk, .ref qSz, .ref qSu, .ref qDa, .ref qLo, .ref qLe, .ref qNa, .ref qNs, .ref qSt, .ref qSa, .ref qCo, .ref qWr, .int (iI to), .int (iI nw), .int (iI bt), .int (iI rf), .ref qLn, .ref qSm, .ref qCd, .ref qSc, .int (iI sy), .int (iI di), .int (iI t_20)]))] := hD
            exact zretv hx hb hr hlk hK hP hD hS (nb, nr, t_20) [0] [] rfl (by decide) rfl (by omega) (Nat.le_of_ble_eq_true rfl) (Nat.le_of_ble_eq_true rfl) d_M_limits_45
          · skip
            refine lv_iconst (v := iI 1) hx hb d_M_limits_22 (by decide) ?_
            refine lv_goto (tgt := 27) hx hb d_M_limits_23 (by decide) ?_
            refine lv_iconst (v := iI 1) hx hb d_M_limits_27 (by decide) ?_
            refine zji (wr := []) (va_runV (As := [.int (iI 1), .int (iI 1)]) (rest := []) ⟨hx, hb, hml, hown, ht⟩ (m_fails l D _ qm qT len op fp bu ra en qMe qPk qSz qSu qDa qLo qLe qNa qNs qSt qSa qCo qWr to nw bt rf qLn qSm qCd qSc sy di th 1 1 (by omega)) (cwV 2 ht (zt_goodV zm_855 zm_856 zm_30 zm_79 zm_857) rfl rfl rfl (by decide +kernel) ⟨Nat.le_of_ble_eq_true rfl, Nat.le_of_ble_eq_true rfl⟩) (zpreV zBlind_t hK hP hD [0] [] rfl (by decide) rfl (fun _ _ _ => trivial) (va_recv (q := ("ZipGuardModel", F_M, 31)) hK hP rfl (q0 := 0) (ci := 8) rfl)) rfl rfl hl.1 rfl (lv_room (Nat.le_of_ble_eq_true rfl)) d_M_limits_28 ⟨Nat.le_of_ble_eq_true rfl, Nat.le_of_ble_eq_true rfl⟩) hK hP hD hS hA [0] [] rfl rfl (by decide) (by decide) (fun r26 u9 H locs hp27 hP hD hK hS => ?_)
            obtain ⟨t_25, rfl⟩ : ∃ z, z = u9 := ⟨u9, rfl⟩
            dsimp only at hp27 hP hD hK
            have hP : va_P D zcl [(qm, .inr (8, [.ref qT, .int (iI len), .int (iI op), .int (iI fp), .int (iI bu), .int (iI ra), .int (iI en), .ref qMe, .ref qPk, .ref qSz, .ref qSu, .ref qDa, .ref qLo, .ref qLe, .ref qNa, .ref qNs, .ref qSt, .ref qSa, .ref qCo, .ref qWr, .int (iI to), .int (iI nw), .int (iI bt), .int (iI rf), .ref qLn, .ref qSm, .ref qCd, .ref qSc, .int (iI sy), .int (iI di), .int (iI t_25)]))] H := hP
            have hD : va_D A [(qm, .inr (8, [.ref qT, .int (iI len), .int (iI op), .int (iI fp), .int (iI bu), .int (iI ra), .int (iI en), .ref qMe, .ref qPk, .ref qSz, .ref qSu, .ref qDa, .ref qLo, .ref qLe, .ref qNa, .ref qNs, .ref qSt, .ref qSa, .ref qCo, .ref qWr, .int (iI to), .int (iI nw), .int (iI bt), .int (iI rf), .ref qLn, .ref qSm, .ref qCd, .ref qSc, .int (iI sy), .int (iI di), .int (iI t_25)]))] := hD
            have hK : va_K D zcl [] s := hK
            obtain ⟨he_28, hp27⟩ := hp27
            subst he_28
            refine zv_if_eq (tgt := 35) hx hb d_M_limits_31 (by decide) (by omega) (fun hc_29 => by omega) (fun hc_29 => ?_)
            exact zretv hx hb hr hlk hK hP hD hS (bu, ra, t_25) [0] [] rfl (by decide) rfl (by omega) (Nat.le_of_ble_eq_true rfl) (Nat.le_of_ble_eq_true rfl) d_M_limits_34)
set_option maxHeartbeats 4000000 in
set_option maxRecDepth 100000 in
theorem m_write (l : Launch) (D : va_G) (sz : Nat) (qm : Nat) (qT : Nat) (len : Int) (op : Int) (fp : Int) (bu : Int) (ra : Int) (en : Int) (qMe : Nat) (qPk : Nat) (qSz : Nat) (qSu : Nat) (qDa : Nat) (qLo : Nat) (qLe : Nat) (qNa : Nat) (qNs : Nat) (qSt : Nat) (qSa : Nat) (qCo : Nat) (qWr : Nat) (to : Int) (nw : Int) (bt : Int) (rf : Int) (qLn : Nat) (qSm : Nat) (qCd : Nat) (qSc : Nat) (sy : Int) (di : Int) (th : Int) (cPk : ClassId) (fPk : Nat → Int) (cSz : ClassId) (fSz : Nat → Int64) (cCo : ClassId) (fCo : Nat → Int) (cWr : ClassId) (fWr : Nat → Int32) (b : Int) (hnw : 0 ≤ nw ∧ nw < 64) (hrf : -2147483648 ≤ rf ∧ rf ≤ 2147483647) (hpk : 0 ≤ fPk nw.toNat ∧ fPk nw.toNat ≤ 20000) (hlim : 0 ≤ bu ∧ bu ≤ 40000 ∧ 0 ≤ ra ∧ ra ≤ 2000) (hco : 0 ≤ fCo nw.toNat ∧ fCo nw.toNat ≤ to ∧ to ≤ 40000) : Met l y_M_write (Cond.code y_M_write prog_10_method_29_code 2 (Option.some Jvm.ClassFile.FieldType.boolean) :: zt) { frames := 1, cells := 0, slots := 0, locals := 21 } (zPc [.ref qm, .int (iI b)] D [(qm, .inr (8, [.ref qT, .int (iI len), .int (iI op), .int (iI fp), .int (iI bu), .int (iI ra), .int (iI en), .ref qMe, .ref qPk, .ref qSz, .ref qSu, .ref qDa, .ref qLo, .ref qLe, .ref qNa, .ref qNs, .ref qSt, .ref qSa, .ref qCo, .ref qWr, .int (iI to), .int (iI nw), .int (iI bt), .int (iI rf), .ref qLn, .ref qSm, .ref qCd, .ref qSc, .int (iI sy), .int (iI di), .int (iI th)])), (qPk, .inl (cPk, 64, .inr (.inl (fun k => lI (fPk k))))), (qSz, .inl (cSz, 64, .inr (.inl fSz))), (qCo, .inl (cCo, 64, .inl (fun k => iI (fCo k)))), (qWr, .inl (cWr, 40000, .inl fWr))] [(cPk, .long), (cSz, .long), (cCo, .int), (cWr, .byte)] sz (fun _ => True)) (va_Qi (fun (r : Int32) => fun (u9 : Int × Int × Int × (Nat → Int) × (Nat → Int32)) => match u9 with | (to1, r1, x, fc1, fw1) => r = (iI x) ∧ ((∀ k : Nat, k ≠ nw.toNat → fc1 k = fCo k) ∧ (zWi rf b (fCo nw.toNat) (fc1 nw.toNat) (zlI fSz nw) ra (fPk nw.toNat) to to1 bu r1 fWr fw1) ∧ 0 ≤ x ∧ x ≤ 1 ∧ (-2147483648 ≤ r1 ∧ r1 ≤ 2147483647) ∧ to ≤ to1 ∧ to1 ≤ 40000 ∧ fc1 nw.toNat - fCo nw.toNat = to1 - to ∧ (r1 = 0 → rf = 0) ∧ (¬ rf = 0 → r1 = rf))) (fun u9 t => zB D ((fun (u9 : Int × Int × Int × (Nat → Int) × (Nat → Int32)) => match u9 with | (to1, r1, x, fc1, fw1) => [(qm, .inr (8, [.ref qT, .int (iI len), .int (iI op), .int (iI fp), .int (iI bu), .int (iI ra), .int (iI en), .ref qMe, .ref qPk, .ref qSz, .ref qSu, .ref qDa, .ref qLo, .ref qLe, .ref qNa, .ref qNs, .ref qSt, .ref qSa, .ref qCo, .ref qWr, .int (iI to1), .int (iI nw), .int (iI bt), .int (iI r1), .ref qLn, .ref qSm, .ref qCd, .ref qSc, .int (iI sy), .int (iI di), .int (iI th)])), (qPk, .inl (cPk, 64, .inr (.inl (fun k => lI (fPk k))))), (qSz, .inl (cSz, 64, .inr (.inl fSz))), (qCo, .inl (cCo, 64, .inl (fun k => iI (fc1 k)))), (qWr, .inl (cWr, 40000, .inl fw1))]) u9) ((fun (u9 : Int × Int × Int × (Nat → Int) × (Nat → Int32)) => match u9 with | (to1, r1, x, fc1, fw1) => [(cPk, .long), (cSz, .long), (cCo, .int), (cWr, .byte)]) u9) (va_A [(qm, .inr (8, [.ref qT, .int (iI len), .int (iI op), .int (iI fp), .int (iI bu), .int (iI ra), .int (iI en), .ref qMe, .ref qPk, .ref qSz, .ref qSu, .ref qDa, .ref qLo, .ref qLe, .ref qNa, .ref qNs, .ref qSt, .ref qSa, .ref qCo, .ref qWr, .int (iI to), .int (iI nw), .int (iI bt), .int (iI rf), .ref qLn, .ref qSm, .ref qCd, .ref qSc, .int (iI sy), .int (iI di), .int (iI th)])), (qPk, .inl (cPk, 64, .inr (.inl (fun k => lI (fPk k))))), (qSz, .inl (cSz, 64, .inr (.inl fSz))), (qCo, .inl (cCo, 64, .inl (fun k => iI (fCo k)))), (qWr, .inl (cWr, 40000, .inl fWr))] sz) t) (va_A [(qm, .inr (8, [.ref qT, .int (iI len), .int (iI op), .int (iI fp), .int (iI bu), .int (iI ra), .int (iI en), .ref qMe, .ref qPk, .ref qSz, .ref qSu, .ref qDa, .ref qLo, .ref qLe, .ref qNa, .ref qNs, .ref qSt, .ref qSa, .ref qCo, .ref qWr, .int (iI to), .int (iI nw), .int (iI bt), .int (iI rf), .ref qLn, .ref qSm, .ref qCd, .ref qSc, .int (iI sy), .int (iI di), .int (iI th)])), (qPk, .inl (cPk, 64, .inr (.inl (fun k => lI (fPk k))))), (qSz, .inl (cSz, 64, .inr (.inl fSz))), (qCo, .inl (cCo, 64, .inl (fun k => iI (fCo k)))), (qWr, .inl (cWr, 40000, .inl fWr))] sz)) 0 0 (va_A [(qm, .inr (8, [.ref qT, .int (iI len), .int (iI op), .int (iI fp), .int (iI bu), .int (iI ra), .int (iI en), .ref qMe, .ref qPk, .ref qSz, .ref qSu, .ref qDa, .ref qLo, .ref qLe, .ref qNa, .ref qNs, .ref qSt, .ref qSa, .ref qCo, .ref qWr, .int (iI to), .int (iI nw), .int (iI bt), .int (iI rf), .ref qLn, .ref qSm, .ref qCd, .ref qSc, .int (iI sy), .int (iI di), .int (iI th)])), (qPk, .inl (cPk, 64, .inr (.inl (fun k => lI (fPk k))))), (qSz, .inl (cSz, 64, .inr (.inl fSz))), (qCo, .inl (cCo, 64, .inl (fun k => iI (fCo k)))), (qWr, .inl (cWr, 40000, .inl fWr))] sz) :=
  zMet (Qf := fun A => va_Qi (fun (r : Int32) => fun (u9 : Int × Int × Int × (Nat → Int) × (Nat → Int32)) => match u9 with | (to1, r1, x, fc1, fw1) => r = (iI x) ∧ ((∀ k : Nat, k ≠ nw.toNat → fc1 k = fCo k) ∧ (zWi rf b (fCo nw.toNat) (fc1 nw.toNat) (zlI fSz nw) ra (fPk nw.toNat) to to1 bu r1 fWr fw1) ∧ 0 ≤ x ∧ x ≤ 1 ∧ (-2147483648 ≤ r1 ∧ r1 ≤ 2147483647) ∧ to ≤ to1 ∧ to1 ≤ 40000 ∧ fc1 nw.toNat - fCo nw.toNat = to1 - to ∧ (r1 = 0 → rf = 0) ∧ (¬ rf = 0 → r1 = rf))) (fun u9 t => zB D ((fun (u9 : Int × Int × Int × (Nat → Int) × (Nat → Int32)) => match u9 with | (to1, r1, x, fc1, fw1) => [(qm, .inr (8, [.ref qT, .int (iI len), .int (iI op), .int (iI fp), .int (iI bu), .int (iI ra), .int (iI en), .ref qMe, .ref qPk, .ref qSz, .ref qSu, .ref qDa, .ref qLo, .ref qLe, .ref qNa, .ref qNs, .ref qSt, .ref qSa, .ref qCo, .ref qWr, .int (iI to1), .int (iI nw), .int (iI bt), .int (iI r1), .ref qLn, .ref qSm, .ref qCd, .ref qSc, .int (iI sy), .int (iI di), .int (iI th)])), (qPk, .inl (cPk, 64, .inr (.inl (fun k => lI (fPk k))))), (qSz, .inl (cSz, 64, .inr (.inl fSz))), (qCo, .inl (cCo, 64, .inl (fun k => iI (fc1 k)))), (qWr, .inl (cWr, 40000, .inl fw1))]) u9) ((fun (u9 : Int × Int × Int × (Nat → Int) × (Nat → Int32)) => match u9 with | (to1, r1, x, fc1, fw1) => [(cPk, .long), (cSz, .long), (cCo, .int), (cWr, .byte)]) u9) A t) A) (by decide) (Nat.le_of_ble_eq_true rfl) (fun p e s m below meth c A ls hx hb hr hml hown ht hlk hnm hA hK hP hD hX hl => by
    have hS : va_S A s.heap s.heap [] := va_S.rf
    have hl : lv_has ls 2 [(0, .ref qm), (1, .int (iI b))] := hl
    refine lv_aload_n hx hb d_M_write_0 rfl (lv_at hl 0 rfl) ?_
    refine va_get (ci := 8) (C := "ZipGuardModel") (T := F_M) (N := 31) hx hb ht zi_M hown hK hP 0 rfl rfl 23 (by decide) (ht _ zm_775) (fun _ h9 => h9) rfl d_M_write_1 ?_
    refine zv_if_eq (tgt := 9) hx hb d_M_write_4 (by decide) (by omega) (fun hc_1 => ?_) (fun hc_1 => ?_)
    · skip
      refine lv_aload_n hx hb d_M_write_9 rfl (lv_at hl 0 rfl) ?_
      refine va_get (ci := 8) (C := "ZipGuardModel") (T := F_M) (N := 31) hx hb ht zi_M hown hK hP 0 rfl rfl 18 (by decide) (ht _ zm_770) (fun _ h9 => h9) rfl d_M_write_10 ?_
      refine lv_aload_n hx hb d_M_write_13 rfl (lv_at hl 0 rfl) ?_
      refine va_get (ci := 8) (C := "ZipGuardModel") (T := F_M) (N := 31) hx hb ht zi_M hown hK hP 0 rfl rfl 21 (by decide) (ht _ zm_773) (fun _ h9 => h9) rfl d_M_write_14 ?_
      refine zv_iald hx hb hK hP 3 2 rfl rfl (by omega) (by decide) d_M_write_17 (fun x_2 hz_3 => ?_)
      refine zv_i2l hx hb d_M_write_18 (by omega) ?_
      refine lv_aload_n hx hb d_M_write_19 rfl (lv_at hl 0 rfl) ?_
      refine va_get (ci := 8) (C := "ZipGuardModel") (T := F_M) (N := 31) hx hb ht zi_M hown hK hP 0 rfl rfl 9 (by decide) (ht _ zm_761) (fun _ h9 => h9) rfl d_M_write_20 ?_
      refine lv_aload_n hx hb d_M_write_23 rfl (lv_at hl 0 rfl) ?_
      refine va_get (ci := 8) (C := "ZipGuardModel") (T := F_M) (N := 31) hx hb ht zi_M hown hK hP 0 rfl rfl 21 (by decide) (ht _ zm_773) (fun _ h9 => h9) rfl d_M_write_24 ?_
      refine zv_lald0 hx hb hK hP 2 1 rfl rfl (by omega) (by decide) d_M_write_27 (fun x_4 hz_5 ha_6 ha_7 => ?_)
      have hr_8 := zlI_of hz_5 ha_6 ha_7
      refine zv_lcmp_lt (tgt := 39) hx hb d_M_write_28 d_M_write_29 (by decide) (by omega) (by omega) (fun hc_9 => ?_) (fun hc_9 => ?_)
      · skip
        refine lv_aload_n hx hb d_M_write_39 rfl (lv_at hl 0 rfl) ?_
        refine va_get (ci := 8) (C := "ZipGuardModel") (T := F_M) (N := 31) hx hb ht zi_M hown hK hP 0 rfl rfl 18 (by decide) (ht _ zm_770) (fun _ h9 => h9) rfl d_M_write_40 ?_
        refine lv_aload_n hx hb d_M_write_43 rfl (lv_at hl 0 rfl) ?_
        refine va_get (ci := 8) (C := "ZipGuardModel") (T := F_M) (N := 31) hx hb ht zi_M hown hK hP 0 rfl rfl 21 (by decide) (ht _ zm_773) (fun _ h9 => h9) rfl d_M_write_44 ?_
        refine zv_iald hx hb hK hP 3 2 rfl rfl (by omega) (by decide) d_M_write_47 (fun x_10 hz_11 => ?_)
        refine zv_i2l hx hb d_M_write_48 (by omega) ?_
        refine lv_aload_n hx hb d_M_write_49 rfl (lv_at hl 0 rfl) ?_
        refine va_get (ci := 8) (C := "ZipGuardModel") (T := F_M) (N := 31) hx hb ht zi_M hown hK hP 0 rfl rfl 5 (by decide) (ht _ zm_757) (fun _ h9 => h9) rfl d_M_write_50 ?_
        refine zv_i2l hx hb d_M_write_53 (by omega) ?_
        refine lv_aload_n hx hb d_M_write_54 rfl (lv_at hl 0 rfl) ?_
        refine va_get (ci := 8) (C := "ZipGuardModel") (T := F_M) (N := 31) hx hb ht zi_M hown hK hP 0 rfl rfl 8 (by decide) (ht _ zm_760) (fun _ h9 => h9) rfl d_M_write_55 ?_
        refine lv_aload_n hx hb d_M_write_58 rfl (lv_at hl 0 rfl) ?_
        refine va_get (ci := 8) (C := "ZipGuardModel") (T := F_M) (N := 31) hx hb ht zi_M hown hK hP 0 rfl rfl 21 (by decide) (ht _ zm_773) (fun _ h9 => h9) rfl d_M_write_59 ?_
        refine zv_lald hx hb hK hP 1 0 rfl rfl (by omega) (by decide) d_M_write_62 (fun x_12 hz_13 => ?_)
        have hm_14 := zmulb (a := ra) (b := x_12) (by omega) (by omega)
        have hpm : ra * x_12 = ra * fPk nw.toNat := by rw [hz_13]
        refine zv_lmul (z := ra * x_12) hx hb d_M_write_63 (rfl) ?_
        refine lv_ldc2 (v := 16) hx hb hown (ht _ zm_937) d_M_write_64 ?_
        refine zv_litL 16 (by decide) ?_
        refine zv_ladd (z := (ra * x_12) + 16) hx hb d_M_write_67 (by omega) ?_
        refine zv_lcmp_lt (tgt := 79) hx hb d_M_write_68 d_M_write_69 (by decide) (by omega) (by omega) (fun hc_15 => ?_) (fun hc_15 => ?_)
        · skip
          refine lv_aload_n hx hb d_M_write_79 rfl (lv_at hl 0 rfl) ?_
          refine va_get (ci := 8) (C := "ZipGuardModel") (T := F_M) (N := 31) hx hb ht zi_M hown hK hP 0 rfl rfl 20 (by decide) (ht _ zm_772) (fun _ h9 => h9) rfl d_M_write_80 ?_
          refine lv_aload_n hx hb d_M_write_83 rfl (lv_at hl 0 rfl) ?_
          refine va_get (ci := 8) (C := "ZipGuardModel") (T := F_M) (N := 31) hx hb ht zi_M hown hK hP 0 rfl rfl 4 (by decide) (ht _ zm_756) (fun _ h9 => h9) rfl d_M_write_84 ?_
          refine zv_icmp_lt (tgt := 97) hx hb d_M_write_87 (by decide) (by omega) (by omega) (fun hc_16 => ?_) (fun hc_16 => ?_)
          · skip
            refine lv_aload_n hx hb d_M_write_97 rfl (lv_at hl 0 rfl) ?_
            refine va_get (ci := 8) (C := "ZipGuardModel") (T := F_M) (N := 31) hx hb ht zi_M hown hK hP 0 rfl rfl 19 (by decide) (ht _ zm_771) (fun _ h9 => h9) rfl d_M_write_98 ?_
            refine lv_aload_n hx hb d_M_write_101 rfl (lv_at hl 0 rfl) ?_
            refine va_get (ci := 8) (C := "ZipGuardModel") (T := F_M) (N := 31) hx hb ht zi_M hown hK hP 0 rfl rfl 20 (by decide) (ht _ zm_772) (fun _ h9 => h9) rfl d_M_write_102 ?_
            refine lv_iload_n hx hb d_M_write_105 rfl (lv_at hl 1 rfl) ?_
            refine lv_i2b hx hb d_M_write_106 rfl ?_
            refine zv_bast hx hb hK hP hD hS 4 3 rfl rfl (by omega) (by decide) d_M_write_107 (fun g_17 H locs hg_18 hP hD hS => ?_)
            have hP : va_P D zcl [(qm, .inr (8, [.ref qT, .int (iI len), .int (iI op), .int (iI fp), .int (iI bu), .int (iI ra), .int (iI en), .ref qMe, .ref qPk, .ref qSz, .ref qSu, .ref qDa, .ref qLo, .ref qLe, .ref qNa, .ref qNs, .ref qSt, .ref qSa, .ref qCo, .ref qWr, .int (iI to), .int (iI nw), .int (iI bt), .int (iI rf), .ref qLn, .ref qSm, .ref qCd, .ref qSc, .int (iI sy), .int (iI di), .int (iI th)])), (qPk, .inl (cPk, 64, .inr (.inl (fun k => lI (fPk k))))), (qSz, .inl (cSz, 64, .inr (.inl fSz))), (qCo, .inl (cCo, 64, .inl (fun k => iI (fCo k)))), (qWr, .inl (cWr, 40000, .inl g_17))] H := hP
            have hD : va_D A [(qm, .inr (8, [.ref qT, .int (iI len), .int (iI op), .int (iI fp), .int (iI bu), .int (iI ra), .int (iI en), .ref qMe, .ref qPk, .ref qSz, .ref qSu, .ref qDa, .ref qLo, .ref qLe, .ref qNa, .ref qNs, .ref qSt, .ref qSa, .ref qCo, .ref qWr, .int (iI to), .int (iI nw), .int (iI bt), .int (iI rf), .ref qLn, .ref qSm, .ref qCd, .ref qSc, .int (iI sy), .int (iI di), .int (iI th)])), (qPk, .inl (cPk, 64, .inr (.inl (fun k => lI (fPk k))))), (qSz, .inl (cSz, 64, .inr (.inl fSz))), (qCo, .inl (cCo, 64, .inl (fun k => iI (fCo k)))), (qWr, .inl (cWr, 40000, .inl g_17))] := hD
            refine lv_aload_n hx hb d_M_write_108 rfl (lv_at hl 0 rfl) ?_
            refine lv_dup hx hb d_M_write_109 rfl ?_
            refine va_get (ci := 8) (C := "ZipGuardModel") (T := F_M) (N := 31) hx hb ht zi_M hown hK hP 0 rfl rfl 20 (by decide) (ht _ zm_772) (fun _ h9 => h9) rfl d_M_write_110 ?_
            refine lv_iconst (v := iI 1) hx hb d_M_write_113 (by decide) ?_
            refine zv_iadd (z := to + 1) hx hb d_M_write_114 (by omega) ?_
            refine va_put (ci := 8) (v := .int (iI (to + 1))) (ty := .int) (C := "ZipGuardModel") (T := F_M) (N := 31) hx hb ht zi_M ty_M tk_M nm_M hown hK hP hD hS 0 rfl rfl 20 (by decide) (ht _ zm_772) (fun _ h9 => h9) rfl (by decide +kernel) rfl rfl (Nat.le_of_ble_eq_true rfl) d_M_write_115 (fun H locs hP hD hS => ?_)
            have hP : va_P D zcl [(qm, .inr (8, [.ref qT, .int (iI len), .int (iI op), .int (iI fp), .int (iI bu), .int (iI ra), .int (iI en), .ref qMe, .ref qPk, .ref qSz, .ref qSu, .ref qDa, .ref qLo, .ref qLe, .ref qNa, .ref qNs, .ref qSt, .ref qSa, .ref qCo, .ref qWr, .int (iI (to + 1)), .int (iI nw), .int (iI bt), .int (iI rf), .ref qLn, .ref qSm, .ref qCd, .ref qSc, .int (iI sy), .int (iI di), .int (iI th)])), (qPk, .inl (cPk, 64, .inr (.inl (fun k => lI (fPk k))))), (qSz, .inl (cSz, 64, .inr (.inl fSz))), (qCo, .inl (cCo, 64, .inl (fun k => iI (fCo k)))), (qWr, .inl (cWr, 40000, .inl g_17))] H := hP
            have hD : va_D A [(qm, .inr (8, [.ref qT, .int (iI len), .int (iI op), .int (iI fp), .int (iI bu), .int (iI ra), .int (iI en), .ref qMe, .ref qPk, .ref qSz, .ref qSu, .ref qDa, .ref qLo, .ref qLe, .ref qNa, .ref qNs, .ref qSt, .ref qSa, .ref qCo, .ref qWr, .int (iI (to + 1)), .int (iI nw), .int (iI bt), .int (iI rf), .ref qLn, .ref qSm, .ref qCd, .ref qSc, .int (iI sy), .int (iI di), .int (iI th)])), (qPk, .inl (cPk, 64, .inr (.inl (fun k => lI (fPk k))))), (qSz, .inl (cSz, 64, .inr (.inl fSz))), (qCo, .inl (cCo, 64, .inl (fun k => iI (fCo k)))), (qWr, .inl (cWr, 40000, .inl g_17))] := hD
            refine lv_aload_n hx hb d_M_write_118 rfl (lv_at hl 0 rfl) ?_
            refine va_get (ci := 8) (C := "ZipGuardModel") (T := F_M) (N := 31) hx hb ht zi_M hown hK hP 0 rfl rfl 18 (by decide) (ht _ zm_770) (fun _ h9 => h9) rfl d_M_write_119 ?_
            refine lv_aload_n hx hb d_M_write_122 rfl (lv_at hl 0 rfl) ?_
            refine va_get (ci := 8) (C := "ZipGuardModel") (T := F_M) (N := 31) hx hb ht zi_M hown hK hP 0 rfl rfl 21 (by decide) (ht _ zm_773) (fun _ h9 => h9) rfl d_M_write_123 ?_
            refine lv_dup2_11 hx hb d_M_write_126 rfl rfl ?_
            refine zv_iald hx hb hK hP 3 2 rfl rfl (by omega) (by decide) d_M_write_127 (fun x_19 hz_20 => ?_)
            refine lv_iconst (v := iI 1) hx hb d_M_write_128 (by decide) ?_
            refine zv_iadd (z := x_19 + 1) hx hb d_M_write_129 (by omega) ?_
            refine zv_iast hx hb hK hP hD hS 3 2 rfl rfl (by omega) (by decide) d_M_write_130 (fun g_21 H locs hg_22 hP hD hS => ?_)
            have hP : va_P D zcl [(qm, .inr (8, [.ref qT, .int (iI len), .int (iI op), .int (iI fp), .int (iI bu), .int (iI ra), .int (iI en), .ref qMe, .ref qPk, .ref qSz, .ref qSu, .ref qDa, .ref qLo, .ref qLe, .ref qNa, .ref qNs, .ref qSt, .ref qSa, .ref qCo, .ref qWr, .int (iI (to + 1)), .int (iI nw), .int (iI bt), .int (iI rf), .ref qLn, .ref qSm, .ref qCd, .ref qSc, .int (iI sy), .int (iI di), .int (iI th)])), (qPk, .inl (cPk, 64, .inr (.inl (fun k => lI (fPk k))))), (qSz, .inl (cSz, 64, .inr (.inl fSz))), (qCo, .inl (cCo, 64, .inl (fun k => iI (g_21 k)))), (qWr, .inl (cWr, 40000, .inl g_17))] H := hP
            have hD : va_D A [(qm, .inr (8, [.ref qT, .int (iI len), .int (iI op), .int (iI fp), .int (iI bu), .int (iI ra), .int (iI en), .ref qMe, .ref qPk, .ref qSz, .ref qSu, .ref qDa, .ref qLo, .ref qLe, .ref qNa, .ref qNs, .ref qSt, .ref qSa, .ref qCo, .ref qWr, .int (iI (to + 1)), .int (iI nw), .int (iI bt), .int (iI rf), .ref qLn, .ref qSm, .ref qCd, .ref qSc, .int (iI sy), .int (iI di), .int (iI th)])), (qPk, .inl (cPk, 64, .inr (.inl (fun k => lI (fPk k))))), (qSz, .inl (cSz, 64, .inr (.inl fSz))), (qCo, .inl (cCo, 64, .inl (fun k => iI (g_21 k)))), (qWr, .inl (cWr, 40000, .inl g_17))] := hD
            refine lv_iconst (v := iI 1) hx hb d_M_write_131 (by decide) ?_
            exact zretz hx hb hr hlk hK hP hD hS (to + 1, rf, 1, g_21, g_17) [0, 1, 2, 3, 4] [0, 1, 2, 3] rfl (by decide) rfl (⟨rfl, ⟨fun k hk => by rw [hg_22, zup_ne hk], Or.inr ⟨by omega, by unfold zWc; split <;> (try split) <;> (try split) <;> omega, Or.inl ⟨by omega, rfl, by rw [hg_22, zup_at]; omega, hg_18⟩⟩, by rw [hg_22, zup_at]; omega⟩⟩) (zn01 (by omega)) (Nat.le_of_ble_eq_true rfl) (Nat.le_of_ble_eq_true rfl) d_M_write_132
          · skip
            refine lv_aload_n hx hb d_M_write_90 rfl (lv_at hl 0 rfl) ?_
            refine lv_bipush (v := iI 22) hx hb d_M_write_91 (by decide) ?_
            refine zji (wr := [(qPk, .inl (cPk, 64, .inr (.inl (fun k => lI (fPk k))))), (qSz, .inl (cSz, 64, .inr (.inl fSz))), (qCo, .inl (cCo, 64, .inl (fun k => iI (fCo k)))), (qWr, .inl (cWr, 40000, .inl fWr))]) (va_runV (As := [.int (iI 22)]) (rest := []) ⟨hx, hb, hml, hown, ht⟩ (m_refuse l D _ qm qT len op fp bu ra en qMe qPk qSz qSu qDa qLo qLe qNa qNs qSt qSa qCo qWr to nw bt rf qLn qSm qCd qSc sy di th 22 (by omega)) (cwV 1 ht (zt_goodV zm_965 zm_966 zm_52 zm_79 zm_967) rfl rfl rfl (by decide +kernel) ⟨Nat.le_of_ble_eq_true rfl, Nat.le_of_ble_eq_true rfl⟩) (zpreV zBlind_t hK hP hD [0] [] rfl (by decide) rfl (fun _ _ _ => trivial) (va_recv (q := ("ZipGuardModel", F_M, 31)) hK hP rfl (q0 := 0) (ci := 8) rfl)) rfl rfl hl.1 rfl (lv_room (Nat.le_of_ble_eq_true rfl)) d_M_write_93 ⟨Nat.le_of_ble_eq_true rfl, Nat.le_of_ble_eq_true rfl⟩) hK hP hD hS hA [0] [1, 2, 3, 4] rfl rfl (by decide) (by decide) (fun r24 u9 H locs hp25 hP hD hK hS => ?_)
            obtain ⟨r_23, rfl⟩ : ∃ z, z = u9 := ⟨u9, rfl⟩
            dsimp only at hp25 hP hD hK
            have hP : va_P D zcl [(qPk, .inl (cPk, 64, .inr (.inl (fun k => lI (fPk k))))), (qSz, .inl (cSz, 64, .inr (.inl fSz))), (qCo, .inl (cCo, 64, .inl (fun k => iI (fCo k)))), (qWr, .inl (cWr, 40000, .inl fWr)), (qm, .inr (8, [.ref qT, .int (iI len), .int (iI op), .int (iI fp), .int (iI bu), .int (iI ra), .int (iI en), .ref qMe, .ref qPk, .ref qSz, .ref qSu, .ref qDa, .ref qLo, .ref qLe, .ref qNa, .ref qNs, .ref qSt, .ref qSa, .ref qCo, .ref qWr, .int (iI to), .int (iI nw), .int (iI bt), .int (iI r_23), .ref qLn, .ref qSm, .ref qCd, .ref qSc, .int (iI sy), .int (iI di), .int (iI th)]))] H := hP
            have hD : va_D A [(qPk, .inl (cPk, 64, .inr (.inl (fun k => lI (fPk k))))), (qSz, .inl (cSz, 64, .inr (.inl fSz))), (qCo, .inl (cCo, 64, .inl (fun k => iI (fCo k)))), (qWr, .inl (cWr, 40000, .inl fWr)), (qm, .inr (8, [.ref qT, .int (iI len), .int (iI op), .int (iI fp), .int (iI bu), .int (iI ra), .int (iI en), .ref qMe, .ref qPk, .ref qSz, .ref qSu, .ref qDa, .ref qLo, .ref qLe, .ref qNa, .ref qNs, .ref qSt, .ref qSa, .ref qCo, .ref qWr, .int (iI to), .int (iI nw), .int (iI bt), .int (iI r_23), .ref qLn, .ref qSm, .ref qCd, .ref qSc, .int (iI sy), .int (iI di), .int (iI th)]))] := hD
            have hK : va_K D zcl [(cPk, .long), (cSz, .long), (cCo, .int), (cWr, .byte)] s := hK
            obtain ⟨he_26, hp25⟩ := hp25
            subst he_26
            have hP := hP.sub (ws' := [(qm, .inr (8, [.ref qT, .int (iI len), .int (iI op), .int (iI fp), .int (iI bu), .int (iI ra), .int (iI en), .ref qMe, .ref qPk, .ref qSz, .ref qSu, .ref qDa, .ref qLo, .ref qLe, .ref qNa, .ref qNs, .ref qSt, .ref qSa, .ref qCo, .ref qWr, .int (iI to), .int (iI nw), .int (iI bt), .int (iI r_23), .ref qLn, .ref qSm, .ref qCd, .ref qSc, .int (iI sy), .int (iI di), .int (iI th)])), (qPk, .inl (cPk, 64, .inr (.inl (fun k => lI (fPk k))))), (qSz, .inl (cSz, 64, .inr (.inl fSz))), (qCo, .inl (cCo, 64, .inl (fun k => iI (fCo k)))), (qWr, .inl (cWr, 40000, .inl fWr))]) [4, 0, 1, 2, 3] rfl
            have hD := hD.sub (ws' := [(qm, .inr (8, [.ref qT, .int (iI len), .int (iI op), .int (iI fp), .int (iI bu), .int (iI ra), .int (iI en), .ref qMe, .ref qPk, .ref qSz, .ref qSu, .ref qDa, .ref qLo, .ref qLe, .ref qNa, .ref qNs, .ref qSt, .ref qSa, .ref qCo, .ref qWr, .int (iI to), .int (iI nw), .int (iI bt), .int (iI r_23), .ref qLn, .ref qSm, .ref qCd, .ref qSc, .int (iI sy), .int (iI di), .int (iI th)])), (qPk, .inl (cPk, 64, .inr (.inl (fun k => lI (fPk k))))), (qSz, .inl (cSz, 64, .inr (.inl fSz))), (qCo, .inl (cCo, 64, .inl (fun k => iI (fCo k)))), (qWr, .inl (cWr, 40000, .inl fWr))]) [4, 0, 1, 2, 3] (by decide) rfl
            have hK := hK.sub (tys' := [(cPk, .long), (cSz, .long), (cCo, .int), (cWr, .byte)]) [0, 1, 2, 3] rfl
            exact zretz hx hb hr hlk hK hP hD hS (to, r_23, 0, fCo, fWr) [0, 1, 2, 3, 4] [0, 1, 2, 3] rfl (by decide) rfl (⟨rfl, ⟨fun _ _ => rfl, Or.inr ⟨by omega, by unfold zWc; split <;> (try split) <;> (try split) <;> omega, Or.inr ⟨by omega, rfl, rfl, rfl⟩⟩, by omega⟩⟩) (zn01 (by omega)) (Nat.le_of_ble_eq_true rfl) (Nat.le_of_ble_eq_true rfl) d_M_write_96
        · skip
          refine lv_aload_n hx hb d_M_write_72 rfl (lv_at hl 0 rfl) ?_
          refine lv_bipush (v := iI 21) hx hb d_M_write_73 (by decide) ?_
          refine zji (wr := [(qPk, .inl (cPk, 64, .inr (.inl (fun k => lI (fPk k))))), (qSz, .inl (cSz, 64, .inr (.inl fSz))), (qCo, .inl (cCo, 64, .inl (fun k => iI (fCo k)))), (qWr, .inl (cWr, 40000, .inl fWr))]) (va_runV (As := [.int (iI 21)]) (rest := []) ⟨hx, hb, hml, hown, ht⟩ (m_refuse l D _ qm qT len op fp bu ra en qMe qPk qSz qSu qDa qLo qLe qNa qNs qSt qSa qCo qWr to nw bt rf qLn qSm qCd qSc sy di th 21 (by omega)) (cwV 1 ht (zt_goodV zm_965 zm_966 zm_52 zm_79 zm_967) rfl rfl rfl (by decide +kernel) ⟨Nat.le_of_ble_eq_true rfl, Nat.le_of_ble_eq_true rfl⟩) (zpreV zBlind_t hK hP hD [0] [] rfl (by decide) rfl (fun _ _ _ => trivial) (va_recv (q := ("ZipGuardModel", F_M, 31)) hK hP rfl (q0 := 0) (ci := 8) rfl)) rfl rfl hl.1 rfl (lv_room (Nat.le_of_ble_eq_true rfl)) d_M_write_75 ⟨Nat.le_of_ble_eq_true rfl, Nat.le_of_ble_eq_true rfl⟩) hK hP hD hS hA [0] [1, 2, 3, 4] rfl rfl (by decide) (by decide) (fun r28 u9 H locs hp29 hP hD hK hS => ?_)
          obtain ⟨r_27, rfl⟩ : ∃ z, z = u9 := ⟨u9, rfl⟩
          dsimp only at hp29 hP hD hK
          have hP : va_P D zcl [(qPk, .inl (cPk, 64, .inr (.inl (fun k => lI (fPk k))))), (qSz, .inl (cSz, 64, .inr (.inl fSz))), (qCo, .inl (cCo, 64, .inl (fun k => iI (fCo k)))), (qWr, .inl (cWr, 40000, .inl fWr)), (qm, .inr (8, [.ref qT, .int (iI len), .int (iI op), .int (iI fp), .int (iI bu), .int (iI ra), .int (iI en), .ref qMe, .ref qPk, .ref qSz, .ref qSu, .ref qDa, .ref qLo, .ref qLe, .ref qNa, .ref qNs, .ref qSt, .ref qSa, .ref qCo, .ref qWr, .int (iI to), .int (iI nw), .int (iI bt), .int (iI r_27), .ref qLn, .ref qSm, .ref qCd, .ref qSc, .int (iI sy), .int (iI di), .int (iI th)]))] H := hP
          have hD : va_D A [(qPk, .inl (cPk, 64, .inr (.inl (fun k => lI (fPk k))))), (qSz, .inl (cSz, 64, .inr (.inl fSz))), (qCo, .inl (cCo, 64, .inl (fun k => iI (fCo k)))), (qWr, .inl (cWr, 40000, .inl fWr)), (qm, .inr (8, [.ref qT, .int (iI len), .int (iI op), .int (iI fp), .int (iI bu), .int (iI ra), .int (iI en), .ref qMe, .ref qPk, .ref qSz, .ref qSu, .ref qDa, .ref qLo, .ref qLe, .ref qNa, .ref qNs, .ref qSt, .ref qSa, .ref qCo, .ref qWr, .int (iI to), .int (iI nw), .int (iI bt), .int (iI r_27), .ref qLn, .ref qSm, .ref qCd, .ref qSc, .int (iI sy), .int (iI di), .int (iI th)]))] := hD
          have hK : va_K D zcl [(cPk, .long), (cSz, .long), (cCo, .int), (cWr, .byte)] s := hK
          obtain ⟨he_30, hp29⟩ := hp29
          subst he_30
          have hP := hP.sub (ws' := [(qm, .inr (8, [.ref qT, .int (iI len), .int (iI op), .int (iI fp), .int (iI bu), .int (iI ra), .int (iI en), .ref qMe, .ref qPk, .ref qSz, .ref qSu, .ref qDa, .ref qLo, .ref qLe, .ref qNa, .ref qNs, .ref qSt, .ref qSa, .ref qCo, .ref qWr, .int (iI to), .int (iI nw), .int (iI bt), .int (iI r_27), .ref qLn, .ref qSm, .ref qCd, .ref qSc, .int (iI sy), .int (iI di), .int (iI th)])), (qPk, .inl (cPk, 64, .inr (.inl (fun k => lI (fPk k))))), (qSz, .inl (cSz, 64, .inr (.inl fSz))), (qCo, .inl (cCo, 64, .inl (fun k => iI (fCo k)))), (qWr, .inl (cWr, 40000, .inl fWr))]) [4, 0, 1, 2, 3] rfl
          have hD := hD.sub (ws' := [(qm, .inr (8, [.ref qT, .int (iI len), .int (iI op), .int (iI fp), .int (iI bu), .int (iI ra), .int (iI en), .ref qMe, .ref qPk, .ref qSz, .ref qSu, .ref qDa, .ref qLo, .ref qLe, .ref qNa, .ref qNs, .ref qSt, .ref qSa, .ref qCo, .ref qWr, .int (iI to), .int (iI nw), .int (iI bt), .int (iI r_27), .ref qLn, .ref qSm, .ref qCd, .ref qSc, .int (iI sy), .int (iI di), .int (iI th)])), (qPk, .inl (cPk, 64, .inr (.inl (fun k => lI (fPk k))))), (qSz, .inl (cSz, 64, .inr (.inl fSz))), (qCo, .inl (cCo, 64, .inl (fun k => iI (fCo k)))), (qWr, .inl (cWr, 40000, .inl fWr))]) [4, 0, 1, 2, 3] (by decide) rfl
          have hK := hK.sub (tys' := [(cPk, .long), (cSz, .long), (cCo, .int), (cWr, .byte)]) [0, 1, 2, 3] rfl
          exact zretz hx hb hr hlk hK hP hD hS (to, r_27, 0, fCo, fWr) [0, 1, 2, 3, 4] [0, 1, 2, 3] rfl (by decide) rfl (⟨rfl, ⟨fun _ _ => rfl, Or.inr ⟨by omega, by unfold zWc; split <;> (try split) <;> (try split) <;> omega, Or.inr ⟨by omega, rfl, rfl, rfl⟩⟩, by omega⟩⟩) (zn01 (by omega)) (Nat.le_of_ble_eq_true rfl) (Nat.le_of_ble_eq_true rfl) d_M_write_78
      · skip
        refine lv_aload_n hx hb d_M_write_32 rfl (lv_at hl 0 rfl) ?_
        refine lv_bipush (v := iI 20) hx hb d_M_write_33 (by decide) ?_
        refine zji (wr := [(qPk, .inl (cPk, 64, .inr (.inl (fun k => lI (fPk k))))), (qSz, .inl (cSz, 64, .inr (.inl fSz))), (qCo, .inl (cCo, 64, .inl (fun k => iI (fCo k)))), (qWr, .inl (cWr, 40000, .inl fWr))]) (va_runV (As := [.int (iI 20)]) (rest := []) ⟨hx, hb, hml, hown, ht⟩ (m_refuse l D _ qm qT len op fp bu ra en qMe qPk qSz qSu qDa qLo qLe qNa qNs qSt qSa qCo qWr to nw bt rf qLn qSm qCd qSc sy di th 20 (by omega)) (cwV 1 ht (zt_goodV zm_965 zm_966 zm_52 zm_79 zm_967) rfl rfl rfl (by decide +kernel) ⟨Nat.le_of_ble_eq_true rfl, Nat.le_of_ble_eq_true rfl⟩) (zpreV zBlind_t hK hP hD [0] [] rfl (by decide) rfl (fun _ _ _ => trivial) (va_recv (q := ("ZipGuardModel", F_M, 31)) hK hP rfl (q0 := 0) (ci := 8) rfl)) rfl rfl hl.1 rfl (lv_room (Nat.le_of_ble_eq_true rfl)) d_M_write_35 ⟨Nat.le_of_ble_eq_true rfl, Nat.le_of_ble_eq_true rfl⟩) hK hP hD hS hA [0] [1, 2, 3, 4] rfl rfl (by decide) (by decide) (fun r32 u9 H locs hp33 hP hD hK hS => ?_)
        obtain ⟨r_31, rfl⟩ : ∃ z, z = u9 := ⟨u9, rfl⟩
        dsimp only at hp33 hP hD hK
        have hP : va_P D zcl [(qPk, .inl (cPk, 64, .inr (.inl (fun k => lI (fPk k))))), (qSz, .inl (cSz, 64, .inr (.inl fSz))), (qCo, .inl (cCo, 64, .inl (fun k => iI (fCo k)))), (qWr, .inl (cWr, 40000, .inl fWr)), (qm, .inr (8, [.ref qT, .int (iI len), .int (iI op), .int (iI fp), .int (iI bu), .int (iI ra), .int (iI en), .ref qMe, .ref qPk, .ref qSz, .ref qSu, .ref qDa, .ref qLo, .ref qLe, .ref qNa, .ref qNs, .ref qSt, .ref qSa, .ref qCo, .ref qWr, .int (iI to), .int (iI nw), .int (iI bt), .int (iI r_31), .ref qLn, .ref qSm, .ref qCd, .ref qSc, .int (iI sy), .int (iI di), .int (iI th)]))] H := hP
        have hD : va_D A [(qPk, .inl (cPk, 64, .inr (.inl (fun k => lI (fPk k))))), (qSz, .inl (cSz, 64, .inr (.inl fSz))), (qCo, .inl (cCo, 64, .inl (fun k => iI (fCo k)))), (qWr, .inl (cWr, 40000, .inl fWr)), (qm, .inr (8, [.ref qT, .int (iI len), .int (iI op), .int (iI fp), .int (iI bu), .int (iI ra), .int (iI en), .ref qMe, .ref qPk, .ref qSz, .ref qSu, .ref qDa, .ref qLo, .ref qLe, .ref qNa, .ref qNs, .ref qSt, .ref qSa, .ref qCo, .ref qWr, .int (iI to), .int (iI nw), .int (iI bt), .int (iI r_31), .ref qLn, .ref qSm, .ref qCd, .ref qSc, .int (iI sy), .int (iI di), .int (iI th)]))] := hD
        have hK : va_K D zcl [(cPk, .long), (cSz, .long), (cCo, .int), (cWr, .byte)] s := hK
        obtain ⟨he_34, hp33⟩ := hp33
        subst he_34
        have hP := hP.sub (ws' := [(qm, .inr (8, [.ref qT, .int (iI len), .int (iI op), .int (iI fp), .int (iI bu), .int (iI ra), .int (iI en), .ref qMe, .ref qPk, .ref qSz, .ref qSu, .ref qDa, .ref qLo, .ref qLe, .ref qNa, .ref qNs, .ref qSt, .ref qSa, .ref qCo, .ref qWr, .int (iI to), .int (iI nw), .int (iI bt), .int (iI r_31), .ref qLn, .ref qSm, .ref qCd, .ref qSc, .int (iI sy), .int (iI di), .int (iI th)])), (qPk, .inl (cPk, 64, .inr (.inl (fun k => lI (fPk k))))), (qSz, .inl (cSz, 64, .inr (.inl fSz))), (qCo, .inl (cCo, 64, .inl (fun k => iI (fCo k)))), (qWr, .inl (cWr, 40000, .inl fWr))]) [4, 0, 1, 2, 3] rfl
        have hD := hD.sub (ws' := [(qm, .inr (8, [.ref qT, .int (iI len), .int (iI op), .int (iI fp), .int (iI bu), .int (iI ra), .int (iI en), .ref qMe, .ref qPk, .ref qSz, .ref qSu, .ref qDa, .ref qLo, .ref qLe, .ref qNa, .ref qNs, .ref qSt, .ref qSa, .ref qCo, .ref qWr, .int (iI to), .int (iI nw), .int (iI bt), .int (iI r_31), .ref qLn, .ref qSm, .ref qCd, .ref qSc, .int (iI sy), .int (iI di), .int (iI th)])), (qPk, .inl (cPk, 64, .inr (.inl (fun k => lI (fPk k))))), (qSz, .inl (cSz, 64, .inr (.inl fSz))), (qCo, .inl (cCo, 64, .inl (fun k => iI (fCo k)))), (qWr, .inl (cWr, 40000, .inl fWr))]) [4, 0, 1, 2, 3] (by decide) rfl
        have hK := hK.sub (tys' := [(cPk, .long), (cSz, .long), (cCo, .int), (cWr, .byte)]) [0, 1, 2, 3] rfl
        exact zretz hx hb hr hlk hK hP hD hS (to, r_31, 0, fCo, fWr) [0, 1, 2, 3, 4] [0, 1, 2, 3] rfl (by decide) rfl (⟨rfl, ⟨fun _ _ => rfl, Or.inr ⟨by omega, by unfold zWc; split <;> (try split) <;> (try split) <;> omega, Or.inr ⟨by omega, rfl, rfl, rfl⟩⟩, by omega⟩⟩) (zn01 (by omega)) (Nat.le_of_ble_eq_true rfl) (Nat.le_of_ble_eq_true rfl) d_M_write_38
    · skip
      refine lv_iconst (v := iI 0) hx hb d_M_write_7 (by decide) ?_
      exact zretz hx hb hr hlk hK hP hD hS (to, rf, 0, fCo, fWr) [0, 1, 2, 3, 4] [0, 1, 2, 3] rfl (by decide) rfl (⟨rfl, ⟨fun _ _ => rfl, Or.inl ⟨by omega, rfl, rfl, rfl, rfl⟩, by omega⟩⟩) (zn01 (by omega)) (Nat.le_of_ble_eq_true rfl) (Nat.le_of_ble_eq_true rfl) d_M_write_8)
set_option maxHeartbeats 4000000 in
set_option maxRecDepth 100000 in
theorem m_bits (l : Launch) (D : va_G) (sz : Nat) (qm : Nat) (qT : Nat) (len : Int) (op : Int) (fp : Int) (bu : Int) (ra : Int) (en : Int) (qMe : Nat) (qPk : Nat) (qSz : Nat) (qSu : Nat) (qDa : Nat) (qLo : Nat) (qLe : Nat) (qNa : Nat) (qNs : Nat) (qSt : Nat) (qSa : Nat) (qCo : Nat) (qWr : Nat) (to : Int) (nw : Int) (bt : Int) (rf : Int) (qLn : Nat) (qSm : Nat) (qCd : Nat) (qSc : Nat) (sy : Int) (di : Int) (th : Int) (cT : ClassId) (fT : Nat → Int32) (cPk : ClassId) (fPk : Nat → Int) (cDa : ClassId) (fDa : Nat → Int) (n : Int) (hnw : 0 ≤ nw ∧ nw < 64) (hrf : -2147483648 ≤ rf ∧ rf ≤ 2147483647) (hpk : 0 ≤ fPk nw.toNat ∧ fPk nw.toNat ≤ 20000) (hda : 0 ≤ fDa nw.toNat ∧ fDa nw.toNat + fPk nw.toNat ≤ 20000) (hbt : 0 ≤ bt ∧ bt ≤ 8 * fPk nw.toNat) (hn : 0 ≤ n ∧ n ≤ 16) : Met l y_M_bits (Cond.code y_M_bits prog_10_method_30_code 4 (Option.some Jvm.ClassFile.FieldType.int) :: zt) { frames := 1, cells := 0, slots := 0, locals := 22 } (zPc [.ref qm, .int (iI n)] D [(qm, .inr (8, [.ref qT, .int (iI len), .int (iI op), .int (iI fp), .int (iI bu), .int (iI ra), .int (iI en), .ref qMe, .ref qPk, .ref qSz, .ref qSu, .ref qDa, .ref qLo, .ref qLe, .ref qNa, .ref qNs, .ref qSt, .ref qSa, .ref qCo, .ref qWr, .int (iI to), .int (iI nw), .int (iI bt), .int (iI rf), .ref qLn, .ref qSm, .ref qCd, .ref qSc, .int (iI sy), .int (iI di), .int (iI th)])), (qT, .inl (cT, 20000, .inl fT)), (qPk, .inl (cPk, 64, .inr (.inl (fun k => lI (fPk k))))), (qDa, .inl (cDa, 64, .inl (fun k => iI (fDa k))))] [(cT, .byte), (cPk, .long), (cDa, .int)] sz (fun _ => True)) (va_Qi (fun (r : Int32) => fun (u9 : Int × Int × Int) => match u9 with | (b1, r1, x) => r = (iI x) ∧ ((zBr fT (8 * fDa nw.toNat + bt) (8 * (fDa nw.toNat + fPk nw.toNat)) n x rf r1) ∧ 0 ≤ x ∧ x < zp n ∧ bt ≤ b1 ∧ b1 ≤ 8 * fPk nw.toNat ∧ (-2147483648 ≤ r1 ∧ r1 ≤ 2147483647) ∧ (r1 = 0 → rf = 0 ∧ b1 = bt + n) ∧ (¬ r1 = 0 → x = 0) ∧ (¬ rf = 0 → r1 = rf))) (fun u9 t => zB D ((fun (u9 : Int × Int × Int) => match u9 with | (b1, r1, x) => [(qm, .inr (8, [.ref qT, .int (iI len), .int (iI op), .int (iI fp), .int (iI bu), .int (iI ra), .int (iI en), .ref qMe, .ref qPk, .ref qSz, .ref qSu, .ref qDa, .ref qLo, .ref qLe, .ref qNa, .ref qNs, .ref qSt, .ref qSa, .ref qCo, .ref qWr, .int (iI to), .int (iI nw), .int (iI b1), .int (iI r1), .ref qLn, .ref qSm, .ref qCd, .ref qSc, .int (iI sy), .int (iI di), .int (iI th)])), (qT, .inl (cT, 20000, .inl fT)), (qPk, .inl (cPk, 64, .inr (.inl (fun k => lI (fPk k))))), (qDa, .inl (cDa, 64, .inl (fun k => iI (fDa k))))]) u9) ((fun (u9 : Int × Int × Int) => match u9 with | (b1, r1, x) => [(cT, .byte), (cPk, .long), (cDa, .int)]) u9) (va_A [(qm, .inr (8, [.ref qT, .int (iI len), .int (iI op), .int (iI fp), .int (iI bu), .int (iI ra), .int (iI en), .ref qMe, .ref qPk, .ref qSz, .ref qSu, .ref qDa, .ref qLo, .ref qLe, .ref qNa, .ref qNs, .ref qSt, .ref qSa, .ref qCo, .ref qWr, .int (iI to), .int (iI nw), .int (iI bt), .int (iI rf), .ref qLn, .ref qSm, .ref qCd, .ref qSc, .int (iI sy), .int (iI di), .int (iI th)])), (qT, .inl (cT, 20000, .inl fT)), (qPk, .inl (cPk, 64, .inr (.inl (fun k => lI (fPk k))))), (qDa, .inl (cDa, 64, .inl (fun k => iI (fDa k))))] sz) t) (va_A [(qm, .inr (8, [.ref qT, .int (iI len), .int (iI op), .int (iI fp), .int (iI bu), .int (iI ra), .int (iI en), .ref qMe, .ref qPk, .ref qSz, .ref qSu, .ref qDa, .ref qLo, .ref qLe, .ref qNa, .ref qNs, .ref qSt, .ref qSa, .ref qCo, .ref qWr, .int (iI to), .int (iI nw), .int (iI bt), .int (iI rf), .ref qLn, .ref qSm, .ref qCd, .ref qSc, .int (iI sy), .int (iI di), .int (iI th)])), (qT, .inl (cT, 20000, .inl fT)), (qPk, .inl (cPk, 64, .inr (.inl (fun k => lI (fPk k))))), (qDa, .inl (cDa, 64, .inl (fun k => iI (fDa k))))] sz)) 0 0 (va_A [(qm, .inr (8, [.ref qT, .int (iI len), .int (iI op), .int (iI fp), .int (iI bu), .int (iI ra), .int (iI en), .ref qMe, .ref qPk, .ref qSz, .ref qSu, .ref qDa, .ref qLo, .ref qLe, .ref qNa, .ref qNs, .ref qSt, .ref qSa, .ref qCo, .ref qWr, .int (iI to), .int (iI nw), .int (iI bt), .int (iI rf), .ref qLn, .ref qSm, .ref qCd, .ref qSc, .int (iI sy), .int (iI di), .int (iI th)])), (qT, .inl (cT, 20000, .inl fT)), (qPk, .inl (cPk, 64, .inr (.inl (fun k => lI (fPk k))))), (qDa, .inl (cDa, 64, .inl (fun k => iI (fDa k))))] sz) :=
  zMet (Qf := fun A => va_Qi (fun (r : Int32) => fun (u9 : Int × Int × Int) => match u9 with | (b1, r1, x) => r = (iI x) ∧ ((zBr fT (8 * fDa nw.toNat + bt) (8 * (fDa nw.toNat + fPk nw.toNat)) n x rf r1) ∧ 0 ≤ x ∧ x < zp n ∧ bt ≤ b1 ∧ b1 ≤ 8 * fPk nw.toNat ∧ (-2147483648 ≤ r1 ∧ r1 ≤ 2147483647) ∧ (r1 = 0 → rf = 0 ∧ b1 = bt + n) ∧ (¬ r1 = 0 → x = 0) ∧ (¬ rf = 0 → r1 = rf))) (fun u9 t => zB D ((fun (u9 : Int × Int × Int) => match u9 with | (b1, r1, x) => [(qm, .inr (8, [.ref qT, .int (iI len), .int (iI op), .int (iI fp), .int (iI bu), .int (iI ra), .int (iI en), .ref qMe, .ref qPk, .ref qSz, .ref qSu, .ref qDa, .ref qLo, .ref qLe, .ref qNa, .ref qNs, .ref qSt, .ref qSa, .ref qCo, .ref qWr, .int (iI to), .int (iI nw), .int (iI b1), .int (iI r1), .ref qLn, .ref qSm, .ref qCd, .ref qSc, .int (iI sy), .int (iI di), .int (iI th)])), (qT, .inl (cT, 20000, .inl fT)), (qPk, .inl (cPk, 64, .inr (.inl (fun k => lI (fPk k))))), (qDa, .inl (cDa, 64, .inl (fun k => iI (fDa k))))]) u9) ((fun (u9 : Int × Int × Int) => match u9 with | (b1, r1, x) => [(cT, .byte), (cPk, .long), (cDa, .int)]) u9) A t) A) (by decide) (Nat.le_of_ble_eq_true rfl) (fun p e s m below meth c A ls hx hb hr hml hown ht hlk hnm hA hK hP hD hX hl => by
    have hS : va_S A s.heap s.heap [] := va_S.rf
    have hl : lv_has ls 4 [(0, .ref qm), (1, .int (iI n))] := hl
    have hzp := zp_pos n
    refine lv_iconst (v := iI 0) hx hb d_M_bits_0 (by decide) ?_
    refine lv_istore_n (lv' := [(2, .int (iI 0)), (0, .ref qm), (1, .int (iI n))]) hx hb d_M_bits_1 rfl hl (by decide) rfl (fun ls hl => ?_)
    refine lv_iconst (v := iI 0) hx hb d_M_bits_2 (by decide) ?_
    refine lv_istore_n (lv' := [(3, .int (iI 0)), (2, .int (iI 0)), (0, .ref qm), (1, .int (iI n))]) hx hb d_M_bits_3 rfl hl (by decide) rfl (fun ls hl => ?_)
    have lp4 : ∀ (j : Nat) (k : Int) (v : Int) (b2 : Int) (H : Heap) (locs : List Loc) (ls : Array Slot), (0 ≤ k ∧ k ≤ n) → (0 ≤ v ∧ v < zp k) → (v = zbsI fT (8 * fDa nw.toNat + bt) k) → (b2 = bt + k ∧ b2 ≤ 8 * fPk nw.toNat) → (rf = 0 ∨ k = 0) → (n - k < (j : Int)) → va_P D zcl [(qm, .inr (8, [.ref qT, .int (iI len), .int (iI op), .int (iI fp), .int (iI bu), .int (iI ra), .int (iI en), .ref qMe, .ref qPk, .ref qSz, .ref qSu, .ref qDa, .ref qLo, .ref qLe, .ref qNa, .ref qNs, .ref qSt, .ref qSa, .ref qCo, .ref qWr, .int (iI to), .int (iI nw), .int (iI b2), .int (iI rf), .ref qLn, .ref qSm, .ref qCd, .ref qSc, .int (iI sy), .int (iI di), .int (iI th)])), (qT, .inl (cT, 20000, .inl fT)), (qPk, .inl (cPk, 64, .inr (.inl (fun k => lI (fPk k))))), (qDa, .inl (cDa, 64, .inl (fun k => iI (fDa k))))] H → va_D A [(qm, .inr (8, [.ref qT, .int (iI len), .int (iI op), .int (iI fp), .int (iI bu), .int (iI ra), .int (iI en), .ref qMe, .ref qPk, .ref qSz, .ref qSu, .ref qDa, .ref qLo, .ref qLe, .ref qNa, .ref qNs, .ref qSt, .ref qSa, .ref qCo, .ref qWr, .int (iI to), .int (iI nw), .int (iI b2), .int (iI rf), .ref qLn, .ref qSm, .ref qCd, .ref qSc, .int (iI sy), .int (iI di), .int (iI th)])), (qT, .inl (cT, 20000, .inl fT)), (qPk, .inl (cPk, 64, .inr (.inl (fun k => lI (fPk k))))), (qDa, .inl (cDa, 64, .inl (fun k => iI (fDa k))))] → va_S A s.heap H locs → lv_has ls 4 [(3, .int (iI k)), (2, .int (iI v)), (0, .ref qm), (1, .int (iI n))] → W p l e { frames := 1, cells := 0, slots := 0, locals := 22 } s m [.ref qm, .int (iI n)].toArray below meth c H locs 0 0 (MQ below ((fun A => va_Qi (fun (r : Int32) => fun (u9 : Int × Int × Int) => match u9 with | (b1, r1, x) => r = (iI x) ∧ ((zBr fT (8 * fDa nw.toNat + bt) (8 * (fDa nw.toNat + fPk nw.toNat)) n x rf r1) ∧ 0 ≤ x ∧ x < zp n ∧ bt ≤ b1 ∧ b1 ≤ 8 * fPk nw.toNat ∧ (-2147483648 ≤ r1 ∧ r1 ≤ 2147483647) ∧ (r1 = 0 → rf = 0 ∧ b1 = bt + n) ∧ (¬ r1 = 0 → x = 0) ∧ (¬ rf = 0 → r1 = rf))) (fun u9 t => zB D ((fun (u9 : Int × Int × Int) => match u9 with | (b1, r1, x) => [(qm, .inr (8, [.ref qT, .int (iI len), .int (iI op), .int (iI fp), .int (iI bu), .int (iI ra), .int (iI en), .ref qMe, .ref qPk, .ref qSz, .ref qSu, .ref qDa, .ref qLo, .ref qLe, .ref qNa, .ref qNs, .ref qSt, .ref qSa, .ref qCo, .ref qWr, .int (iI to), .int (iI nw), .int (iI b1), .int (iI r1), .ref qLn, .ref qSm, .ref qCd, .ref qSc, .int (iI sy), .int (iI di), .int (iI th)])), (qT, .inl (cT, 20000, .inl fT)), (qPk, .inl (cPk, 64, .inr (.inl (fun k => lI (fPk k))))), (qDa, .inl (cDa, 64, .inl (fun k => iI (fDa k))))]) u9) ((fun (u9 : Int × Int × Int) => match u9 with | (b1, r1, x) => [(cT, .byte), (cPk, .long), (cDa, .int)]) u9) A t) A) A) [.ref qm, .int (iI n)].toArray s 0 0 A) (F0 m 4 ls []) := by
      intro j
      induction j with
      | zero => intro k v b2 H locs ls hk1 hv1 hv2 hb2 hr2 hj4 hP hD hS hl; exfalso; omega
      | succ j ih4 =>
        intro k v b2 H locs ls hk1 hv1 hv2 hb2 hr2 hj4 hP hD hS hl
        refine lv_iload_n hx hb d_M_bits_4 rfl (lv_at hl 0 rfl) ?_
        refine lv_iload_n hx hb d_M_bits_5 rfl (lv_at hl 3 rfl) ?_
        refine zv_icmp_ge (tgt := 100) hx hb d_M_bits_6 (by decide) (by omega) (by omega) (fun hc_1 => ?_) (fun hc_1 => ?_)
        · skip
          refine lv_aload_n hx hb d_M_bits_100 rfl (lv_at hl 2 rfl) ?_
          refine va_get (ci := 8) (C := "ZipGuardModel") (T := F_M) (N := 31) hx hb ht zi_M hown hK hP 0 rfl rfl 23 (by decide) (ht _ zm_775) (fun _ h9 => h9) rfl d_M_bits_101 ?_
          refine zv_if_ne (tgt := 111) hx hb d_M_bits_104 (by decide) (by omega) (fun hc_2 => ?_) (fun hc_2 => ?_)
          · skip
            refine lv_iconst (v := iI 0) hx hb d_M_bits_111 (by decide) ?_
            exact zreti hx hb hr hlk hK hP hD hS (b2, rf, 0) [0, 1, 2, 3] [0, 1, 2] rfl (by decide) rfl (⟨rfl, ⟨Or.inl ⟨by omega, by omega, rfl⟩, by omega⟩⟩) (Nat.le_of_ble_eq_true rfl) (Nat.le_of_ble_eq_true rfl) d_M_bits_112
          · skip
            refine lv_iload_n hx hb d_M_bits_107 rfl (lv_at hl 1 rfl) ?_
            refine lv_goto (tgt := 112) hx hb d_M_bits_108 (by decide) ?_
            exact zreti hx hb hr hlk hK hP hD hS (b2, rf, v) [0, 1, 2, 3] [0, 1, 2] rfl (by decide) rfl (⟨rfl, ⟨Or.inr (Or.inl ⟨by omega, by omega, by omega, by rw [hv2, show k = n by omega]⟩), by have h9 : zp k = zp n := congrArg zp (by omega); omega⟩⟩) (Nat.le_of_ble_eq_true rfl) (Nat.le_of_ble_eq_true rfl) d_M_bits_112
        · skip
          refine lv_aload_n hx hb d_M_bits_9 rfl (lv_at hl 2 rfl) ?_
          refine va_get (ci := 8) (C := "ZipGuardModel") (T := F_M) (N := 31) hx hb ht zi_M hown hK hP 0 rfl rfl 23 (by decide) (ht _ zm_775) (fun _ h9 => h9) rfl d_M_bits_10 ?_
          refine zv_if_ne (tgt := 100) hx hb d_M_bits_13 (by decide) (by omega) (fun hc_3 => ?_) (fun hc_3 => ?_)
          · skip
            refine lv_aload_n hx hb d_M_bits_100 rfl (lv_at hl 2 rfl) ?_
            refine va_get (ci := 8) (C := "ZipGuardModel") (T := F_M) (N := 31) hx hb ht zi_M hown hK hP 0 rfl rfl 23 (by decide) (ht _ zm_775) (fun _ h9 => h9) rfl d_M_bits_101 ?_
            refine zv_if_ne (tgt := 111) hx hb d_M_bits_104 (by decide) (by omega) (fun hc_4 => ?_) (fun hc_4 => ?_)
            · skip
              refine lv_iconst (v := iI 0) hx hb d_M_bits_111 (by decide) ?_
              exact zreti hx hb hr hlk hK hP hD hS (b2, rf, 0) [0, 1, 2, 3] [0, 1, 2] rfl (by decide) rfl (⟨rfl, ⟨Or.inl ⟨by omega, by omega, rfl⟩, by omega⟩⟩) (Nat.le_of_ble_eq_true rfl) (Nat.le_of_ble_eq_true rfl) d_M_bits_112
            · skip
              refine lv_iload_n hx hb d_M_bits_107 rfl (lv_at hl 1 rfl) ?_
              refine lv_goto (tgt := 112) hx hb d_M_bits_108 (by decide) ?_
              exact zreti hx hb hr hlk hK hP hD hS (b2, rf, v) [0, 1, 2, 3] [0, 1, 2] rfl (by decide) rfl (⟨rfl, ⟨Or.inr (Or.inl ⟨by omega, by omega, by omega, by rw [hv2, show k = n by omega]⟩), by have h9 : zp k = zp n := congrArg zp (by omega); omega⟩⟩) (Nat.le_of_ble_eq_true rfl) (Nat.le_of_ble_eq_true rfl) d_M_bits_112
          · skip
            refine lv_aload_n hx hb d_M_bits_16 rfl (lv_at hl 2 rfl) ?_
            refine va_get (ci := 8) (C := "ZipGuardModel") (T := F_M) (N := 31) hx hb ht zi_M hown hK hP 0 rfl rfl 22 (by decide) (ht _ zm_774) (fun _ h9 => h9) rfl d_M_bits_17 ?_
            refine zv_i2l hx hb d_M_bits_20 (by omega) ?_
            refine lv_ldc2 (v := 8) hx hb hown (ht _ zm_904) d_M_bits_21 ?_
            refine zv_litL 8 (by decide) ?_
            refine lv_aload_n hx hb d_M_bits_24 rfl (lv_at hl 2 rfl) ?_
            refine va_get (ci := 8) (C := "ZipGuardModel") (T := F_M) (N := 31) hx hb ht zi_M hown hK hP 0 rfl rfl 8 (by decide) (ht _ zm_760) (fun _ h9 => h9) rfl d_M_bits_25 ?_
            refine lv_aload_n hx hb d_M_bits_28 rfl (lv_at hl 2 rfl) ?_
            refine va_get (ci := 8) (C := "ZipGuardModel") (T := F_M) (N := 31) hx hb ht zi_M hown hK hP 0 rfl rfl 21 (by decide) (ht _ zm_773) (fun _ h9 => h9) rfl d_M_bits_29 ?_
            refine zv_lald hx hb hK hP 2 1 rfl rfl (by omega) (by decide) d_M_bits_32 (fun x_5 hz_6 => ?_)
            refine zv_lmul (z := 8 * x_5) hx hb d_M_bits_33 (by omega) ?_
            refine zv_lcmp_lt (tgt := 47) hx hb d_M_bits_34 d_M_bits_35 (by decide) (by omega) (by omega) (fun hc_7 => ?_) (fun hc_7 => ?_)
            · skip
              refine lv_iload_n hx hb d_M_bits_47 rfl (lv_at hl 1 rfl) ?_
              refine lv_aload_n hx hb d_M_bits_48 rfl (lv_at hl 2 rfl) ?_
              refine lv_aload_n hx hb d_M_bits_49 rfl (lv_at hl 2 rfl) ?_
              refine va_get (ci := 8) (C := "ZipGuardModel") (T := F_M) (N := 31) hx hb ht zi_M hown hK hP 0 rfl rfl 11 (by decide) (ht _ zm_763) (fun _ h9 => h9) rfl d_M_bits_50 ?_
              refine lv_aload_n hx hb d_M_bits_53 rfl (lv_at hl 2 rfl) ?_
              refine va_get (ci := 8) (C := "ZipGuardModel") (T := F_M) (N := 31) hx hb ht zi_M hown hK hP 0 rfl rfl 21 (by decide) (ht _ zm_773) (fun _ h9 => h9) rfl d_M_bits_54 ?_
              refine zv_iald hx hb hK hP 3 2 rfl rfl (by omega) (by decide) d_M_bits_57 (fun x_8 hz_9 => ?_)
              refine lv_aload_n hx hb d_M_bits_58 rfl (lv_at hl 2 rfl) ?_
              refine va_get (ci := 8) (C := "ZipGuardModel") (T := F_M) (N := 31) hx hb ht zi_M hown hK hP 0 rfl rfl 22 (by decide) (ht _ zm_774) (fun _ h9 => h9) rfl d_M_bits_59 ?_
              refine lv_bipush (v := iI 8) hx hb d_M_bits_62 (by decide) ?_
              refine zv_idiv hx hb d_M_bits_64 (by omega) (by omega) rfl ?_
              refine zv_nm (fun x_10 hz_11 => ?_)
              refine zv_iadd (z := x_8 + x_10) hx hb d_M_bits_65 (by omega) ?_
              refine zv_i2l hx hb d_M_bits_66 (by omega) ?_
              refine zjR (va_runV (As := [.long (lI (x_8 + x_10))]) (rest := [.int (iI v)]) ⟨hx, hb, hml, hown, ht⟩ (m_at l D qm qT len op fp bu ra en qMe qPk qSz qSu qDa qLo qLe qNa qNs qSt qSa qCo qWr to nw b2 rf qLn qSm qCd qSc sy di th cT fT (x_8 + x_10) (by omega)) (cwV 1 ht (zt_goodV zm_882 zm_883 zm_35 zm_79 zm_884) rfl rfl rfl (by decide +kernel) ⟨Nat.le_of_ble_eq_true rfl, Nat.le_of_ble_eq_true rfl⟩) (zpreRV zBlind_t hK hP [0, 1] [0] rfl rfl (fun _ _ _ => trivial) (va_recv (q := ("ZipGuardModel", F_M, 31)) hK hP rfl (q0 := 0) (ci := 8) rfl)) rfl rfl hl.1 rfl (lv_room (Nat.le_of_ble_eq_true rfl)) d_M_bits_67 ⟨Nat.le_of_ble_eq_true rfl, Nat.le_of_ble_eq_true rfl⟩) (fun r12 hp13 => ?_)
              obtain ⟨x_14, he_15, hp13⟩ := hp13
              subst he_15
              refine lv_aload_n hx hb d_M_bits_70 rfl (lv_at hl 2 rfl) ?_
              refine va_get (ci := 8) (C := "ZipGuardModel") (T := F_M) (N := 31) hx hb ht zi_M hown hK hP 0 rfl rfl 22 (by decide) (ht _ zm_774) (fun _ h9 => h9) rfl d_M_bits_71 ?_
              refine lv_bipush (v := iI 8) hx hb d_M_bits_74 (by decide) ?_
              refine zv_irem hx hb d_M_bits_76 (by omega) (by omega) rfl ?_
              refine zv_nm (fun x_16 hz_17 => ?_)
              refine zv_ishrx hx hb d_M_bits_77 (by omega) (by omega) rfl ?_
              refine zv_nm (fun x_18 hz_19 => ?_)
              have hdv_20 := zdivp (x := x_14) x_16 (by omega)
              refine lv_iconst (v := iI 1) hx hb d_M_bits_78 (by decide) ?_
              refine zv_and1 hx hb d_M_bits_79 (by omega) rfl ?_
              refine zv_nm (fun x_21 hz_22 => ?_)
              have hbit : x_21 = zbI fT (8 * fDa nw.toNat + b2) := by rw [hz_22, hz_19, hp13.1, hz_17, hz_11, hz_9]; exact zbI_at (by omega) (by omega)
              have hbb := zbI_b fT (8 * fDa nw.toNat + b2)
              refine lv_iload_n hx hb d_M_bits_80 rfl (lv_at hl 0 rfl) ?_
              refine zv_bitorx hx hb d_M_bits_81 d_M_bits_82 (by omega) (by omega) (by omega) rfl ?_
              refine zv_nm (fun x_23 hz_24 => ?_)
              have hq_25 := zp_s (k := k) (by omega)
              have hv3 : x_23 = zbsI fT (8 * fDa nw.toNat + bt) (k + 1) := by rw [zbsI_s (by omega) (by omega), hz_24, hv2, hbit, show 8 * fDa nw.toNat + b2 = 8 * fDa nw.toNat + bt + k by omega]
              have hv4 := zbsI_b fT (8 * fDa nw.toNat + bt) (k + 1) (by omega)
              refine lv_istore_n (lv' := [(2, .int (iI x_23)), (3, .int (iI k)), (0, .ref qm), (1, .int (iI n))]) hx hb d_M_bits_83 rfl hl (by decide) rfl (fun ls hl => ?_)
              refine lv_aload_n hx hb d_M_bits_84 rfl (lv_at hl 2 rfl) ?_
              refine lv_dup hx hb d_M_bits_85 rfl ?_
              refine va_get (ci := 8) (C := "ZipGuardModel") (T := F_M) (N := 31) hx hb ht zi_M hown hK hP 0 rfl rfl 22 (by decide) (ht _ zm_774) (fun _ h9 => h9) rfl d_M_bits_86 ?_
              refine lv_iconst (v := iI 1) hx hb d_M_bits_89 (by decide) ?_
              refine zv_iadd (z := b2 + 1) hx hb d_M_bits_90 (by omega) ?_
              refine va_put (ci := 8) (v := .int (iI (b2 + 1))) (ty := .int) (C := "ZipGuardModel") (T := F_M) (N := 31) hx hb ht zi_M ty_M tk_M nm_M hown hK hP hD hS 0 rfl rfl 22 (by decide) (ht _ zm_774) (fun _ h9 => h9) rfl (by decide +kernel) rfl rfl (Nat.le_of_ble_eq_true rfl) d_M_bits_91 (fun H locs hP hD hS => ?_)
              have hP : va_P D zcl [(qm, .inr (8, [.ref qT, .int (iI len), .int (iI op), .int (iI fp), .int (iI bu), .int (iI ra), .int (iI en), .ref qMe, .ref qPk, .ref qSz, .ref qSu, .ref qDa, .ref qLo, .ref qLe, .ref qNa, .ref qNs, .ref qSt, .ref qSa, .ref qCo, .ref qWr, .int (iI to), .int (iI nw), .int (iI (b2 + 1)), .int (iI rf), .ref qLn, .ref qSm, .ref qCd, .ref qSc, .int (iI sy), .int (iI di), .int (iI th)])), (qT, .inl (cT, 20000, .inl fT)), (qPk, .inl (cPk, 64, .inr (.inl (fun k => lI (fPk k))))), (qDa, .inl (cDa, 64, .inl (fun k => iI (fDa k))))] H := hP
              have hD : va_D A [(qm, .inr (8, [.ref qT, .int (iI len), .int (iI op), .int (iI fp), .int (iI bu), .int (iI ra), .int (iI en), .ref qMe, .ref qPk, .ref qSz, .ref qSu, .ref qDa, .ref qLo, .ref qLe, .ref qNa, .ref qNs, .ref qSt, .ref qSa, .ref qCo, .ref qWr, .int (iI to), .int (iI nw), .int (iI (b2 + 1)), .int (iI rf), .ref qLn, .ref qSm, .ref qCd, .ref qSc, .int (iI sy), .int (iI di), .int (iI th)])), (qT, .inl (cT, 20000, .inl fT)), (qPk, .inl (cPk, 64, .inr (.inl (fun k => lI (fPk k))))), (qDa, .inl (cDa, 64, .inl (fun k => iI (fDa k))))] := hD
              refine lv_iinc (k := 1) (v := iI (k + 1)) (lv' := [(3, .int (iI (k + 1))), (2, .int (iI x_23)), (0, .ref qm), (1, .int (iI n))]) hx hb d_M_bits_94 hl rfl (zinc (by omega)) (by decide) rfl (fun ls hl => ?_)
              refine lv_goto (tgt := 4) hx hb d_M_bits_97 (by decide) ?_
              exact ih4 (k + 1) x_23 (b2 + 1) _ _ _ (by omega) (by omega) hv3 (by omega) (by omega) (by omega) hP hD hS hl
            · skip
              refine lv_aload_n hx hb d_M_bits_38 rfl (lv_at hl 2 rfl) ?_
              refine lv_bipush (v := iI 30) hx hb d_M_bits_39 (by decide) ?_
              refine zji (wr := [(qT, .inl (cT, 20000, .inl fT)), (qPk, .inl (cPk, 64, .inr (.inl (fun k => lI (fPk k))))), (qDa, .inl (cDa, 64, .inl (fun k => iI (fDa k))))]) (va_runV (As := [.int (iI 30)]) (rest := []) ⟨hx, hb, hml, hown, ht⟩ (m_refuse l D _ qm qT len op fp bu ra en qMe qPk qSz qSu qDa qLo qLe qNa qNs qSt qSa qCo qWr to nw b2 rf qLn qSm qCd qSc sy di th 30 (by omega)) (cwV 1 ht (zt_goodV zm_965 zm_966 zm_52 zm_79 zm_967) rfl rfl rfl (by decide +kernel) ⟨Nat.le_of_ble_eq_true rfl, Nat.le_of_ble_eq_true rfl⟩) (zpreV zBlind_t hK hP hD [0] [] rfl (by decide) rfl (fun _ _ _ => trivial) (va_recv (q := ("ZipGuardModel", F_M, 31)) hK hP rfl (q0 := 0) (ci := 8) rfl)) rfl rfl hl.1 rfl (lv_room (Nat.le_of_ble_eq_true rfl)) d_M_bits_41 ⟨Nat.le_of_ble_eq_true rfl, Nat.le_of_ble_eq_true rfl⟩) hK hP hD hS hA [0] [1, 2, 3] rfl rfl (by decide) (by decide) (fun r27 u9 H locs hp28 hP hD hK hS => ?_)
              obtain ⟨r_26, rfl⟩ : ∃ z, z = u9 := ⟨u9, rfl⟩
              dsimp only at hp28 hP hD hK
              have hP : va_P D zcl [(qT, .inl (cT, 20000, .inl fT)), (qPk, .inl (cPk, 64, .inr (.inl (fun k => lI (fPk k))))), (qDa, .inl (cDa, 64, .inl (fun k => iI (fDa k)))), (qm, .inr (8, [.ref qT, .int (iI len), .int (iI op), .int (iI fp), .int (iI bu), .int (iI ra), .int (iI en), .ref qMe, .ref qPk, .ref qSz, .ref qSu, .ref qDa, .ref qLo, .ref qLe, .ref qNa, .ref qNs, .ref qSt, .ref qSa, .ref qCo, .ref qWr, .int (iI to), .int (iI nw), .int (iI b2), .int (iI r_26), .ref qLn, .ref qSm, .ref qCd, .ref qSc, .int (iI sy), .int (iI di), .int (iI th)]))] H := hP
              have hD : va_D A [(qT, .inl (cT, 20000, .inl fT)), (qPk, .inl (cPk, 64, .inr (.inl (fun k => lI (fPk k))))), (qDa, .inl (cDa, 64, .inl (fun k => iI (fDa k)))), (qm, .inr (8, [.ref qT, .int (iI len), .int (iI op), .int (iI fp), .int (iI bu), .int (iI ra), .int (iI en), .ref qMe, .ref qPk, .ref qSz, .ref qSu, .ref qDa, .ref qLo, .ref qLe, .ref qNa, .ref qNs, .ref qSt, .ref qSa, .ref qCo, .ref qWr, .int (iI to), .int (iI nw), .int (iI b2), .int (iI r_26), .ref qLn, .ref qSm, .ref qCd, .ref qSc, .int (iI sy), .int (iI di), .int (iI th)]))] := hD
              have hK : va_K D zcl [(cT, .byte), (cPk, .long), (cDa, .int)] s := hK
              obtain ⟨he_29, hp28⟩ := hp28
              subst he_29
              have hP := hP.sub (ws' := [(qm, .inr (8, [.ref qT, .int (iI len), .int (iI op), .int (iI fp), .int (iI bu), .int (iI ra), .int (iI en), .ref qMe, .ref qPk, .ref qSz, .ref qSu, .ref qDa, .ref qLo, .ref qLe, .ref qNa, .ref qNs, .ref qSt, .ref qSa, .ref qCo, .ref qWr, .int (iI to), .int (iI nw), .int (iI b2), .int (iI r_26), .ref qLn, .ref qSm, .ref qCd, .ref qSc, .int (iI sy), .int (iI di), .int (iI th)])), (qT, .inl (cT, 20000, .inl fT)), (qPk, .inl (cPk, 64, .inr (.inl (fun k => lI (fPk k))))), (qDa, .inl (cDa, 64, .inl (fun k => iI (fDa k))))]) [3, 0, 1, 2] rfl
              have hD := hD.sub (ws' := [(qm, .inr (8, [.ref qT, .int (iI len), .int (iI op), .int (iI fp), .int (iI bu), .int (iI ra), .int (iI en), .ref qMe, .ref qPk, .ref qSz, .ref qSu, .ref qDa, .ref qLo, .ref qLe, .ref qNa, .ref qNs, .ref qSt, .ref qSa, .ref qCo, .ref qWr, .int (iI to), .int (iI nw), .int (iI b2), .int (iI r_26), .ref qLn, .ref qSm, .ref qCd, .ref qSc, .int (iI sy), .int (iI di), .int (iI th)])), (qT, .inl (cT, 20000, .inl fT)), (qPk, .inl (cPk, 64, .inr (.inl (fun k => lI (fPk k))))), (qDa, .inl (cDa, 64, .inl (fun k => iI (fDa k))))]) [3, 0, 1, 2] (by decide) rfl
              have hK := hK.sub (tys' := [(cT, .byte), (cPk, .long), (cDa, .int)]) [0, 1, 2] rfl
              refine lv_pop hx hb d_M_bits_44 rfl ?_
              refine lv_iconst (v := iI 0) hx hb d_M_bits_45 (by decide) ?_
              exact zreti hx hb hr hlk hK hP hD hS (b2, r_26, 0) [0, 1, 2, 3] [0, 1, 2] rfl (by decide) rfl (⟨rfl, ⟨Or.inr (Or.inr ⟨by omega, by omega, by omega, rfl⟩), by omega⟩⟩) (Nat.le_of_ble_eq_true rfl) (Nat.le_of_ble_eq_true rfl) d_M_bits_46
    exact lp4 ((n - 0 + 1 : Int)).toNat 0 0 bt _ _ _ (by omega) (by have h9 := zp_pos 0; omega) rfl (by omega) (by omega) (by omega) hP hD hS hl)
set_option maxHeartbeats 4000000 in
set_option maxRecDepth 100000 in
theorem m_number (l : Launch) (D : va_G) (sz : Nat) (ar : Nat) (cR : ClassId) (NN : Nat) (g : Nat → Int) (ac : Nat) (cK : ClassId) (NK : Nat) (fk : Nat → Int32) (fm : Int) (n : Int) (d : Nat → Nat) (hN : NN < 2147483648) (hfn : 0 ≤ fm ∧ 0 ≤ n ∧ fm + n ≤ NN) (hg : ∀ k : Nat, 0 ≤ g k ∧ g k ≤ 15) (hNK : NK < 2147483648 ∧ fm + n ≤ NK) (hd : ∀ k : Int, 0 ≤ k → k < n → g (fm + k).toNat = (d k.toNat : Int)) : Met l y_M_number (Cond.code y_M_number prog_10_method_31_code 7 (Option.none : Option Jvm.ClassFile.FieldType) :: zt) { frames := 0, cells := 0, slots := 0, locals := 0 } (zPc [.ref ar, .ref ac, .int (iI fm), .int (iI n)] D [(ar, .inl (cR, NN, .inl (fun k => iI (g k)))), (ac, .inl (cK, NK, .inl fk))] [(cR, .int), (cK, .int)] sz (fun _ => True)) (va_Qv (fun (u9 : (Nat → Int32)) => match u9 with | fk1 => (zCk d n.toNat fm n fk1 16 0) ∧ (∀ i : Nat, ((i : Int) < fm ∨ fm + n ≤ i) → fk1 i = fk i)) (fun u9 t => zB D ((fun (u9 : (Nat → Int32)) => match u9 with | fk1 => [(ar, .inl (cR, NN, .inl (fun k => iI (g k)))), (ac, .inl (cK, NK, .inl fk1))]) u9) ((fun (u9 : (Nat → Int32)) => match u9 with | fk1 => [(cR, .int), (cK, .int)]) u9) (va_A [(ar, .inl (cR, NN, .inl (fun k => iI (g k)))), (ac, .inl (cK, NK, .inl fk))] sz) t) (va_A [(ar, .inl (cR, NN, .inl (fun k => iI (g k)))), (ac, .inl (cK, NK, .inl fk))] sz)) 0 0 (va_A [(ar, .inl (cR, NN, .inl (fun k => iI (g k)))), (ac, .inl (cK, NK, .inl fk))] sz) :=
  zMet (Qf := fun A => va_Qv (fun (u9 : (Nat → Int32)) => match u9 with | fk1 => (zCk d n.toNat fm n fk1 16 0) ∧ (∀ i : Nat, ((i : Int) < fm ∨ fm + n ≤ i) → fk1 i = fk i)) (fun u9 t => zB D ((fun (u9 : (Nat → Int32)) => match u9 with | fk1 => [(ar, .inl (cR, NN, .inl (fun k => iI (g k)))), (ac, .inl (cK, NK, .inl fk1))]) u9) ((fun (u9 : (Nat → Int32)) => match u9 with | fk1 => [(cR, .int), (cK, .int)]) u9) A t) A) (by decide) (Nat.le_of_ble_eq_true rfl) (fun p e s m below meth c A ls hx hb hr hml hown ht hlk hnm hA hK hP hD hX hl => by
    have hS : va_S A s.heap s.heap [] := va_S.rf
    have hl : lv_has ls 7 [(0, .ref ar), (1, .ref ac), (2, .int (iI fm)), (3, .int (iI n))] := hl
    refine lv_iconst (v := iI 0) hx hb d_M_number_0 (by decide) ?_
    refine lv_istore (lv' := [(4, .int (iI 0)), (0, .ref ar), (1, .ref ac), (2, .int (iI fm)), (3, .int (iI n))]) hx hb d_M_number_1 hl (by decide) rfl (fun ls hl => ?_)
    refine lv_iconst (v := iI 1) hx hb d_M_number_3 (by decide) ?_
    refine lv_istore (lv' := [(5, .int (iI 1)), (4, .int (iI 0)), (0, .ref ar), (1, .ref ac), (2, .int (iI fm)), (3, .int (iI n))]) hx hb d_M_number_4 hl (by decide) rfl (fun ls hl => ?_)
    have lp6 : ∀ (j : Nat) (le : Int) (cd : Int) (fk2 : Nat → Int32) (H : Heap) (locs : List Loc) (ls : Array Slot), (1 ≤ le ∧ le ≤ 16) → (2 * cd = ((zFc d n.toNat le.toNat : Nat) : Int)) → (zCk d n.toNat fm n fk2 le 0) → (∀ i : Nat, ((i : Int) < fm ∨ fm + n ≤ i) → fk2 i = fk i) → (16 - le < (j : Int)) → va_P D zcl [(ar, .inl (cR, NN, .inl (fun k => iI (g k)))), (ac, .inl (cK, NK, .inl fk2))] H → va_D A [(ar, .inl (cR, NN, .inl (fun k => iI (g k)))), (ac, .inl (cK, NK, .inl fk2))] → va_S A s.heap H locs → lv_has ls 7 [(5, .int (iI le)), (4, .int (iI cd)), (0, .ref ar), (1, .ref ac), (2, .int (iI fm)), (3, .int (iI n))] → W p l e { frames := 0, cells := 0, slots := 0, locals := 0 } s m [.ref ar, .ref ac, .int (iI fm), .int (iI n)].toArray below meth c H locs 0 0 (MQ below ((fun A => va_Qv (fun (u9 : (Nat → Int32)) => match u9 with | fk1 => (zCk d n.toNat fm n fk1 16 0) ∧ (∀ i : Nat, ((i : Int) < fm ∨ fm + n ≤ i) → fk1 i = fk i)) (fun u9 t => zB D ((fun (u9 : (Nat → Int32)) => match u9 with | fk1 => [(ar, .inl (cR, NN, .inl (fun k => iI (g k)))), (ac, .inl (cK, NK, .inl fk1))]) u9) ((fun (u9 : (Nat → Int32)) => match u9 with | fk1 => [(cR, .int), (cK, .int)]) u9) A t) A) A) [.ref ar, .ref ac, .int (iI fm), .int (iI n)].toArray s 0 0 A) (F0 m 6 ls []) := by
      intro j
      induction j with
      | zero => intro le cd fk2 H locs ls hle hcd hck hou hj6 hP hD hS hl; exfalso; omega
      | succ j ih6 =>
        intro le cd fk2 H locs ls hle hcd hck hou hj6 hP hD hS hl
        refine lv_iload hx hb d_M_number_6 (lv_at hl 0 rfl) ?_
        refine lv_bipush (v := iI 15) hx hb d_M_number_8 (by decide) ?_
        refine zv_icmp_gt (tgt := 65) hx hb d_M_number_10 (by decide) (by omega) (by omega) (fun hc_1 => ?_) (fun hc_1 => ?_)
        · skip
          exact zretv hx hb hr hlk hK hP hD hS fk2 [0, 1] [0, 1] rfl (by decide) rfl (⟨by rw [show (16 : Int) = le by omega]; exact hck, hou⟩) (Nat.le_of_ble_eq_true rfl) (Nat.le_of_ble_eq_true rfl) d_M_number_65
        · skip
          refine lv_iload hx hb d_M_number_13 (lv_at hl 1 rfl) ?_
          refine lv_iconst (v := iI 1) hx hb d_M_number_15 (by decide) ?_
          refine zv_ishl (z := 2 * cd) hx hb 1 (by decide) d_M_number_16 (by omega) ?_
          refine lv_istore (lv' := [(4, .int (iI (2 * cd))), (5, .int (iI le)), (0, .ref ar), (1, .ref ac), (2, .int (iI fm)), (3, .int (iI n))]) hx hb d_M_number_17 hl (by decide) rfl (fun ls hl => ?_)
          refine lv_iconst (v := iI 0) hx hb d_M_number_19 (by decide) ?_
          refine lv_istore (lv' := [(6, .int (iI 0)), (4, .int (iI (2 * cd))), (5, .int (iI le)), (0, .ref ar), (1, .ref ac), (2, .int (iI fm)), (3, .int (iI n))]) hx hb d_M_number_20 hl (by decide) rfl (fun ls hl => ?_)
          have lp22 : ∀ (j : Nat) (k : Int) (cd2 : Int) (fk3 : Nat → Int32) (H : Heap) (locs : List Loc) (ls : Array Slot), (0 ≤ k ∧ k ≤ n) → (cd2 = ((zFc d n.toNat le.toNat + zcn d k.toNat le.toNat : Nat) : Int)) → (zCk d n.toNat fm n fk3 le k) → (∀ i : Nat, ((i : Int) < fm ∨ fm + n ≤ i) → fk3 i = fk i) → (n - k < (j : Int)) → va_P D zcl [(ar, .inl (cR, NN, .inl (fun k => iI (g k)))), (ac, .inl (cK, NK, .inl fk3))] H → va_D A [(ar, .inl (cR, NN, .inl (fun k => iI (g k)))), (ac, .inl (cK, NK, .inl fk3))] → va_S A s.heap H locs → lv_has ls 7 [(6, .int (iI k)), (4, .int (iI cd2)), (5, .int (iI le)), (0, .ref ar), (1, .ref ac), (2, .int (iI fm)), (3, .int (iI n))] → W p l e { frames := 0, cells := 0, slots := 0, locals := 0 } s m [.ref ar, .ref ac, .int (iI fm), .int (iI n)].toArray below meth c H locs 0 0 (MQ below ((fun A => va_Qv (fun (u9 : (Nat → Int32)) => match u9 with | fk1 => (zCk d n.toNat fm n fk1 16 0) ∧ (∀ i : Nat, ((i : Int) < fm ∨ fm + n ≤ i) → fk1 i = fk i)) (fun u9 t => zB D ((fun (u9 : (Nat → Int32)) => match u9 with | fk1 => [(ar, .inl (cR, NN, .inl (fun k => iI (g k)))), (ac, .inl (cK, NK, .inl fk1))]) u9) ((fun (u9 : (Nat → Int32)) => match u9 with | fk1 => [(cR, .int), (cK, .int)]) u9) A t) A) A) [.ref ar, .ref ac, .int (iI fm), .int (iI n)].toArray s 0 0 A) (F0 m 22 ls []) := by
            intro j
            induction j with
            | zero => intro k cd2 fk3 H locs ls hk1 hc2 hck3 hou3 hj22 hP hD hS hl; exfalso; omega
            | succ j ih22 =>
              intro k cd2 fk3 H locs ls hk1 hc2 hck3 hou3 hj22 hP hD hS hl
              refine lv_iload hx hb d_M_number_22 (lv_at hl 0 rfl) ?_
              refine lv_iload_n hx hb d_M_number_24 rfl (lv_at hl 6 rfl) ?_
              refine zv_icmp_ge (tgt := 59) hx hb d_M_number_25 (by decide) (by omega) (by omega) (fun hc_2 => ?_) (fun hc_2 => ?_)
              · skip
                refine lv_iinc (k := 2) (v := iI (le + 1)) (lv' := [(5, .int (iI (le + 1))), (6, .int (iI k)), (4, .int (iI cd2)), (0, .ref ar), (1, .ref ac), (2, .int (iI fm)), (3, .int (iI n))]) hx hb d_M_number_59 hl rfl (zinc (by omega)) (by decide) rfl (fun ls hl => ?_)
                refine lv_goto (tgt := 6) hx hb d_M_number_62 (by decide) ?_
                exact ih6 (le + 1) cd2 fk3 _ _ _ (by omega) (zFc_t (by omega) (by omega) hc2) (zCk_next hck3 (by omega)) hou3 (by omega) hP hD hS (lv_sub hl [0, 2, 3, 4, 5, 6] rfl)
              · skip
                refine lv_aload_n hx hb d_M_number_28 rfl (lv_at hl 3 rfl) ?_
                refine lv_iload_n hx hb d_M_number_29 rfl (lv_at hl 5 rfl) ?_
                refine lv_iload hx hb d_M_number_30 (lv_at hl 0 rfl) ?_
                refine zv_iadd (z := fm + k) hx hb d_M_number_32 (by omega) ?_
                refine zv_iald hx hb hK hP 0 0 rfl rfl (by omega) (by omega) d_M_number_33 (fun x_3 hz_4 => ?_)
                have hf_5 := hg (fm + k : Int).toNat
                refine lv_iload hx hb d_M_number_34 (lv_at hl 2 rfl) ?_
                have hdk := hd k (by omega) (by omega)
                refine zv_icmp_eq (tgt := 42) hx hb d_M_number_36 (by decide) (by omega) (by omega) (fun hc_6 => ?_) (fun hc_6 => ?_)
                · skip
                  refine lv_aload_n hx hb d_M_number_42 rfl (lv_at hl 4 rfl) ?_
                  refine lv_iload_n hx hb d_M_number_43 rfl (lv_at hl 5 rfl) ?_
                  refine lv_iload hx hb d_M_number_44 (lv_at hl 0 rfl) ?_
                  refine zv_iadd (z := fm + k) hx hb d_M_number_46 (by omega) ?_
                  refine lv_iload hx hb d_M_number_47 (lv_at hl 1 rfl) ?_
                  refine zv_iast0 hx hb hK hP hD hS 1 1 rfl rfl (by omega) (by omega) d_M_number_49 (fun g_7 H locs hg_8 hP hD hS => ?_)
                  have hP : va_P D zcl [(ar, .inl (cR, NN, .inl (fun k => iI (g k)))), (ac, .inl (cK, NK, .inl g_7))] H := hP
                  have hD : va_D A [(ar, .inl (cR, NN, .inl (fun k => iI (g k)))), (ac, .inl (cK, NK, .inl g_7))] := hD
                  refine lv_iinc (k := 1) (v := iI (cd2 + 1)) (lv' := [(4, .int (iI (cd2 + 1))), (6, .int (iI k)), (5, .int (iI le)), (0, .ref ar), (1, .ref ac), (2, .int (iI fm)), (3, .int (iI n))]) hx hb d_M_number_50 hl rfl (zinc (by omega)) (by decide) rfl (fun ls hl => ?_)
                  refine lv_iinc (k := 1) (v := iI (k + 1)) (lv' := [(6, .int (iI (k + 1))), (4, .int (iI (cd2 + 1))), (5, .int (iI le)), (0, .ref ar), (1, .ref ac), (2, .int (iI fm)), (3, .int (iI n))]) hx hb d_M_number_53 hl rfl (zinc (by omega)) (by decide) rfl (fun ls hl => ?_)
                  refine lv_goto (tgt := 22) hx hb d_M_number_56 (by decide) ?_
                  exact ih22 (k + 1) (cd2 + 1) g_7 _ _ _ (by omega) (by have h9 := zcn_t (d := d) (k := k) le.toNat (by omega); rw [if_pos (by omega)] at h9; omega) (zCk_set hck3 (by omega) hg_8 hc2 (by omega)) (fun i hi => by rw [hg_8, zud_ne (by omega)]; exact hou3 i hi) (by omega) hP hD hS hl
                · skip
                  refine lv_goto (tgt := 53) hx hb d_M_number_39 (by decide) ?_
                  refine lv_iinc (k := 0) (v := iI (k + 1)) (lv' := [(6, .int (iI (k + 1))), (4, .int (iI cd2)), (5, .int (iI le)), (0, .ref ar), (1, .ref ac), (2, .int (iI fm)), (3, .int (iI n))]) hx hb d_M_number_53 hl rfl (zinc (by omega)) (by decide) rfl (fun ls hl => ?_)
                  refine lv_goto (tgt := 22) hx hb d_M_number_56 (by decide) ?_
                  exact ih22 (k + 1) cd2 fk3 _ _ _ (by omega) (by have h9 := zcn_t (d := d) (k := k) le.toNat (by omega); rw [if_neg (by omega)] at h9; omega) (zCk_skip hck3 (by omega)) hou3 (by omega) hP hD hS hl
          exact lp22 ((n - 0 + 1 : Int)).toNat 0 (2 * cd) fk2 _ _ _ (by omega) (by have h9 : zcn d (0 : Int).toNat le.toNat = 0 := rfl; omega) hck hou (by omega) hP hD hS hl
    exact lp6 ((16 - 1 + 1 : Int)).toNat 1 0 fk _ _ _ (by omega) (by have h9 : zFc d n.toNat (1 : Int).toNat = 0 := zFc_1 d _; omega) zCk_0 (fun _ _ => rfl) (by omega) hP hD hS hl)
set_option maxHeartbeats 4000000 in
set_option maxRecDepth 100000 in
theorem m_symbol (l : Launch) (D : va_G) (sz : Nat) (qm : Nat) (qT : Nat) (len : Int) (op : Int) (fp : Int) (bu : Int) (ra : Int) (en : Int) (qMe : Nat) (qPk : Nat) (qSz : Nat) (qSu : Nat) (qDa : Nat) (qLo : Nat) (qLe : Nat) (qNa : Nat) (qNs : Nat) (qSt : Nat) (qSa : Nat) (qCo : Nat) (qWr : Nat) (to : Int) (nw : Int) (bt : Int) (rf : Int) (qLn : Nat) (qSm : Nat) (qCd : Nat) (qSc : Nat) (sy : Int) (di : Int) (th : Int) (cT : ClassId) (fT : Nat → Int32) (cPk : ClassId) (fPk : Nat → Int) (cDa : ClassId) (fDa : Nat → Int) (ar : Nat) (cR : ClassId) (NN : Nat) (g : Nat → Int) (ac : Nat) (cK : ClassId) (NK : Nat) (fk : Nat → Int32) (fm : Int) (n : Int) (d : Nat → Nat) (hnw : 0 ≤ nw ∧ nw < 64) (hrf : -2147483648 ≤ rf ∧ rf ≤ 2147483647) (hpk : 0 ≤ fPk nw.toNat ∧ fPk nw.toNat ≤ 20000) (hda : 0 ≤ fDa nw.toNat ∧ fDa nw.toNat + fPk nw.toNat ≤ 20000) (hbt : 0 ≤ bt ∧ bt ≤ 8 * fPk nw.toNat) (hN : NN < 2147483648) (hfn : 0 ≤ fm ∧ 0 ≤ n ∧ fm + n ≤ NN) (hg : ∀ k : Nat, 0 ≤ g k ∧ g k ≤ 15) (hNK : NK < 2147483648 ∧ fm + n ≤ NK) (hr0 : rf = 0) (hd : ∀ k : Int, 0 ≤ k → k < n → g (fm + k).toNat = (d k.toNat : Int)) (hck : zCk d n.toNat fm n fk 16 0) (hG : zGd d n.toNat) : Met l y_M_symbol (Cond.code y_M_symbol prog_10_method_32_code 10 (Option.some Jvm.ClassFile.FieldType.int) :: zt) { frames := 2, cells := 0, slots := 0, locals := 45 } (zPc [.ref qm, .ref ar, .ref ac, .int (iI fm), .int (iI n)] D [(qm, .inr (8, [.ref qT, .int (iI len), .int (iI op), .int (iI fp), .int (iI bu), .int (iI ra), .int (iI en), .ref qMe, .ref qPk, .ref qSz, .ref qSu, .ref qDa, .ref qLo, .ref qLe, .ref qNa, .ref qNs, .ref qSt, .ref qSa, .ref qCo, .ref qWr, .int (iI to), .int (iI nw), .int (iI bt), .int (iI rf), .ref qLn, .ref qSm, .ref qCd, .ref qSc, .int (iI sy), .int (iI di), .int (iI th)])), (qT, .inl (cT, 20000, .inl fT)), (qPk, .inl (cPk, 64, .inr (.inl (fun k => lI (fPk k))))), (qDa, .inl (cDa, 64, .inl (fun k => iI (fDa k)))), (ar, .inl (cR, NN, .inl (fun k => iI (g k)))), (ac, .inl (cK, NK, .inl fk))] [(cT, .byte), (cPk, .long), (cDa, .int), (cR, .int), (cK, .int)] sz (fun _ => True)) (va_Qi (fun (r : Int32) => fun (u9 : Int × Int × Int) => match u9 with | (b1, r1, x) => r = (iI x) ∧ ((zSr fT d n.toNat (fDa nw.toNat + fPk nw.toNat).toNat (8 * fDa nw.toNat + bt).toNat x r1 (8 * fDa nw.toNat + b1)) ∧ bt ≤ b1 ∧ b1 ≤ 8 * fPk nw.toNat ∧ (-2147483648 ≤ r1 ∧ r1 ≤ 2147483647) ∧ (r1 = 0 → 0 ≤ x ∧ x < n ∧ bt < b1) ∧ (¬ r1 = 0 → x = -1))) (fun u9 t => zB D ((fun (u9 : Int × Int × Int) => match u9 with | (b1, r1, x) => [(qm, .inr (8, [.ref qT, .int (iI len), .int (iI op), .int (iI fp), .int (iI bu), .int (iI ra), .int (iI en), .ref qMe, .ref qPk, .ref qSz, .ref qSu, .ref qDa, .ref qLo, .ref qLe, .ref qNa, .ref qNs, .ref qSt, .ref qSa, .ref qCo, .ref qWr, .int (iI to), .int (iI nw), .int (iI b1), .int (iI r1), .ref qLn, .ref qSm, .ref qCd, .ref qSc, .int (iI sy), .int (iI di), .int (iI th)])), (qT, .inl (cT, 20000, .inl fT)), (qPk, .inl (cPk, 64, .inr (.inl (fun k => lI (fPk k))))), (qDa, .inl (cDa, 64, .inl (fun k => iI (fDa k)))), (ar, .inl (cR, NN, .inl (fun k => iI (g k)))), (ac, .inl (cK, NK, .inl fk))]) u9) ((fun (u9 : Int × Int × Int) => match u9 with | (b1, r1, x) => [(cT, .byte), (cPk, .long), (cDa, .int), (cR, .int), (cK, .int)]) u9) (va_A [(qm, .inr (8, [.ref qT, .int (iI len), .int (iI op), .int (iI fp), .int (iI bu), .int (iI ra), .int (iI en), .ref qMe, .ref qPk, .ref qSz, .ref qSu, .ref qDa, .ref qLo, .ref qLe, .ref qNa, .ref qNs, .ref qSt, .ref qSa, .ref qCo, .ref qWr, .int (iI to), .int (iI nw), .int (iI bt), .int (iI rf), .ref qLn, .ref qSm, .ref qCd, .ref qSc, .int (iI sy), .int (iI di), .int (iI th)])), (qT, .inl (cT, 20000, .inl fT)), (qPk, .inl (cPk, 64, .inr (.inl (fun k => lI (fPk k))))), (qDa, .inl (cDa, 64, .inl (fun k => iI (fDa k)))), (ar, .inl (cR, NN, .inl (fun k => iI (g k)))), (ac, .inl (cK, NK, .inl fk))] sz) t) (va_A [(qm, .inr (8, [.ref qT, .int (iI len), .int (iI op), .int (iI fp), .int (iI bu), .int (iI ra), .int (iI en), .ref qMe, .ref qPk, .ref qSz, .ref qSu, .ref qDa, .ref qLo, .ref qLe, .ref qNa, .ref qNs, .ref qSt, .ref qSa, .ref qCo, .ref qWr, .int (iI to), .int (iI nw), .int (iI bt), .int (iI rf), .ref qLn, .ref qSm, .ref qCd, .ref qSc, .int (iI sy), .int (iI di), .int (iI th)])), (qT, .inl (cT, 20000, .inl fT)), (qPk, .inl (cPk, 64, .inr (.inl (fun k => lI (fPk k))))), (qDa, .inl (cDa, 64, .inl (fun k => iI (fDa k)))), (ar, .inl (cR, NN, .inl (fun k => iI (g k)))), (ac, .inl (cK, NK, .inl fk))] sz)) 0 0 (va_A [(qm, .inr (8, [.ref qT, .int (iI len), .int (iI op), .int (iI fp), .int (iI bu), .int (iI ra), .int (iI en), .ref qMe, .ref qPk, .ref qSz, .ref qSu, .ref qDa, .ref qLo, .ref qLe, .ref qNa, .ref qNs, .ref qSt, .ref qSa, .ref qCo, .ref qWr, .int (iI to), .int (iI nw), .int (iI bt), .int (iI rf), .ref qLn, .ref qSm, .ref qCd, .ref qSc, .int (iI sy), .int (iI di), .int (iI th)])), (qT, .inl (cT, 20000, .inl fT)), (qPk, .inl (cPk, 64, .inr (.inl (fun k => lI (fPk k))))), (qDa, .inl (cDa, 64, .inl (fun k => iI (fDa k)))), (ar, .inl (cR, NN, .inl (fun k => iI (g k)))), (ac, .inl (cK, NK, .inl fk))] sz) :=
  zMet (Qf := fun A => va_Qi (fun (r : Int32) => fun (u9 : Int × Int × Int) => match u9 with | (b1, r1, x) => r = (iI x) ∧ ((zSr fT d n.toNat (fDa nw.toNat + fPk nw.toNat).toNat (8 * fDa nw.toNat + bt).toNat x r1 (8 * fDa nw.toNat + b1)) ∧ bt ≤ b1 ∧ b1 ≤ 8 * fPk nw.toNat ∧ (-2147483648 ≤ r1 ∧ r1 ≤ 2147483647) ∧ (r1 = 0 → 0 ≤ x ∧ x < n ∧ bt < b1) ∧ (¬ r1 = 0 → x = -1))) (fun u9 t => zB D ((fun (u9 : Int × Int × Int) => match u9 with | (b1, r1, x) => [(qm, .inr (8, [.ref qT, .int (iI len), .int (iI op), .int (iI fp), .int (iI bu), .int (iI ra), .int (iI en), .ref qMe, .ref qPk, .ref qSz, .ref qSu, .ref qDa, .ref qLo, .ref qLe, .ref qNa, .ref qNs, .ref qSt, .ref qSa, .ref qCo, .ref qWr, .int (iI to), .int (iI nw), .int (iI b1), .int (iI r1), .ref qLn, .ref qSm, .ref qCd, .ref qSc, .int (iI sy), .int (iI di), .int (iI th)])), (qT, .inl (cT, 20000, .inl fT)), (qPk, .inl (cPk, 64, .inr (.inl (fun k => lI (fPk k))))), (qDa, .inl (cDa, 64, .inl (fun k => iI (fDa k)))), (ar, .inl (cR, NN, .inl (fun k => iI (g k)))), (ac, .inl (cK, NK, .inl fk))]) u9) ((fun (u9 : Int × Int × Int) => match u9 with | (b1, r1, x) => [(cT, .byte), (cPk, .long), (cDa, .int), (cR, .int), (cK, .int)]) u9) A t) A) (by decide) (Nat.le_of_ble_eq_true rfl) (fun p e s m below meth c A ls hx hb hr hml hown ht hlk hnm hA hK hP hD hX hl => by
    have hS : va_S A s.heap s.heap [] := va_S.rf
    have hl : lv_has ls 10 [(0, .ref qm), (1, .ref ar), (2, .ref ac), (3, .int (iI fm)), (4, .int (iI n))] := hl
    refine lv_iconst (v := iI 0) hx hb d_M_symbol_0 (by decide) ?_
    refine lv_istore (lv' := [(5, .int (iI 0)), (0, .ref qm), (1, .ref ar), (2, .ref ac), (3, .int (iI fm)), (4, .int (iI n))]) hx hb d_M_symbol_1 hl (by decide) rfl (fun ls hl => ?_)
    refine lv_iconst (v := iI 0) hx hb d_M_symbol_3 (by decide) ?_
    refine lv_istore (lv' := [(6, .int (iI 0)), (5, .int (iI 0)), (0, .ref qm), (1, .ref ar), (2, .ref ac), (3, .int (iI fm)), (4, .int (iI n))]) hx hb d_M_symbol_4 hl (by decide) rfl (fun ls hl => ?_)
    refine lv_iconst (v := iI 1) hx hb d_M_symbol_6 (by decide) ?_
    refine lv_istore (lv' := [(7, .int (iI 1)), (6, .int (iI 0)), (5, .int (iI 0)), (0, .ref qm), (1, .ref ar), (2, .ref ac), (3, .int (iI fm)), (4, .int (iI n))]) hx hb d_M_symbol_7 hl (by decide) rfl (fun ls hl => ?_)
    have lp9 : ∀ (j : Nat) (an : Int) (si : Int) (v : Int) (b2 : Int) (r2 : Int) (H : Heap) (locs : List Loc) (ls : Array Slot), (0 ≤ an ∧ an ≤ 1) → (0 ≤ si ∧ si ≤ 15) → (an = 1 → si ≤ 14) → (b2 = bt + si ∧ b2 ≤ 8 * fPk nw.toNat) → (r2 = 0) → (0 ≤ v ∧ v ≤ 65535) → (zSa fT d n.toNat (fDa nw.toNat + fPk nw.toNat).toNat (8 * fDa nw.toNat + bt).toNat si v an) → (15 - si < (j : Int)) → va_P D zcl [(qm, .inr (8, [.ref qT, .int (iI len), .int (iI op), .int (iI fp), .int (iI bu), .int (iI ra), .int (iI en), .ref qMe, .ref qPk, .ref qSz, .ref qSu, .ref qDa, .ref qLo, .ref qLe, .ref qNa, .ref qNs, .ref qSt, .ref qSa, .ref qCo, .ref qWr, .int (iI to), .int (iI nw), .int (iI b2), .int (iI r2), .ref qLn, .ref qSm, .ref qCd, .ref qSc, .int (iI sy), .int (iI di), .int (iI th)])), (qT, .inl (cT, 20000, .inl fT)), (qPk, .inl (cPk, 64, .inr (.inl (fun k => lI (fPk k))))), (qDa, .inl (cDa, 64, .inl (fun k => iI (fDa k)))), (ar, .inl (cR, NN, .inl (fun k => iI (g k)))), (ac, .inl (cK, NK, .inl fk))] H → va_D A [(qm, .inr (8, [.ref qT, .int (iI len), .int (iI op), .int (iI fp), .int (iI bu), .int (iI ra), .int (iI en), .ref qMe, .ref qPk, .ref qSz, .ref qSu, .ref qDa, .ref qLo, .ref qLe, .ref qNa, .ref qNs, .ref qSt, .ref qSa, .ref qCo, .ref qWr, .int (iI to), .int (iI nw), .int (iI b2), .int (iI r2), .ref qLn, .ref qSm, .ref qCd, .ref qSc, .int (iI sy), .int (iI di), .int (iI th)])), (qT, .inl (cT, 20000, .inl fT)), (qPk, .inl (cPk, 64, .inr (.inl (fun k => lI (fPk k))))), (qDa, .inl (cDa, 64, .inl (fun k => iI (fDa k)))), (ar, .inl (cR, NN, .inl (fun k => iI (g k)))), (ac, .inl (cK, NK, .inl fk))] → va_S A s.heap H locs → lv_has ls 10 [(7, .int (iI an)), (6, .int (iI si)), (5, .int (iI v)), (0, .ref qm), (1, .ref ar), (2, .ref ac), (3, .int (iI fm)), (4, .int (iI n))] → W p l e { frames := 2, cells := 0, slots := 0, locals := 45 } s m [.ref qm, .ref ar, .ref ac, .int (iI fm), .int (iI n)].toArray below meth c H locs 0 0 (MQ below ((fun A => va_Qi (fun (r : Int32) => fun (u9 : Int × Int × Int) => match u9 with | (b1, r1, x) => r = (iI x) ∧ ((zSr fT d n.toNat (fDa nw.toNat + fPk nw.toNat).toNat (8 * fDa nw.toNat + bt).toNat x r1 (8 * fDa nw.toNat + b1)) ∧ bt ≤ b1 ∧ b1 ≤ 8 * fPk nw.toNat ∧ (-2147483648 ≤ r1 ∧ r1 ≤ 2147483647) ∧ (r1 = 0 → 0 ≤ x ∧ x < n ∧ bt < b1) ∧ (¬ r1 = 0 → x = -1))) (fun u9 t => zB D ((fun (u9 : Int × Int × Int) => match u9 with | (b1, r1, x) => [(qm, .inr (8, [.ref qT, .int (iI len), .int (iI op), .int (iI fp), .int (iI bu), .int (iI ra), .int (iI en), .ref qMe, .ref qPk, .ref qSz, .ref qSu, .ref qDa, .ref qLo, .ref qLe, .ref qNa, .ref qNs, .ref qSt, .ref qSa, .ref qCo, .ref qWr, .int (iI to), .int (iI nw), .int (iI b1), .int (iI r1), .ref qLn, .ref qSm, .ref qCd, .ref qSc, .int (iI sy), .int (iI di), .int (iI th)])), (qT, .inl (cT, 20000, .inl fT)), (qPk, .inl (cPk, 64, .inr (.inl (fun k => lI (fPk k))))), (qDa, .inl (cDa, 64, .inl (fun k => iI (fDa k)))), (ar, .inl (cR, NN, .inl (fun k => iI (g k)))), (ac, .inl (cK, NK, .inl fk))]) u9) ((fun (u9 : Int × Int × Int) => match u9 with | (b1, r1, x) => [(cT, .byte), (cPk, .long), (cDa, .int), (cR, .int), (cK, .int)]) u9) A t) A) A) [.ref qm, .ref ar, .ref ac, .int (iI fm), .int (iI n)].toArray s 0 0 A) (F0 m 9 ls []) := by
      intro j
      induction j with
      | zero => intro an si v b2 r2 H locs ls han hsi has hb2 hr2 hv hsa hj9 hP hD hS hl; exfalso; omega
      | succ j ih9 =>
        intro an si v b2 r2 H locs ls han hsi has hb2 hr2 hv hsa hj9 hP hD hS hl
        refine lv_iload hx hb d_M_symbol_9 (lv_at hl 0 rfl) ?_
        refine zv_if_eq (tgt := 123) hx hb d_M_symbol_11 (by decide) (by omega) (fun hc_1 => ?_) (fun hc_1 => ?_)
        · skip
          refine lv_aload_n hx hb d_M_symbol_123 rfl (lv_at hl 3 rfl) ?_
          refine lv_bipush (v := iI 34) hx hb d_M_symbol_124 (by decide) ?_
          refine zji (wr := [(qT, .inl (cT, 20000, .inl fT)), (qPk, .inl (cPk, 64, .inr (.inl (fun k => lI (fPk k))))), (qDa, .inl (cDa, 64, .inl (fun k => iI (fDa k)))), (ar, .inl (cR, NN, .inl (fun k => iI (g k)))), (ac, .inl (cK, NK, .inl fk))]) (va_runV (As := [.int (iI 34)]) (rest := []) ⟨hx, hb, hml, hown, ht⟩ (m_refuse l D _ qm qT len op fp bu ra en qMe qPk qSz qSu qDa qLo qLe qNa qNs qSt qSa qCo qWr to nw b2 r2 qLn qSm qCd qSc sy di th 34 (by omega)) (cwV 1 ht (zt_goodV zm_965 zm_966 zm_52 zm_79 zm_967) rfl rfl rfl (by decide +kernel) ⟨Nat.le_of_ble_eq_true rfl, Nat.le_of_ble_eq_true rfl⟩) (zpreV zBlind_t hK hP hD [0] [] rfl (by decide) rfl (fun _ _ _ => trivial) (va_recv (q := ("ZipGuardModel", F_M, 31)) hK hP rfl (q0 := 0) (ci := 8) rfl)) rfl rfl hl.1 rfl (lv_room (Nat.le_of_ble_eq_true rfl)) d_M_symbol_126 ⟨Nat.le_of_ble_eq_true rfl, Nat.le_of_ble_eq_true rfl⟩) hK hP hD hS hA [0] [1, 2, 3, 4, 5] rfl rfl (by decide) (by decide) (fun r3 u9 H locs hp4 hP hD hK hS => ?_)
          obtain ⟨r_2, rfl⟩ : ∃ z, z = u9 := ⟨u9, rfl⟩
          dsimp only at hp4 hP hD hK
          have hP : va_P D zcl [(qT, .inl (cT, 20000, .inl fT)), (qPk, .inl (cPk, 64, .inr (.inl (fun k => lI (fPk k))))), (qDa, .inl (cDa, 64, .inl (fun k => iI (fDa k)))), (ar, .inl (cR, NN, .inl (fun k => iI (g k)))), (ac, .inl (cK, NK, .inl fk)), (qm, .inr (8, [.ref qT, .int (iI len), .int (iI op), .int (iI fp), .int (iI bu), .int (iI ra), .int (iI en), .ref qMe, .ref qPk, .ref qSz, .ref qSu, .ref qDa, .ref qLo, .ref qLe, .ref qNa, .ref qNs, .ref qSt, .ref qSa, .ref qCo, .ref qWr, .int (iI to), .int (iI nw), .int (iI b2), .int (iI r_2), .ref qLn, .ref qSm, .ref qCd, .ref qSc, .int (iI sy), .int (iI di), .int (iI th)]))] H := hP
          have hD : va_D A [(qT, .inl (cT, 20000, .inl fT)), (qPk, .inl (cPk, 64, .inr (.inl (fun k => lI (fPk k))))), (qDa, .inl (cDa, 64, .inl (fun k => iI (fDa k)))), (ar, .inl (cR, NN, .inl (fun k => iI (g k)))), (ac, .inl (cK, NK, .inl fk)), (qm, .inr (8, [.ref qT, .int (iI len), .int (iI op), .int (iI fp), .int (iI bu), .int (iI ra), .int (iI en), .ref qMe, .ref qPk, .ref qSz, .ref qSu, .ref qDa, .ref qLo, .ref qLe, .ref qNa, .ref qNs, .ref qSt, .ref qSa, .ref qCo, .ref qWr, .int (iI to), .int (iI nw), .int (iI b2), .int (iI r_2), .ref qLn, .ref qSm, .ref qCd, .ref qSc, .int (iI sy), .int (iI di), .int (iI th)]))] := hD
          have hK : va_K D zcl [(cT, .byte), (cPk, .long), (cDa, .int), (cR, .int), (cK, .int)] s := hK
          obtain ⟨he_5, hp4⟩ := hp4
          subst he_5
          have hP := hP.sub (ws' := [(qm, .inr (8, [.ref qT, .int (iI len), .int (iI op), .int (iI fp), .int (iI bu), .int (iI ra), .int (iI en), .ref qMe, .ref qPk, .ref qSz, .ref qSu, .ref qDa, .ref qLo, .ref qLe, .ref qNa, .ref qNs, .ref qSt, .ref qSa, .ref qCo, .ref qWr, .int (iI to), .int (iI nw), .int (iI b2), .int (iI r_2), .ref qLn, .ref qSm, .ref qCd, .ref qSc, .int (iI sy), .int (iI di), .int (iI th)])), (qT, .inl (cT, 20000, .inl fT)), (qPk, .inl (cPk, 64, .inr (.inl (fun k => lI (fPk k))))), (qDa, .inl (cDa, 64, .inl (fun k => iI (fDa k)))), (ar, .inl (cR, NN, .inl (fun k => iI (g k)))), (ac, .inl (cK, NK, .inl fk))]) [5, 0, 1, 2, 3, 4] rfl
          have hD := hD.sub (ws' := [(qm, .inr (8, [.ref qT, .int (iI len), .int (iI op), .int (iI fp), .int (iI bu), .int (iI ra), .int (iI en), .ref qMe, .ref qPk, .ref qSz, .ref qSu, .ref qDa, .ref qLo, .ref qLe, .ref qNa, .ref qNs, .ref qSt, .ref qSa, .ref qCo, .ref qWr, .int (iI to), .int (iI nw), .int (iI b2), .int (iI r_2), .ref qLn, .ref qSm, .ref qCd, .ref qSc, .int (iI sy), .int (iI di), .int (iI th)])), (qT, .inl (cT, 20000, .inl fT)), (qPk, .inl (cPk, 64, .inr (.inl (fun k => lI (fPk k))))), (qDa, .inl (cDa, 64, .inl (fun k => iI (fDa k)))), (ar, .inl (cR, NN, .inl (fun k => iI (g k)))), (ac, .inl (cK, NK, .inl fk))]) [5, 0, 1, 2, 3, 4] (by decide) rfl
          have hK := hK.sub (tys' := [(cT, .byte), (cPk, .long), (cDa, .int), (cR, .int), (cK, .int)]) [0, 1, 2, 3, 4] rfl
          refine lv_pop hx hb d_M_symbol_129 rfl ?_
          refine lv_iconst (v := iI (-1)) hx hb d_M_symbol_130 (by decide) ?_
          exact zreti hx hb hr hlk hK hP hD hS (b2, r_2, -1) [0, 1, 2, 3, 4, 5] [0, 1, 2, 3, 4] rfl (by decide) rfl (⟨rfl, ⟨zSr_stop hsa (by omega) (by omega), by omega⟩⟩) (Nat.le_of_ble_eq_true rfl) (Nat.le_of_ble_eq_true rfl) d_M_symbol_131
        · skip
          have hsi9 := zSa_i hsa (by omega)
          have hv9 := zSi_v hsi9 (by omega)
          refine lv_iload hx hb d_M_symbol_14 (lv_at hl 2 rfl) ?_
          refine lv_iconst (v := iI 1) hx hb d_M_symbol_16 (by decide) ?_
          refine zv_ishl (z := 2 * v) hx hb 1 (by decide) d_M_symbol_17 (by omega) ?_
          refine lv_aload_n hx hb d_M_symbol_18 rfl (lv_at hl 3 rfl) ?_
          refine lv_iconst (v := iI 1) hx hb d_M_symbol_19 (by decide) ?_
          refine zji (wr := [(ar, .inl (cR, NN, .inl (fun k => iI (g k)))), (ac, .inl (cK, NK, .inl fk))]) (va_runV (As := [.int (iI 1)]) (rest := [.int (iI (2 * v))]) ⟨hx, hb, hml, hown, ht⟩ (m_bits l D _ qm qT len op fp bu ra en qMe qPk qSz qSu qDa qLo qLe qNa qNs qSt qSa qCo qWr to nw b2 r2 qLn qSm qCd qSc sy di th cT fT cPk fPk cDa fDa 1 (by omega) (by omega) (by omega) (by omega) (by omega) (by omega)) (cwV 1 ht (zt_goodV zm_962 zm_963 zm_51 zm_79 zm_964) rfl rfl rfl (by decide +kernel) ⟨Nat.le_of_ble_eq_true rfl, Nat.le_of_ble_eq_true rfl⟩) (zpreV zBlind_t hK hP hD [0, 1, 2, 3] [0, 1, 2] rfl (by decide) rfl (fun _ _ _ => trivial) (va_recv (q := ("ZipGuardModel", F_M, 31)) hK hP rfl (q0 := 0) (ci := 8) rfl)) rfl rfl hl.1 rfl (lv_room (Nat.le_of_ble_eq_true rfl)) d_M_symbol_20 ⟨Nat.le_of_ble_eq_true rfl, Nat.le_of_ble_eq_true rfl⟩) hK hP hD hS hA [0, 1, 2, 3] [4, 5] rfl rfl (by decide) (by decide) (fun r9 u9 H locs hp10 hP hD hK hS => ?_)
          obtain ⟨b_6, r_7, x_8⟩ := u9
          dsimp only at hp10 hP hD hK
          have hP : va_P D zcl [(ar, .inl (cR, NN, .inl (fun k => iI (g k)))), (ac, .inl (cK, NK, .inl fk)), (qm, .inr (8, [.ref qT, .int (iI len), .int (iI op), .int (iI fp), .int (iI bu), .int (iI ra), .int (iI en), .ref qMe, .ref qPk, .ref qSz, .ref qSu, .ref qDa, .ref qLo, .ref qLe, .ref qNa, .ref qNs, .ref qSt, .ref qSa, .ref qCo, .ref qWr, .int (iI to), .int (iI nw), .int (iI b_6), .int (iI r_7), .ref qLn, .ref qSm, .ref qCd, .ref qSc, .int (iI sy), .int (iI di), .int (iI th)])), (qT, .inl (cT, 20000, .inl fT)), (qPk, .inl (cPk, 64, .inr (.inl (fun k => lI (fPk k))))), (qDa, .inl (cDa, 64, .inl (fun k => iI (fDa k))))] H := hP
          have hD : va_D A [(ar, .inl (cR, NN, .inl (fun k => iI (g k)))), (ac, .inl (cK, NK, .inl fk)), (qm, .inr (8, [.ref qT, .int (iI len), .int (iI op), .int (iI fp), .int (iI bu), .int (iI ra), .int (iI en), .ref qMe, .ref qPk, .ref qSz, .ref qSu, .ref qDa, .ref qLo, .ref qLe, .ref qNa, .ref qNs, .ref qSt, .ref qSa, .ref qCo, .ref qWr, .int (iI to), .int (iI nw), .int (iI b_6), .int (iI r_7), .ref qLn, .ref qSm, .ref qCd, .ref qSc, .int (iI sy), .int (iI di), .int (iI th)])), (qT, .inl (cT, 20000, .inl fT)), (qPk, .inl (cPk, 64, .inr (.inl (fun k => lI (fPk k))))), (qDa, .inl (cDa, 64, .inl (fun k => iI (fDa k))))] := hD
          have hK : va_K D zcl [(cT, .byte), (cPk, .long), (cDa, .int), (cR, .int), (cK, .int), (cT, .byte), (cPk, .long), (cDa, .int)] s := hK
          obtain ⟨he_11, hp10⟩ := hp10
          subst he_11
          have hP := hP.sub (ws' := [(qm, .inr (8, [.ref qT, .int (iI len), .int (iI op), .int (iI fp), .int (iI bu), .int (iI ra), .int (iI en), .ref qMe, .ref qPk, .ref qSz, .ref qSu, .ref qDa, .ref qLo, .ref qLe, .ref qNa, .ref qNs, .ref qSt, .ref qSa, .ref qCo, .ref qWr, .int (iI to), .int (iI nw), .int (iI b_6), .int (iI r_7), .ref qLn, .ref qSm, .ref qCd, .ref qSc, .int (iI sy), .int (iI di), .int (iI th)])), (qT, .inl (cT, 20000, .inl fT)), (qPk, .inl (cPk, 64, .inr (.inl (fun k => lI (fPk k))))), (qDa, .inl (cDa, 64, .inl (fun k => iI (fDa k)))), (ar, .inl (cR, NN, .inl (fun k => iI (g k)))), (ac, .inl (cK, NK, .inl fk))]) [2, 3, 4, 5, 0, 1] rfl
          have hD := hD.sub (ws' := [(qm, .inr (8, [.ref qT, .int (iI len), .int (iI op), .int (iI fp), .int (iI bu), .int (iI ra), .int (iI en), .ref qMe, .ref qPk, .ref qSz, .ref qSu, .ref qDa, .ref qLo, .ref qLe, .ref qNa, .ref qNs, .ref qSt, .ref qSa, .ref qCo, .ref qWr, .int (iI to), .int (iI nw), .int (iI b_6), .int (iI r_7), .ref qLn, .ref qSm, .ref qCd, .ref qSc, .int (iI sy), .int (iI di), .int (iI th)])), (qT, .inl (cT, 20000, .inl fT)), (qPk, .inl (cPk, 64, .inr (.inl (fun k => lI (fPk k))))), (qDa, .inl (cDa, 64, .inl (fun k => iI (fDa k)))), (ar, .inl (cR, NN, .inl (fun k => iI (g k)))), (ac, .inl (cK, NK, .inl fk))]) [2, 3, 4, 5, 0, 1] (by decide) rfl
          have hK := hK.sub (tys' := [(cT, .byte), (cPk, .long), (cDa, .int), (cR, .int), (cK, .int)]) [0, 1, 2, 3, 4] rfl
          have hbr := hp10.1
          unfold zBr at hbr
          rw [zbsI_1] at hbr
          have hzp1 : zp 1 = 2 := by decide
          refine zv_or1 (z := 2 * v + x_8) hx hb d_M_symbol_23 (by omega) (by omega) rfl ?_
          refine lv_istore (lv' := [(5, .int (iI (2 * v + x_8))), (7, .int (iI an)), (6, .int (iI si)), (0, .ref qm), (1, .ref ar), (2, .ref ac), (3, .int (iI fm)), (4, .int (iI n))]) hx hb d_M_symbol_24 hl (by decide) rfl (fun ls hl => ?_)
          refine lv_iinc (k := 2) (v := iI (si + 1)) (lv' := [(6, .int (iI (si + 1))), (5, .int (iI (2 * v + x_8))), (7, .int (iI an)), (0, .ref qm), (1, .ref ar), (2, .ref ac), (3, .int (iI fm)), (4, .int (iI n))]) hx hb d_M_symbol_26 hl rfl (zinc (by omega)) (by decide) rfl (fun ls hl => ?_)
          refine lv_aload_n hx hb d_M_symbol_29 rfl (lv_at hl 3 rfl) ?_
          refine va_get (ci := 8) (C := "ZipGuardModel") (T := F_M) (N := 31) hx hb ht zi_M hown hK hP 0 rfl rfl 23 (by decide) (ht _ zm_775) (fun _ h9 => h9) rfl d_M_symbol_30 ?_
          refine zv_if_eq (tgt := 38) hx hb d_M_symbol_33 (by decide) (by omega) (fun hc_12 => ?_) (fun hc_12 => ?_)
          · skip
            have hbx : x_8 = zbI fT ((((8 * fDa nw.toNat + bt).toNat : Nat) : Int) + si) := by rw [show (((8 * fDa nw.toNat + bt).toNat : Nat) : Int) + si = 8 * fDa nw.toNat + b2 by omega]; omega
            refine lv_iconst (v := iI 0) hx hb d_M_symbol_38 (by decide) ?_
            refine lv_istore (lv' := [(7, .int (iI 0)), (6, .int (iI (si + 1))), (5, .int (iI (2 * v + x_8))), (0, .ref qm), (1, .ref ar), (2, .ref ac), (3, .int (iI fm)), (4, .int (iI n))]) hx hb d_M_symbol_39 hl (by decide) rfl (fun ls hl => ?_)
            refine lv_iconst (v := iI 0) hx hb d_M_symbol_41 (by decide) ?_
            refine lv_istore (lv' := [(8, .int (iI 0)), (7, .int (iI 0)), (6, .int (iI (si + 1))), (5, .int (iI (2 * v + x_8))), (0, .ref qm), (1, .ref ar), (2, .ref ac), (3, .int (iI fm)), (4, .int (iI n))]) hx hb d_M_symbol_42 hl (by decide) rfl (fun ls hl => ?_)
            have lp44 : ∀ (j : Nat) (k : Int) (an2 : Int) (H : Heap) (locs : List Loc) (ls : Array Slot), (0 ≤ an2 ∧ an2 ≤ 1) → (0 ≤ k ∧ k ≤ n) → (∀ i : Int, 0 ≤ i → i < k → ¬ zHi d n.toNat (si + 1) (2 * v + x_8) i) → (zAn d n.toNat (si + 1) (2 * v + x_8) an2 k) → (n - k < (j : Int)) → va_P D zcl [(qm, .inr (8, [.ref qT, .int (iI len), .int (iI op), .int (iI fp), .int (iI bu), .int (iI ra), .int (iI en), .ref qMe, .ref qPk, .ref qSz, .ref qSu, .ref qDa, .ref qLo, .ref qLe, .ref qNa, .ref qNs, .ref qSt, .ref qSa, .ref qCo, .ref qWr, .int (iI to), .int (iI nw), .int (iI b_6), .int (iI r_7), .ref qLn, .ref qSm, .ref qCd, .ref qSc, .int (iI sy), .int (iI di), .int (iI th)])), (qT, .inl (cT, 20000, .inl fT)), (qPk, .inl (cPk, 64, .inr (.inl (fun k => lI (fPk k))))), (qDa, .inl (cDa, 64, .inl (fun k => iI (fDa k)))), (ar, .inl (cR, NN, .inl (fun k => iI (g k)))), (ac, .inl (cK, NK, .inl fk))] H → va_D A [(qm, .inr (8, [.ref qT, .int (iI len), .int (iI op), .int (iI fp), .int (iI bu), .int (iI ra), .int (iI en), .ref qMe, .ref qPk, .ref qSz, .ref qSu, .ref qDa, .ref qLo, .ref qLe, .ref qNa, .ref qNs, .ref qSt, .ref qSa, .ref qCo, .ref qWr, .int (iI to), .int (iI nw), .int (iI b_6), .int (iI r_7), .ref qLn, .ref qSm, .ref qCd, .ref qSc, .int (iI sy), .int (iI di), .int (iI th)])), (qT, .inl (cT, 20000, .inl fT)), (qPk, .inl (cPk, 64, .inr (.inl (fun k => lI (fPk k))))), (qDa, .inl (cDa, 64, .inl (fun k => iI (fDa k)))), (ar, .inl (cR, NN, .inl (fun k => iI (g k)))), (ac, .inl (cK, NK, .inl fk))] → va_S A s.heap H locs → lv_has ls 10 [(8, .int (iI k)), (7, .int (iI an2)), (6, .int (iI (si + 1))), (5, .int (iI (2 * v + x_8))), (0, .ref qm), (1, .ref ar), (2, .ref ac), (3, .int (iI fm)), (4, .int (iI n))] → W p l e { frames := 2, cells := 0, slots := 0, locals := 45 } s m [.ref qm, .ref ar, .ref ac, .int (iI fm), .int (iI n)].toArray below meth c H locs 0 0 (MQ below ((fun A => va_Qi (fun (r : Int32) => fun (u9 : Int × Int × Int) => match u9 with | (b1, r1, x) => r = (iI x) ∧ ((zSr fT d n.toNat (fDa nw.toNat + fPk nw.toNat).toNat (8 * fDa nw.toNat + bt).toNat x r1 (8 * fDa nw.toNat + b1)) ∧ bt ≤ b1 ∧ b1 ≤ 8 * fPk nw.toNat ∧ (-2147483648 ≤ r1 ∧ r1 ≤ 2147483647) ∧ (r1 = 0 → 0 ≤ x ∧ x < n ∧ bt < b1) ∧ (¬ r1 = 0 → x = -1))) (fun u9 t => zB D ((fun (u9 : Int × Int × Int) => match u9 with | (b1, r1, x) => [(qm, .inr (8, [.ref qT, .int (iI len), .int (iI op), .int (iI fp), .int (iI bu), .int (iI ra), .int (iI en), .ref qMe, .ref qPk, .ref qSz, .ref qSu, .ref qDa, .ref qLo, .ref qLe, .ref qNa, .ref qNs, .ref qSt, .ref qSa, .ref qCo, .ref qWr, .int (iI to), .int (iI nw), .int (iI b1), .int (iI r1), .ref qLn, .ref qSm, .ref qCd, .ref qSc, .int (iI sy), .int (iI di), .int (iI th)])), (qT, .inl (cT, 20000, .inl fT)), (qPk, .inl (cPk, 64, .inr (.inl (fun k => lI (fPk k))))), (qDa, .inl (cDa, 64, .inl (fun k => iI (fDa k)))), (ar, .inl (cR, NN, .inl (fun k => iI (g k)))), (ac, .inl (cK, NK, .inl fk))]) u9) ((fun (u9 : Int × Int × Int) => match u9 with | (b1, r1, x) => [(cT, .byte), (cPk, .long), (cDa, .int), (cR, .int), (cK, .int)]) u9) A t) A) A) [.ref qm, .ref ar, .ref ac, .int (iI fm), .int (iI n)].toArray s 0 0 A) (F0 m 44 ls []) := by
              intro j
              induction j with
              | zero => intro k an2 H locs ls han1 hk1 hnf han2 hj44 hP hD hS hl; exfalso; omega
              | succ j ih44 =>
                intro k an2 H locs ls han1 hk1 hnf han2 hj44 hP hD hS hl
                refine lv_iload hx hb d_M_symbol_44 (lv_at hl 0 rfl) ?_
                refine lv_iload hx hb d_M_symbol_46 (lv_at hl 8 rfl) ?_
                refine zv_icmp_ge (tgt := 120) hx hb d_M_symbol_48 (by decide) (by omega) (by omega) (fun hc_13 => ?_) (fun hc_13 => ?_)
                · skip
                  have hnx := zSa_next (n := n) (an := an2) hsi9 (by omega) hbx rfl (by omega) (by omega) hG (fun i h1 h2 => hnf i h1 (by omega)) (by rw [show k = n by omega] at han2; exact han2)
                  refine lv_goto (tgt := 9) hx hb d_M_symbol_120 (by decide) ?_
                  exact ih9 an2 (si + 1) (2 * v + x_8) b_6 r_7 _ _ _ (by omega) (by omega) (by omega) (by omega) (by omega) (by omega) hnx.1 (by omega) hP hD hS (lv_sub hl [1, 2, 3, 4, 5, 6, 7, 8] rfl)
                · skip
                  refine lv_aload_n hx hb d_M_symbol_51 rfl (lv_at hl 5 rfl) ?_
                  refine lv_iload_n hx hb d_M_symbol_52 rfl (lv_at hl 7 rfl) ?_
                  refine lv_iload hx hb d_M_symbol_53 (lv_at hl 0 rfl) ?_
                  refine zv_iadd (z := fm + k) hx hb d_M_symbol_55 (by omega) ?_
                  refine zv_iald hx hb hK hP 4 3 rfl rfl (by omega) (by omega) d_M_symbol_56 (fun x_14 hz_15 => ?_)
                  have hf_16 := hg (fm + k : Int).toNat
                  refine lv_istore (lv' := [(9, .int (iI x_14)), (8, .int (iI k)), (7, .int (iI an2)), (6, .int (iI (si + 1))), (5, .int (iI (2 * v + x_8))), (0, .ref qm), (1, .ref ar), (2, .ref ac), (3, .int (iI fm)), (4, .int (iI n))]) hx hb d_M_symbol_57 hl (by decide) rfl (fun ls hl => ?_)
                  have hdk := hd k (by omega) (by omega)
                  have jn_17 : ∀  (H : Heap) (locs : List Loc) (ls : Array Slot), (¬ zHi d n.toNat (si + 1) (2 * v + x_8) k) → va_P D zcl [(qm, .inr (8, [.ref qT, .int (iI len), .int (iI op), .int (iI fp), .int (iI bu), .int (iI ra), .int (iI en), .ref qMe, .ref qPk, .ref qSz, .ref qSu, .ref qDa, .ref qLo, .ref qLe, .ref qNa, .ref qNs, .ref qSt, .ref qSa, .ref qCo, .ref qWr, .int (iI to), .int (iI nw), .int (iI b_6), .int (iI r_7), .ref qLn, .ref qSm, .ref qCd, .ref qSc, .int (iI sy), .int (iI di), .int (iI th)])), (qT, .inl (cT, 20000, .inl fT)), (qPk, .inl (cPk, 64, .inr (.inl (fun k => lI (fPk k))))), (qDa, .inl (cDa, 64, .inl (fun k => iI (fDa k)))), (ar, .inl (cR, NN, .inl (fun k => iI (g k)))), (ac, .inl (cK, NK, .inl fk))] H → va_D A [(qm, .inr (8, [.ref qT, .int (iI len), .int (iI op), .int (iI fp), .int (iI bu), .int (iI ra), .int (iI en), .ref qMe, .ref qPk, .ref qSz, .ref qSu, .ref qDa, .ref qLo, .ref qLe, .ref qNa, .ref qNs, .ref qSt, .ref qSa, .ref qCo, .ref qWr, .int (iI to), .int (iI nw), .int (iI b_6), .int (iI r_7), .ref qLn, .ref qSm, .ref qCd, .ref qSc, .int (iI sy), .int (iI di), .int (iI th)])), (qT, .inl (cT, 20000, .inl fT)), (qPk, .inl (cPk, 64, .inr (.inl (fun k => lI (fPk k))))), (qDa, .inl (cDa, 64, .inl (fun k => iI (fDa k)))), (ar, .inl (cR, NN, .inl (fun k => iI (g k)))), (ac, .inl (cK, NK, .inl fk))] → va_S A s.heap H locs → lv_has ls 10 [(9, .int (iI x_14)), (8, .int (iI k)), (7, .int (iI an2)), (6, .int (iI (si + 1))), (5, .int (iI (2 * v + x_8))), (0, .ref qm), (1, .ref ar), (2, .ref ac), (3, .int (iI fm)), (4, .int (iI n))] → W p l e { frames := 2, cells := 0, slots := 0, locals := 45 } s m [.ref qm, .ref ar, .ref ac, .int (iI fm), .int (iI n)].toArray below meth c H locs 0 0 (MQ below ((fun A => va_Qi (fun (r : Int32) => fun (u9 : Int × Int × Int) => match u9 with | (b1, r1, x) => r = (iI x) ∧ ((zSr fT d n.toNat (fDa nw.toNat + fPk nw.toNat).toNat (8 * fDa nw.toNat + bt).toNat x r1 (8 * fDa nw.toNat + b1)) ∧ bt ≤ b1 ∧ b1 ≤ 8 * fPk nw.toNat ∧ (-2147483648 ≤ r1 ∧ r1 ≤ 2147483647) ∧ (r1 = 0 → 0 ≤ x ∧ x < n ∧ bt < b1) ∧ (¬ r1 = 0 → x = -1))) (fun u9 t => zB D ((fun (u9 : Int × Int × Int) => match u9 with | (b1, r1, x) => [(qm, .inr (8, [.ref qT, .int (iI len), .int (iI op), .int (iI fp), .int (iI bu), .int (iI ra), .int (iI en), .ref qMe, .ref qPk, .ref qSz, .ref qSu, .ref qDa, .ref qLo, .ref qLe, .ref qNa, .ref qNs, .ref qSt, .ref qSa, .ref qCo, .ref qWr, .int (iI to), .int (iI nw), .int (iI b1), .int (iI r1), .ref qLn, .ref qSm, .ref qCd, .ref qSc, .int (iI sy), .int (iI di), .int (iI th)])), (qT, .inl (cT, 20000, .inl fT)), (qPk, .inl (cPk, 64, .inr (.inl (fun k => lI (fPk k))))), (qDa, .inl (cDa, 64, .inl (fun k => iI (fDa k)))), (ar, .inl (cR, NN, .inl (fun k => iI (g k)))), (ac, .inl (cK, NK, .inl fk))]) u9) ((fun (u9 : Int × Int × Int) => match u9 with | (b1, r1, x) => [(cT, .byte), (cPk, .long), (cDa, .int), (cR, .int), (cK, .int)]) u9) A t) A) A) [.ref qm, .ref ar, .ref ac, .int (iI fm), .int (iI n)].toArray s 0 0 A) (F0 m 80 ls []) := by
                    intro  H locs ls hnh hP hD hS hl
                    refine lv_iload hx hb d_M_symbol_80 (lv_at hl 2 rfl) ?_
                    refine lv_iload hx hb d_M_symbol_82 (lv_at hl 0 rfl) ?_
                    refine lv_iload hx hb d_M_symbol_84 (lv_at hl 3 rfl) ?_
                    refine zv_icmp_le (tgt := 110) hx hb d_M_symbol_86 (by decide) (by omega) (by omega) (fun hc_18 => ?_) (fun hc_18 => ?_)
                    · skip
                      refine lv_iconst (v := iI 0) hx hb d_M_symbol_110 (by decide) ?_
                      refine zv_ior0 hx hb d_M_symbol_111 ?_
                      refine lv_istore (lv' := [(7, .int (iI an2)), (9, .int (iI x_14)), (8, .int (iI k)), (6, .int (iI (si + 1))), (5, .int (iI (2 * v + x_8))), (0, .ref qm), (1, .ref ar), (2, .ref ac), (3, .int (iI fm)), (4, .int (iI n))]) hx hb d_M_symbol_112 hl (by decide) rfl (fun ls hl => ?_)
                      refine lv_iinc (k := 2) (v := iI (k + 1)) (lv' := [(8, .int (iI (k + 1))), (7, .int (iI an2)), (9, .int (iI x_14)), (6, .int (iI (si + 1))), (5, .int (iI (2 * v + x_8))), (0, .ref qm), (1, .ref ar), (2, .ref ac), (3, .int (iI fm)), (4, .int (iI n))]) hx hb d_M_symbol_114 hl rfl (zinc (by omega)) (by decide) rfl (fun ls hl => ?_)
                      refine lv_goto (tgt := 44) hx hb d_M_symbol_117 (by decide) ?_
                      exact ih44 (k + 1) an2 _ _ _ (by omega) (by omega) (zHi_s hnf hnh) (zAn_s (y := 0) han2 (by omega) (Or.inr ⟨rfl, fun w => by unfold zLg at w; omega⟩) (by omega)) (by omega) hP hD hS (lv_sub hl [0, 1, 3, 4, 5, 6, 7, 8, 9] rfl)
                    · skip
                      refine lv_aload_n hx hb d_M_symbol_89 rfl (lv_at hl 7 rfl) ?_
                      refine lv_iload_n hx hb d_M_symbol_90 rfl (lv_at hl 8 rfl) ?_
                      refine lv_iload hx hb d_M_symbol_91 (lv_at hl 1 rfl) ?_
                      refine zv_iadd (z := fm + k) hx hb d_M_symbol_93 (by omega) ?_
                      refine zv_iald0 hx hb hK hP 5 4 rfl rfl (by omega) (by omega) d_M_symbol_94 (fun x_19 hz_20 ha_21 ha_22 => ?_)
                      have hcx_23 := zCk_x hck hG (by omega) (by omega) (by omega) hz_20 ha_21 ha_22
                      refine lv_iload hx hb d_M_symbol_95 (lv_at hl 0 rfl) ?_
                      refine lv_iload hx hb d_M_symbol_97 (lv_at hl 3 rfl) ?_
                      refine zv_isub (z := x_14 - si - 1) hx hb d_M_symbol_99 (by omega) ?_
                      refine zv_ishrx hx hb d_M_symbol_100 (by omega) (by omega) rfl ?_
                      refine zv_nm (fun x_24 hz_25 => ?_)
                      have hdv_26 := zdivp (x := x_19) (x_14 - si - 1) (by omega)
                      have hsh : x_24 = ((zcd d n.toNat k.toNat : Nat) : Int) / zp ((d k.toNat : Int) - (si + 1)) := by rw [hz_25, hcx_23.1, show x_14 - si - 1 = (d k.toNat : Int) - (si + 1) by omega]
                      refine lv_iload hx hb d_M_symbol_101 (lv_at hl 4 rfl) ?_
                      refine zv_icmp_ne (tgt := 110) hx hb d_M_symbol_103 (by decide) (by omega) (by omega) (fun hc_27 => ?_) (fun hc_27 => ?_)
                      · skip
                        refine lv_iconst (v := iI 0) hx hb d_M_symbol_110 (by decide) ?_
                        refine zv_ior0 hx hb d_M_symbol_111 ?_
                        refine lv_istore (lv' := [(7, .int (iI an2)), (9, .int (iI x_14)), (8, .int (iI k)), (6, .int (iI (si + 1))), (5, .int (iI (2 * v + x_8))), (0, .ref qm), (1, .ref ar), (2, .ref ac), (3, .int (iI fm)), (4, .int (iI n))]) hx hb d_M_symbol_112 hl (by decide) rfl (fun ls hl => ?_)
                        refine lv_iinc (k := 2) (v := iI (k + 1)) (lv' := [(8, .int (iI (k + 1))), (7, .int (iI an2)), (9, .int (iI x_14)), (6, .int (iI (si + 1))), (5, .int (iI (2 * v + x_8))), (0, .ref qm), (1, .ref ar), (2, .ref ac), (3, .int (iI fm)), (4, .int (iI n))]) hx hb d_M_symbol_114 hl rfl (zinc (by omega)) (by decide) rfl (fun ls hl => ?_)
                        refine lv_goto (tgt := 44) hx hb d_M_symbol_117 (by decide) ?_
                        exact ih44 (k + 1) an2 _ _ _ (by omega) (by omega) (zHi_s hnf hnh) (zAn_s (y := 0) han2 (by omega) (Or.inr ⟨rfl, fun w => by unfold zLg at w; omega⟩) (by omega)) (by omega) hP hD hS (lv_sub hl [0, 1, 3, 4, 5, 6, 7, 8, 9] rfl)
                      · skip
                        refine lv_iconst (v := iI 1) hx hb d_M_symbol_106 (by decide) ?_
                        refine lv_goto (tgt := 111) hx hb d_M_symbol_107 (by decide) ?_
                        refine zv_or11 hx hb d_M_symbol_111 (by omega) ?_
                        refine lv_istore (lv' := [(7, .int (iI 1)), (9, .int (iI x_14)), (8, .int (iI k)), (6, .int (iI (si + 1))), (5, .int (iI (2 * v + x_8))), (0, .ref qm), (1, .ref ar), (2, .ref ac), (3, .int (iI fm)), (4, .int (iI n))]) hx hb d_M_symbol_112 hl (by decide) rfl (fun ls hl => ?_)
                        refine lv_iinc (k := 2) (v := iI (k + 1)) (lv' := [(8, .int (iI (k + 1))), (7, .int (iI 1)), (9, .int (iI x_14)), (6, .int (iI (si + 1))), (5, .int (iI (2 * v + x_8))), (0, .ref qm), (1, .ref ar), (2, .ref ac), (3, .int (iI fm)), (4, .int (iI n))]) hx hb d_M_symbol_114 hl rfl (zinc (by omega)) (by decide) rfl (fun ls hl => ?_)
                        refine lv_goto (tgt := 44) hx hb d_M_symbol_117 (by decide) ?_
                        exact ih44 (k + 1) 1 _ _ _ (by omega) (by omega) (zHi_s hnf hnh) (zAn_s han2 (by omega) (Or.inl ⟨rfl, by unfold zLg; omega⟩) (Or.inl ⟨rfl, Or.inr rfl⟩)) (by omega) hP hD hS (lv_sub hl [0, 1, 3, 4, 5, 6, 7, 8, 9] rfl)
                  refine lv_iload hx hb d_M_symbol_59 (lv_at hl 0 rfl) ?_
                  refine lv_iload hx hb d_M_symbol_61 (lv_at hl 3 rfl) ?_
                  refine zv_icmp_ne (tgt := 80) hx hb d_M_symbol_63 (by decide) (by omega) (by omega) (fun hc_28 => ?_) (fun hc_28 => ?_)
                  · skip
                    exact jn_17  _ _ _ (fun w => by unfold zHi at w; omega) hP hD hS hl
                  · skip
                    refine lv_aload_n hx hb d_M_symbol_66 rfl (lv_at hl 7 rfl) ?_
                    refine lv_iload_n hx hb d_M_symbol_67 rfl (lv_at hl 8 rfl) ?_
                    refine lv_iload hx hb d_M_symbol_68 (lv_at hl 1 rfl) ?_
                    refine zv_iadd (z := fm + k) hx hb d_M_symbol_70 (by omega) ?_
                    refine zv_iald0 hx hb hK hP 5 4 rfl rfl (by omega) (by omega) d_M_symbol_71 (fun x_29 hz_30 ha_31 ha_32 => ?_)
                    have hcx_33 := zCk_x hck hG (by omega) (by omega) (by omega) hz_30 ha_31 ha_32
                    refine lv_iload hx hb d_M_symbol_72 (lv_at hl 4 rfl) ?_
                    refine zv_icmp_ne (tgt := 80) hx hb d_M_symbol_74 (by decide) (by omega) (by omega) (fun hc_34 => ?_) (fun hc_34 => ?_)
                    · skip
                      exact jn_17  _ _ _ (fun w => by unfold zHi at w; omega) hP hD hS hl
                    · skip
                      refine lv_iload hx hb d_M_symbol_77 (lv_at hl 1 rfl) ?_
                      exact zreti hx hb hr hlk hK hP hD hS (b_6, r_7, k) [0, 1, 2, 3, 4, 5] [0, 1, 2, 3, 4] rfl (by decide) rfl (⟨rfl, ⟨zSr_hit (n := n) hsi9 (by omega) hbx rfl (by omega) (by omega) (by omega) (by unfold zHi; omega) (by omega) (by omega), by omega⟩⟩) (Nat.le_of_ble_eq_true rfl) (Nat.le_of_ble_eq_true rfl) d_M_symbol_79
            exact lp44 ((n - 0 + 1 : Int)).toNat 0 0 _ _ _ (by omega) (by omega) (fun i h1 h2 => absurd h2 (by omega)) (Or.inr ⟨rfl, fun i h1 h2 => absurd h2 (by omega)⟩) (by omega) hP hD hS hl
          · skip
            refine lv_iconst (v := iI (-1)) hx hb d_M_symbol_36 (by decide) ?_
            exact zreti hx hb hr hlk hK hP hD hS (b_6, r_7, -1) [0, 1, 2, 3, 4, 5] [0, 1, 2, 3, 4] rfl (by decide) rfl (⟨rfl, ⟨zSr_none hsi9 (by omega) (by omega) (by omega), by omega⟩⟩) (Nat.le_of_ble_eq_true rfl) (Nat.le_of_ble_eq_true rfl) d_M_symbol_37
    exact lp9 ((15 - 0 + 1 : Int)).toNat 1 0 0 bt rf _ _ _ (by omega) (by omega) (by omega) (by omega) (by omega) (by omega) (Or.inl ⟨rfl, zSi_0⟩) (by omega) hP hD hS hl)
