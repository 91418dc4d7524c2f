/-! a set has one canonical list -/
theorem can_lt {f : Int → Int} {n : Int} (h : cs_can f n) : ∀ (d : Nat) (i : Int), 0 ≤ i → i + d + 1 < n → f (2 * i + 1) + 1 < f (2 * (i + d + 1)) := by
  intro d
  induction d with
  | zero =>
    intro i h0 h1
    have := (h i h0 (by omega)).2.2.2 (by omega)
    rw [show i + ((0 : Nat) : Int) + 1 = i + 1 by omega]
    exact this
  | succ d ih =>
    intro i h0 h1
    have a := ih i h0 (by omega)
    have b := h (i + d + 1) (by omega) (by omega)
    have c := b.2.2.2 (by omega)
    rw [show i + ((d + 1 : Nat) : Int) + 1 = i + d + 1 + 1 by omega]
    omega
theorem can_ord {f : Int → Int} {n i j : Int} (h : cs_can f n) (h0 : 0 ≤ i) (hij : i < j) (hj : j < n) : f (2 * i + 1) + 1 < f (2 * j) := by
  have := can_lt h (j - i - 1).toNat i h0 (by omega)
  rw [show i + ((j - i - 1).toNat : Int) + 1 = j by omega] at this
  exact this
theorem can_left {f : Int → Int} {n i j : Int} (h : cs_can f n) (h0 : 0 ≤ i) (hij : i ≤ j) (hj : j < n) : f (2 * i) ≤ f (2 * j) := by
  by_cases e : i = j
  · rw [e]; exact Int.le_refl _
  · have a := can_ord h h0 (show i < j by omega) hj
    have b := h i h0 (by omega)
    omega
theorem can_right {f : Int → Int} {n i j : Int} (h : cs_can f n) (h0 : 0 ≤ i) (hij : i ≤ j) (hj : j < n) : f (2 * i + 1) ≤ f (2 * j + 1) := by
  by_cases e : i = j
  · rw [e]; exact Int.le_refl _
  · have a := can_ord h h0 (show i < j by omega) hj
    have b := h j (by omega) hj
    omega
/-- the right ends of two ranges that begin alike -/
theorem can_re {f g : Int → Int} {n m i : Int} (hf : cs_can f n) (hg : cs_can g m) (h : ∀ c, cs_mem g m c → cs_mem f n c) (h0 : 0 ≤ i) (hi : i < n) (him : i < m) (e : f (2 * i) = g (2 * i)) : g (2 * i + 1) ≤ f (2 * i + 1) := by
  by_cases q : g (2 * i + 1) ≤ f (2 * i + 1)
  · exact q
  · have a := hf i h0 hi
    have b := hg i h0 him
    obtain ⟨k, k0, k1, k2, k3⟩ := h (f (2 * i + 1) + 1) ⟨i, h0, him, by omega, by omega⟩
    by_cases c : k ≤ i
    · have := can_right hf k0 c hi
      omega
    · have := can_ord hf h0 (show i < k by omega) k1
      omega
theorem can_pre {f g : Int → Int} {n m : Int} (hf : cs_can f n) (hg : cs_can g m) (h : ∀ c, cs_mem f n c ↔ cs_mem g m c) : ∀ i : Nat, (i : Int) ≤ n → (i : Int) ≤ m → (∀ k : Int, 0 ≤ k → k < i → f (2 * k) = g (2 * k) ∧ f (2 * k + 1) = g (2 * k + 1)) := by
  intro i
  induction i with
  | zero => intro _ _ k k0 k1; omega
  | succ i ih =>
    intro hn hm k k0 k1
    have p := ih (by omega) (by omega)
    by_cases ek : k < i
    · exact p k k0 ek
    · have ek : k = i := by omega
      subst ek
      have i0 : (0 : Int) ≤ (i : Int) := by omega
      have a := hf i i0 (by omega)
      have b := hg i i0 (by omega)
      have e1 : g (2 * i) ≤ f (2 * i) := by
        obtain ⟨j, j0, j1, j2, j3⟩ := (h (f (2 * i))).mp ⟨i, i0, by omega, Int.le_refl _, a.2.1⟩
        by_cases c : j < i
        · have q := (p j j0 c).2
          have r := can_ord hf j0 c (show (i : Int) < n by omega)
          omega
        · have := can_left hg i0 (show (i : Int) ≤ j by omega) j1
          omega
      have e2 : f (2 * i) ≤ g (2 * i) := by
        obtain ⟨j, j0, j1, j2, j3⟩ := (h (g (2 * i))).mpr ⟨i, i0, by omega, Int.le_refl _, b.2.1⟩
        by_cases c : j < i
        · have q := (p j j0 c).2
          have r := can_ord hg j0 c (show (i : Int) < m by omega)
          omega
        · have := can_left hf i0 (show (i : Int) ≤ j by omega) j1
          omega
      have e : f (2 * i) = g (2 * i) := by omega
      have e3 := can_re hf hg (fun c => (h c).mpr) i0 (by omega) (by omega) e
      have e4 := can_re hg hf (fun c => (h c).mp) i0 (by omega) (by omega) e.symm
      exact ⟨e, by omega⟩
theorem can_len {f g : Int → Int} {n m : Int} (hf : cs_can f n) (hg : cs_can g m) (h0 : 0 ≤ n) (hm : 0 ≤ m) (h : ∀ c, cs_mem f n c ↔ cs_mem g m c) : n ≤ m := by
  by_cases q : n ≤ m
  · exact q
  · have p := can_pre hf hg h m.toNat (by omega) (by omega)
    have a := hf m hm (by omega)
    obtain ⟨j, j0, j1, j2, j3⟩ := (h (f (2 * m))).mp ⟨m, hm, by omega, Int.le_refl _, a.2.1⟩
    have e := (p j j0 (by omega)).2
    have r := can_ord hf j0 j1 (show m < n by omega)
    omega
theorem can_one {f g : Int → Int} {n m : Int} (hf : cs_can f n) (hg : cs_can g m) (h0 : 0 ≤ n) (hm : 0 ≤ m) (h : ∀ c, cs_mem f n c ↔ cs_mem g m c) : n = m ∧ ∀ k : Int, 0 ≤ k → k < n → f (2 * k) = g (2 * k) ∧ f (2 * k + 1) = g (2 * k + 1) := by
  have a := can_len hf hg h0 hm h
  have b := can_len hg hf hm h0 (fun c => (h c).symm)
  refine ⟨by omega, fun k k0 k1 => can_pre hf hg h n.toNat (by omega) (by omega) k k0 (by omega)⟩
