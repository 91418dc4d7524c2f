/-! how many ranges a set has: no more than its beginnings -/
theorem cs_le {f g : Int → Int} {n m : Int} (hf : cs_can f n) (hg : cs_can g m) (h : ∀ i : Int, 0 ≤ i → i < n → ∃ j : Int, 0 ≤ j ∧ j < m ∧ g (2 * j) = f (2 * i)) : n ≤ m ∨ n ≤ 0 := by
  have k : ∀ i : Nat, (i : Int) < n → ∃ j : Int, (i : Int) ≤ j ∧ j < m ∧ g (2 * j) = f (2 * (i : Int)) := by
    intro i
    induction i with
    | zero => intro hi; obtain ⟨j, a, b, c⟩ := h 0 (by omega) hi; exact ⟨j, a, b, c⟩
    | succ i ih =>
      intro hi
      obtain ⟨j, a, b, c⟩ := ih (by omega)
      obtain ⟨j2, a2, b2, c2⟩ := h ((i + 1 : Nat) : Int) (by omega) hi
      refine ⟨j2, ?_, b2, c2⟩
      have q := cs_lt hf (i := (i : Int)) (j := ((i + 1 : Nat) : Int)) (by omega) (by omega) hi
      have q2 := (hf i (by omega) (by omega)).2.1
      by_cases z : j2 ≤ j
      · rcases Int.lt_or_eq_of_le z with y | y
        · have t := cs_lt hg (i := j2) (j := j) a2 y b
          have t2 := (hg j2 a2 b2).2.1
          omega
        · rw [y] at c2; omega
      · omega
  by_cases z : 0 < n
  · obtain ⟨j, a, b, c⟩ := k (n - 1).toNat (by omega)
    left; omega
  · right; omega
/-- a growing sequence of which each is one of another or in a list -/
theorem sq_le {b : Int → Int} {n : Nat} (hb : ∀ i j : Nat, i < j → j < n → b i < b j) : ∀ (l : List Int) (N : Nat) (a : Nat → Int), (∀ i j : Nat, i < j → j < N → a i < a j) → (∀ i : Nat, i < N → (∃ j : Nat, j < n ∧ b j = a i) ∨ a i ∈ l) → N ≤ n + l.length := by
  intro l
  induction l with
  | nil =>
    intro N a ha h
    have k : ∀ i : Nat, i < N → ∃ j : Nat, i ≤ j ∧ j < n ∧ b j = a i := by
      intro i
      induction i with
      | zero =>
        intro hi
        rcases h 0 hi with ⟨j, q, e⟩ | q
        · exact ⟨j, Nat.zero_le _, q, e⟩
        · exact absurd q List.not_mem_nil
      | succ i ih =>
        intro hi
        obtain ⟨j, c1, c2, c3⟩ := ih (by omega)
        rcases h (i + 1) hi with ⟨j2, q, e⟩ | q
        · refine ⟨j2, ?_, q, e⟩
          have t := ha i (i + 1) (by omega) hi
          by_cases z : j2 ≤ j
          · rcases Nat.lt_or_eq_of_le z with y | y
            · have := hb j2 j y c2; omega
            · rw [y] at e; omega
          · omega
        · exact absurd q List.not_mem_nil
    by_cases z : 0 < N
    · obtain ⟨j, c1, c2, c3⟩ := k (N - 1) (by omega)
      simp only [List.length_nil]; omega
    · omega
  | cons x l ih =>
    intro N a ha h
    by_cases z : ∃ t, t < N ∧ a t = x
    · obtain ⟨t, ht, hx⟩ := z
      have q := ih (N - 1) (fun i => if i < t then a i else a (i + 1)) (by
        intro i j hij hj
        show (if i < t then a i else a (i + 1)) < (if j < t then a j else a (j + 1))
        by_cases c1 : i < t
        · by_cases c2 : j < t
          · rw [if_pos c1, if_pos c2]; exact ha i j hij (by omega)
          · rw [if_pos c1, if_neg c2]; exact ha i (j + 1) (by omega) (by omega)
        · rw [if_neg c1, if_neg (show ¬ j < t by omega)]; exact ha (i + 1) (j + 1) (by omega) (by omega)) (by
        intro i hi
        show (∃ j : Nat, j < n ∧ b j = (if i < t then a i else a (i + 1))) ∨ (if i < t then a i else a (i + 1)) ∈ l
        by_cases c1 : i < t
        · rw [if_pos c1]
          rcases h i (by omega) with y | y
          · exact Or.inl y
          · rcases List.mem_cons.mp y with w | w
            · have := ha i t c1 ht; omega
            · exact Or.inr w
        · rw [if_neg c1]
          rcases h (i + 1) (by omega) with y | y
          · exact Or.inl y
          · rcases List.mem_cons.mp y with w | w
            · have := ha t (i + 1) (by omega) (by omega); omega
            · exact Or.inr w)
      simp only [List.length_cons]; omega
    · have q := ih N a ha (fun i hi => by
        rcases h i hi with y | y
        · exact Or.inl y
        · rcases List.mem_cons.mp y with w | w
          · exact absurd ⟨i, hi, w⟩ z
          · exact Or.inr w)
      simp only [List.length_cons]; omega
theorem cs_few {f g : Int → Int} {n m : Int} {l : List Int} (hf : cs_can f n) (hg : cs_can g m) (hn : 0 ≤ n) (hm : 0 ≤ m) (h : ∀ c : Int, cs_mem g m c → cs_mem f n c ∨ c ∈ l) (h2 : ∀ c : Int, cs_mem f n c → cs_mem g m c) : m ≤ n + l.length := by
  have q := sq_le (b := fun i => f (2 * i)) (n := n.toNat) (fun i j hij hj => by
    have := cs_lt hf (i := (i : Int)) (j := (j : Int)) (by omega) (by omega) (by omega)
    have := (hf i (by omega) (by omega)).2.1
    show f (2 * (i : Int)) < f (2 * (j : Int))
    omega) l m.toNat (fun i => g (2 * (i : Int))) (fun i j hij hj => by
    have := cs_lt hg (i := (i : Int)) (j := (j : Int)) (by omega) (by omega) (by omega)
    have := (hg i (by omega) (by omega)).2.1
    show g (2 * (i : Int)) < g (2 * (j : Int))
    omega) (fun i hi => by
    have r := hg i (by omega) (by omega)
    have e : cs_mem g m (g (2 * (i : Int))) := ⟨i, by omega, by omega, by omega, by omega⟩
    rcases h _ e with y | y
    · obtain ⟨j, j0, j1, j2, j3⟩ := y
      by_cases z : f (2 * j) = g (2 * (i : Int))
      · exact Or.inl ⟨j.toNat, by omega, by show f (2 * ((j.toNat : Nat) : Int)) = _; rw [show ((j.toNat : Nat) : Int) = j by omega]; exact z⟩
      · exfalso
        have w : cs_mem g m (g (2 * (i : Int)) - 1) := h2 _ ⟨j, j0, j1, by omega, by omega⟩
        obtain ⟨k, k0, k1, k2, k3⟩ := w
        rcases (show k < (i : Int) ∨ k = (i : Int) ∨ (i : Int) < k by omega) with t | t | t
        · have := cs_lt hg (i := k) (j := (i : Int)) k0 t (by omega); omega
        · rw [t] at k2; omega
        · have := cs_lt hg (i := (i : Int)) (j := k) (by omega) t k1; omega
    · exact Or.inr y)
  omega
/-- what is alike to one character: few -/
def alF (c : Int) : List Int := c :: ((List.range 6).flatMap (fun r : Nat => (if zAR (3 * r) ≤ c ∧ c ≤ zAR (3 * r + 1) then [c + zAR (3 * r + 2)] else []) ++ (if zAR (3 * r) + zAR (3 * r + 2) ≤ c ∧ c ≤ zAR (3 * r + 1) + zAR (3 * r + 2) then [c - zAR (3 * r + 2)] else [])) ++ (List.range 5).flatMap (fun q : Nat => if zAF (4 * q) = c ∨ zAF (4 * q + 1) = c ∨ zAF (4 * q + 2) = c ∨ zAF (4 * q + 3) = c then [zAF (4 * q), zAF (4 * q + 1), zAF (4 * q + 2), zAF (4 * q + 3)] else []))
def alR (c : Int) (r : Nat) : List Int := (if zAR (3 * r) ≤ c ∧ c ≤ zAR (3 * r + 1) then [c + zAR (3 * r + 2)] else []) ++ (if zAR (3 * r) + zAR (3 * r + 2) ≤ c ∧ c ≤ zAR (3 * r + 1) + zAR (3 * r + 2) then [c - zAR (3 * r + 2)] else [])
def alG (c : Int) (q : Nat) : List Int := if zAF (4 * q) = c ∨ zAF (4 * q + 1) = c ∨ zAF (4 * q + 2) = c ∨ zAF (4 * q + 3) = c then [zAF (4 * q), zAF (4 * q + 1), zAF (4 * q + 2), zAF (4 * q + 3)] else []
theorem zAR_sep : ∀ m : Nat, m < 6 → zAR (3 * m + 1) < zAR (3 * m) + zAR (3 * m + 2) := by decide +kernel
theorem alR_1 {c : Int} {r : Nat} (h : r < 6) : (alR c r).length ≤ 1 := by
  have t := zAR_sep r h
  unfold alR
  by_cases h1 : zAR (3 * r) ≤ c ∧ c ≤ zAR (3 * r + 1)
  · rw [if_pos h1, if_neg (by omega)]; simp
  · rw [if_neg h1]
    split <;> simp
theorem fm_le {f : Nat → List Int} : ∀ l : List Nat, (∀ x ∈ l, (f x).length ≤ 1) → (l.flatMap f).length ≤ l.length := by
  intro l
  induction l with
  | nil => intro _; simp
  | cons x l ih =>
    intro h
    have h1 := h x List.mem_cons_self
    have h2 := ih (fun y hy => h y (List.mem_cons_of_mem _ hy))
    rw [List.flatMap_cons, List.length_append, List.length_cons]
    omega
theorem alG_4 (c : Int) : ((List.range 5).flatMap (alG c)).length ≤ 4 := by
  have e : (List.range 5).flatMap (alG c) = alG c 0 ++ (alG c 1 ++ (alG c 2 ++ (alG c 3 ++ (alG c 4 ++ [])))) := rfl
  have e0 : alG c 0 = if (75 : Int) = c ∨ (107 : Int) = c ∨ (8490 : Int) = c ∨ (8490 : Int) = c then [75, 107, 8490, 8490] else [] := rfl
  have e1 : alG c 1 = if (83 : Int) = c ∨ (115 : Int) = c ∨ (383 : Int) = c ∨ (383 : Int) = c then [83, 115, 383, 383] else [] := rfl
  have e2 : alG c 2 = if (197 : Int) = c ∨ (229 : Int) = c ∨ (8491 : Int) = c ∨ (8491 : Int) = c then [197, 229, 8491, 8491] else [] := rfl
  have e3 : alG c 3 = if (181 : Int) = c ∨ (924 : Int) = c ∨ (956 : Int) = c ∨ (956 : Int) = c then [181, 924, 956, 956] else [] := rfl
  have e4 : alG c 4 = if (930 : Int) = c ∨ (931 : Int) = c ∨ (962 : Int) = c ∨ (963 : Int) = c then [930, 931, 962, 963] else [] := rfl
  rw [e, e0, e1, e2, e3, e4]
  by_cases h0 : (75 : Int) = c ∨ (107 : Int) = c ∨ (8490 : Int) = c ∨ (8490 : Int) = c
  · rw [if_pos h0, if_neg (by omega), if_neg (by omega), if_neg (by omega), if_neg (by omega)]; simp
  · rw [if_neg h0]
    by_cases h1 : (83 : Int) = c ∨ (115 : Int) = c ∨ (383 : Int) = c ∨ (383 : Int) = c
    · rw [if_pos h1, if_neg (by omega), if_neg (by omega), if_neg (by omega)]; simp
    · rw [if_neg h1]
      by_cases h2 : (197 : Int) = c ∨ (229 : Int) = c ∨ (8491 : Int) = c ∨ (8491 : Int) = c
      · rw [if_pos h2, if_neg (by omega), if_neg (by omega)]; simp
      · rw [if_neg h2]
        by_cases h3 : (181 : Int) = c ∨ (924 : Int) = c ∨ (956 : Int) = c ∨ (956 : Int) = c
        · rw [if_pos h3, if_neg (by omega)]; simp
        · rw [if_neg h3]
          split <;> simp
theorem alF_len {c : Int} (_h : 0 ≤ c) : (alF c).length ≤ 11 := by
  have h1 := fm_le (f := alR c) (List.range 6) (fun x hx => alR_1 (List.mem_range.mp hx))
  have h2 := alG_4 c
  have e : alF c = c :: ((List.range 6).flatMap (alR c) ++ (List.range 5).flatMap (alG c)) := rfl
  rw [e, List.length_cons, List.length_append]
  rw [List.length_range] at h1
  omega
theorem alF_mem {c x : Int} (h : alike c c x) : x ∈ alF c := by
  unfold alF
  rcases h with h | ⟨r, r0, r1, h⟩ | ⟨q, q0, q1, ⟨j, j0, j1, j2, j3⟩, ⟨k, k0, k1, k2⟩⟩
  · exact List.mem_cons.mpr (Or.inl (by omega))
  · refine List.mem_cons.mpr (Or.inr (List.mem_append.mpr (Or.inl (List.mem_flatMap.mpr ⟨r.toNat, List.mem_range.mpr (by omega), ?_⟩))))
    rw [show ((r.toNat : Nat) : Int) = r by omega]
    rcases h with h | h
    · rw [if_pos (by omega)]
      exact List.mem_append.mpr (Or.inl (List.mem_singleton.mpr (by omega)))
    · rw [if_pos (c := zAR (3 * r) + zAR (3 * r + 2) ≤ c ∧ c ≤ zAR (3 * r + 1) + zAR (3 * r + 2)) (by omega)]
      exact List.mem_append.mpr (Or.inr (List.mem_singleton.mpr (by omega)))
  · refine List.mem_cons.mpr (Or.inr (List.mem_append.mpr (Or.inr (List.mem_flatMap.mpr ⟨q.toNat, List.mem_range.mpr (by omega), ?_⟩))))
    rw [show ((q.toNat : Nat) : Int) = q by omega]
    have e : zAF j = c := by omega
    have hj : zAF (4 * q) = c ∨ zAF (4 * q + 1) = c ∨ zAF (4 * q + 2) = c ∨ zAF (4 * q + 3) = c := by
      rcases (show j = 4 * q ∨ j = 4 * q + 1 ∨ j = 4 * q + 2 ∨ j = 4 * q + 3 by omega) with t | t | t | t <;> rw [← t] <;> simp [e]
    rw [if_pos hj, k2]
    rcases (show k = 4 * q ∨ k = 4 * q + 1 ∨ k = 4 * q + 2 ∨ k = 4 * q + 3 by omega) with t | t | t | t <;> rw [t] <;> simp
