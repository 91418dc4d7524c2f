/-! sets of characters as ranges in order -/
def cs_mem (f : Int → Int) (n c : Int) : Prop := ∃ i : Int, 0 ≤ i ∧ i < n ∧ f (2 * i) ≤ c ∧ c ≤ f (2 * i + 1)
def cs_can (f : Int → Int) (n : Int) : Prop := ∀ i : Int, 0 ≤ i → i < n → 0 ≤ f (2 * i) ∧ f (2 * i) ≤ f (2 * i + 1) ∧ f (2 * i + 1) ≤ 1114111 ∧ (i + 1 < n → f (2 * i + 1) + 1 < f (2 * (i + 1)))
theorem cs_up {f : Int → Int} {n : Int} (h : cs_can f n) : ∀ (m : Nat) (i : Int), 0 ≤ i → i + (m : Int) + 1 < n → f (2 * i + 1) + 1 < f (2 * (i + m + 1)) := by
  intro m
  induction m with
  | zero =>
    intro i h0 h1
    have q := (h i h0 (by omega)).2.2.2 (by omega)
    rw [show i + ((0 : Nat) : Int) + 1 = i + 1 by omega]
    exact q
  | succ m ih =>
    intro i h0 h1
    have q := ih i h0 (by omega)
    have q2 := h (i + m + 1) (by omega) (by omega)
    have q3 := q2.2.2.2 (by omega)
    rw [show i + ((m + 1 : Nat) : Int) + 1 = i + m + 1 + 1 by omega]
    omega
theorem cs_lt {f : Int → Int} {n : Int} (h : cs_can f n) {i j : Int} (h0 : 0 ≤ i) (h1 : i < j) (h2 : j < n) : f (2 * i + 1) + 1 < f (2 * j) := by
  have q := cs_up h (j - i - 1).toNat i h0 (by omega)
  rw [show i + ((j - i - 1).toNat : Int) + 1 = j by omega] at q
  exact q
theorem cs_hs {f : Int → Int} {n : Int} (h : cs_can f n) : ∀ i j : Int, 0 ≤ i → i ≤ j → j < n → f (2 * i + 1) ≤ f (2 * j + 1) := by
  intro i j h0 h1 h2
  rcases Int.lt_or_eq_of_le h1 with q | q
  · have := cs_lt h h0 q h2
    have := (h j (by omega) h2).2.1
    omega
  · rw [q]
    exact Int.le_refl _
theorem cs_hf {f : Int → Int} {n : Int} (h : cs_can f n) : ∀ k : Int, 0 ≤ k → k < 2 * n → 0 ≤ f k ∧ f k ≤ 1114111 := by
  intro k h0 h1
  have q := h (k / 2) (by omega) (by omega)
  rcases (show k = 2 * (k / 2) ∨ k = 2 * (k / 2) + 1 by omega) with e | e
  · rw [e]; omega
  · rw [e]; omega
/-- a range is put in where those that it touches stood -/
theorem cs_put {f g : Int → Int} {n s t lo hi le mo : Int} (h : cs_can f n) (h0 : 0 ≤ s) (h1 : s ≤ t) (h2 : t ≤ n) (hl : 0 ≤ lo) (hlh : lo ≤ hi) (hh : hi ≤ 1114111)
    (ha : ∀ i : Int, 0 ≤ i → i < s → f (2 * i + 1) < lo - 1) (hb : ∀ i : Int, s ≤ i → i < n → lo - 1 ≤ f (2 * i + 1)) (hc : ∀ i : Int, s ≤ i → i < t → f (2 * i) ≤ hi + 1) (hd : t < n → hi + 1 < f (2 * t))
    (he : t = s → le = lo ∧ mo = hi) (hf : s < t → le = min lo (f (2 * s)) ∧ mo = max hi (f (2 * (t - 1) + 1)))
    (g1 : ∀ k : Int, 0 ≤ k → k < 2 * s → g k = f k) (g2 : g (2 * s) = le) (g3 : g (2 * s + 1) = mo) (g4 : ∀ k : Int, 2 * s + 2 ≤ k → k < 2 * (n + 1 - (t - s)) → g k = f (2 * t + (k - (2 * s + 2)))) :
    cs_can g (n + 1 - (t - s)) ∧ ∀ c : Int, cs_mem g (n + 1 - (t - s)) c ↔ cs_mem f n c ∨ (lo ≤ c ∧ c ≤ hi) := by
  have hle : 0 ≤ le ∧ le ≤ lo ∧ hi ≤ mo ∧ mo ≤ 1114111 := by
    rcases Int.lt_or_eq_of_le h1 with q | q
    · have q1 := hf q
      have q2 := h s h0 (by omega)
      have q3 := h (t - 1) (by omega) (by omega)
      omega
    · have q1 := he q.symm
      omega
  have gl : ∀ i : Int, 0 ≤ i → i < s → g (2 * i) = f (2 * i) ∧ g (2 * i + 1) = f (2 * i + 1) := fun i a b => ⟨g1 _ (by omega) (by omega), g1 _ (by omega) (by omega)⟩
  have gr : ∀ i : Int, s < i → i < n + 1 - (t - s) → g (2 * i) = f (2 * (i - s - 1 + t)) ∧ g (2 * i + 1) = f (2 * (i - s - 1 + t) + 1) := by
    intro i a b
    refine ⟨?_, ?_⟩
    · rw [g4 _ (by omega) (by omega)]; congr 1; omega
    · rw [g4 _ (by omega) (by omega)]; congr 1; omega
  have hmo : t < n → mo + 1 < f (2 * t) := by
    intro q
    rcases Int.lt_or_eq_of_le h1 with q1 | q1
    · have := (hf q1).2
      have := cs_lt h (i := t - 1) (j := t) (by omega) (by omega) q
      have := hd q
      omega
    · have := (he q1.symm).2
      have := hd q
      omega
  have hlb : ∀ i : Int, 0 ≤ i → i < s → f (2 * i + 1) + 1 < le := by
    intro i a b
    have := ha i a b
    rcases Int.lt_or_eq_of_le h1 with q1 | q1
    · have := (hf q1).1
      have := cs_lt h (i := i) (j := s) a b (by omega)
      omega
    · have := (he q1.symm).1
      omega
  refine ⟨fun i a b => ?_, fun c => ⟨?_, ?_⟩⟩
  · rcases Int.lt_trichotomy i s with q | q | q
    · have e := gl i a q
      have q1 := h i a (by omega)
      rw [e.1, e.2]
      refine ⟨q1.1, q1.2.1, q1.2.2.1, fun r => ?_⟩
      rcases Int.lt_or_eq_of_le (show i + 1 ≤ s by omega) with q2 | q2
      · rw [(gl (i + 1) (by omega) q2).1]
        exact q1.2.2.2 (by omega)
      · rw [q2, g2]
        exact hlb i a q
    · subst q
      rw [g2, g3]
      refine ⟨hle.1, by omega, hle.2.2.2, fun r => ?_⟩
      rw [(gr (i + 1) (by omega) r).1]
      have := hmo (by omega)
      rw [show i + 1 - i - 1 + t = t by omega]
      exact this
    · have e := gr i q b
      have q1 := h (i - s - 1 + t) (by omega) (by omega)
      rw [e.1, e.2]
      refine ⟨q1.1, q1.2.1, q1.2.2.1, fun r => ?_⟩
      rw [(gr (i + 1) (by omega) r).1]
      have := q1.2.2.2 (by omega)
      rw [show i + 1 - s - 1 + t = i - s - 1 + t + 1 by omega]
      exact this
  · rintro ⟨i, a, b, q1, q2⟩
    rcases Int.lt_trichotomy i s with q | q | q
    · rw [(gl i a q).1] at q1
      rw [(gl i a q).2] at q2
      exact Or.inl ⟨i, a, by omega, q1, q2⟩
    · subst q
      rw [g2] at q1
      rw [g3] at q2
      by_cases r : lo ≤ c ∧ c ≤ hi
      · exact Or.inr r
      · refine Or.inl ?_
        have r1 : i < t := by
          rcases Int.lt_or_eq_of_le h1 with z | z
          · exact z
          · have := he z.symm
            omega
        have r2 := hf r1
        by_cases r3 : c < lo
        · have r4 := hb i (by omega) (by omega)
          exact ⟨i, a, by omega, by omega, by omega⟩
        · have r4 := hc (t - 1) (by omega) (by omega)
          exact ⟨t - 1, by omega, by omega, by omega, by omega⟩
    · rw [(gr i q b).1] at q1
      rw [(gr i q b).2] at q2
      exact Or.inl ⟨i - s - 1 + t, by omega, by omega, q1, q2⟩
  · rintro (⟨i, a, b, q1, q2⟩ | ⟨q1, q2⟩)
    · by_cases r1 : i < s
      · exact ⟨i, a, by omega, by rw [(gl i a r1).1]; exact q1, by rw [(gl i a r1).2]; exact q2⟩
      · by_cases r2 : i < t
        · have r3 := hf (by omega)
          have r4 : f (2 * s) ≤ f (2 * i) := by
            rcases Int.lt_or_eq_of_le (show s ≤ i by omega) with z | z
            · have := cs_lt h h0 z b
              have := (h s h0 (by omega)).2.1
              omega
            · rw [z]; exact Int.le_refl _
          have r5 := cs_hs h i (t - 1) a (by omega) (by omega)
          exact ⟨s, h0, by omega, by rw [g2]; omega, by rw [g3]; omega⟩
        · refine ⟨i - t + s + 1, by omega, by omega, ?_, ?_⟩
          · rw [(gr _ (by omega) (by omega)).1, show i - t + s + 1 - s - 1 + t = i by omega]; exact q1
          · rw [(gr _ (by omega) (by omega)).2, show i - t + s + 1 - s - 1 + t = i by omega]; exact q2
    · exact ⟨s, h0, by omega, by rw [g2]; omega, by rw [g3]; omega⟩
