/-! what stands in the output: a byte of it; a quoted text -/
def ouR (F : Int → Int) (m x v : Int) : Prop := (0 ≤ x ∧ x < m ∧ v = F x) ∨ ((x < 0 ∨ m ≤ x) ∧ v = -1)
/-- the outputs are the same -/
def ouE (F : Int → Int) (m : Int) (F2 : Int → Int) (m2 : Int) : Prop := m = m2 ∧ ∀ i : Int, 0 ≤ i → i < m → F i = F2 i
theorem ouR_det {F F2 : Int → Int} {m m2 x v v2 : Int} (e : ouE F m F2 m2) (h : ouR F m x v) (q : ouR F2 m2 x v2) : v = v2 := by
  obtain ⟨e1, e2⟩ := e
  rcases h with ⟨h1, h2, h3⟩ | ⟨h1, h2⟩ <;> rcases q with ⟨q1, q2, q3⟩ | ⟨q1, q2⟩
  · rw [h3, q3]; exact e2 x h1 h2
  · omega
  · omega
  · rw [h2, q2]
def qtR (T : Int → Int) : Nat → List Int → Prop
  | 0, L => L = []
  | k + 1, L => ∃ L0 : List Int, qtR T k L0 ∧ ((T (k : Int) < 128 ∧ ¬ isW (T (k : Int)) ∧ L = L0 ++ [92, T (k : Int)]) ∨ ((128 ≤ T (k : Int) ∨ isW (T (k : Int))) ∧ L = L0 ++ [T (k : Int)]))
theorem qtR_det {T T2 : Int → Int} : ∀ (k : Nat) (L L2 : List Int), (∀ i : Int, 0 ≤ i → i < (k : Int) → T i = T2 i) → qtR T k L → qtR T2 k L2 → L = L2 := by
  intro k
  induction k with
  | zero => intro L L2 _ h q; rw [show L = [] from h, show L2 = [] from q]
  | succ k ih =>
    intro L L2 hT h q
    obtain ⟨L0, h1, h2⟩ := h
    obtain ⟨L1, q1, q2⟩ := q
    have e := ih L0 L1 (fun i a b => hT i a (by omega)) h1 q1
    have t := hT (k : Int) (by omega) (by omega)
    rw [← t] at q2
    rcases h2 with ⟨a1, a2, a3⟩ | ⟨a1, a2⟩ <;> rcases q2 with ⟨b1, b2, b3⟩ | ⟨b1, b2⟩
    · rw [a3, b3, e]
    · rcases b1 with b1 | b1
      · omega
      · exact absurd b1 a2
    · rcases a1 with a1 | a1
      · omega
      · exact absurd a1 b2
    · rw [a2, b2, e]
/-- the first i bytes, quoted, stand in the row -/
def qtI (T : Int → Int) (i : Int) (F : Int → Int) (m : Int) : Prop := 0 ≤ i ∧ ∃ L : List Int, qtR T i.toNat L ∧ m = (L.length : Int) ∧ rwL F 0 L
section Qt
variable {T F F1 F2 : Int → Int} {i m m2 : Int}
theorem qtI_0 (h : m = 0) : qtI T 0 F m := ⟨Int.le_refl 0, [], rfl, by rw [h]; rfl, trivial⟩
theorem qtC_1 (h : qtI T i F m) (c : 128 ≤ T i ∨ isW (T i)) (k1 : ∀ k : Int, 0 ≤ k → k < m → F1 k = F k) (v1 : F1 m = T i) (hm : m2 = m + 1) : qtI T (i + 1) F1 m2 := by
  obtain ⟨i0, L, h1, h2, h3⟩ := h
  have e : (i.toNat : Int) = i := by omega
  refine ⟨by omega, L ++ [T i], ?_, ?_, ?_⟩
  · rw [show (i + 1).toNat = i.toNat + 1 by omega]
    exact ⟨L, h1, Or.inr ⟨by rw [e]; exact c, by rw [e]⟩⟩
  · rw [List.length_append, List.length_singleton]; omega
  · refine (rwL_app L [T i] 0).mpr ⟨rwL_cg L 0 h3 (fun k a b => k1 k (by omega) (by omega)), ?_, trivial⟩
    rw [← v1, h2]
    congr 1
    omega
theorem qtC_2 (h : qtI T i F m) (c : T i < 128) (w : ¬ isW (T i)) (k1 : ∀ k : Int, 0 ≤ k → k < m → F1 k = F k) (v1 : F1 m = 92) (k2 : ∀ k : Int, 0 ≤ k → k < m + 1 → F2 k = F1 k) (v2 : F2 (m + 1) = T i) (hm : m2 = m + 1 + 1) : qtI T (i + 1) F2 m2 := by
  obtain ⟨i0, L, h1, h2, h3⟩ := h
  have e : (i.toNat : Int) = i := by omega
  refine ⟨by omega, L ++ [92, T i], ?_, ?_, ?_⟩
  · rw [show (i + 1).toNat = i.toNat + 1 by omega]
    exact ⟨L, h1, Or.inl ⟨by rw [e]; exact c, by rw [e]; exact w, by rw [e]⟩⟩
  · rw [List.length_append, show [92, T i].length = 2 from rfl]; omega
  · refine (rwL_app L [92, T i] 0).mpr ⟨rwL_cg L 0 h3 (fun k a b => by rw [k2 k (by omega) (by omega), k1 k (by omega) (by omega)]), ?_, ?_, trivial⟩
    · rw [← v1, ← k2 m (by omega) (by omega), h2]
      congr 1
      omega
    · rw [← v2, h2]
      congr 1
      omega
theorem qtI_1 (h : qtI T i F m) (c : 128 ≤ T i ∨ isW (T i)) : qtI T (i + 1) (zu F m (T i)) (m + 1) := qtC_1 h c (fun k a b => zu_ne (by omega)) (zu_self _ _ _) rfl
theorem qtI_2 (h : qtI T i F m) (c : T i < 128) (w : ¬ isW (T i)) : qtI T (i + 1) (zu (zu F m 92) (m + 1) (T i)) (m + 1 + 1) := qtC_2 h c w (fun k a b => zu_ne (by omega)) (zu_self _ _ _) (fun k a b => zu_ne (by omega)) (zu_self _ _ _) rfl
theorem qtI_det {T2 : Int → Int} {n : Int} (h : qtI T n F m) (q : qtI T2 n F2 m2) (hT : ∀ i : Int, 0 ≤ i → i < n → T i = T2 i) : ouE F m F2 m2 := by
  obtain ⟨n0, L, h1, h2, h3⟩ := h
  obtain ⟨_, L2, q1, q2, q3⟩ := q
  have e := qtR_det n.toNat L L2 (fun i a b => hT i a (by omega)) h1 q1
  rw [← e] at q2 q3
  exact ⟨by omega, fun i a b => rwL_eq L 0 h3 q3 i (by omega) (by omega)⟩
end Qt
