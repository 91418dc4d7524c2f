/-! rows that have a list; what is written up to a limit -/
section Wr2
variable {F F2 : Int → Int}
theorem rwL_app : ∀ (L M : List Int) (k : Nat), rwL F k (L ++ M) ↔ rwL F k L ∧ rwL F (k + L.length) M := by
  intro L
  induction L with
  | nil =>
    intro M k
    rw [List.nil_append]
    exact ⟨fun h => ⟨trivial, h⟩, fun h => h.2⟩
  | cons x t ih =>
    intro M k
    show F (k : Int) = x ∧ rwL F (k + 1) (t ++ M) ↔ (F (k : Int) = x ∧ rwL F (k + 1) t) ∧ rwL F (k + (t.length + 1)) M
    rw [ih M (k + 1), show k + 1 + t.length = k + (t.length + 1) by omega, and_assoc]
theorem rwL_cg : ∀ (L : List Int) (k : Nat), rwL F k L → (∀ i : Int, (k : Int) ≤ i → i < (k : Int) + (L.length : Int) → F2 i = F i) → rwL F2 k L := by
  intro L
  induction L with
  | nil => intro k _ _; trivial
  | cons x t ih =>
    intro k h q
    have el : ((x :: t).length : Int) = (t.length : Int) + 1 := by rw [List.length_cons]; omega
    exact ⟨(q k (by omega) (by omega)).trans h.1, ih (k + 1) h.2 (fun i i0 i1 => q i (by omega) (by omega))⟩
theorem rwL_eq : ∀ (L : List Int) (k : Nat), rwL F k L → rwL F2 k L → ∀ i : Int, (k : Int) ≤ i → i < (k : Int) + (L.length : Int) → F i = F2 i := by
  intro L
  induction L with
  | nil => intro k _ _ i i0 i1; exfalso; have e : (([] : List Int).length : Int) = 0 := rfl; omega
  | cons x t ih =>
    intro k h q i i0 i1
    have el : ((x :: t).length : Int) = (t.length : Int) + 1 := by rw [List.length_cons]; omega
    by_cases c : i = (k : Int)
    · rw [c, h.1, q.1]
    · exact ih (k + 1) h.2 q.2 i (by omega) (by omega)
theorem rwL_sb {f : Int → Int} : ∀ (m : Nat) (k : Nat) (a : Int), (∀ i : Int, 0 ≤ i → i < (m : Int) → F ((k : Int) + i) = f (a + i)) → rwL F k (sbL f m a) := by
  intro m
  induction m with
  | zero => intro k a _; trivial
  | succ m ih =>
    intro k a h
    have h0 := h 0 (by omega) (by omega)
    rw [Int.add_zero, Int.add_zero] at h0
    refine ⟨h0, ih (k + 1) (a + 1) (fun i i0 i1 => ?_)⟩
    have t := h (i + 1) (by omega) (by omega)
    rw [show ((k + 1 : Nat) : Int) + i = (k : Int) + (i + 1) by omega, show a + 1 + i = a + (i + 1) by omega]
    exact t
end Wr2
/-- the class: so much is in the row, or it was too much -/
def wcR (F : Int → Int) (sz ft : Int) (O : List Int) : Prop := (ft = 1 ∧ sz = (O.length : Int) ∧ sz ≤ 6000 ∧ rwL F 0 O) ∨ (ft = 0 ∧ 6000 < O.length)
/-- the reference -/
def wmR (F : Int → Int) (m tm : Int) (O : List Int) : Prop := (tm = 0 ∧ m = (O.length : Int) ∧ m ≤ 6000 ∧ rwL F 0 O) ∨ (tm = 1 ∧ 6000 < O.length)
section Wc
variable {F F2 f : Int → Int} {sz sz2 ft m tm x a b : Int} {O L : List Int}
theorem wcR_0 (h : sz = 0) : wcR F sz 1 [] := Or.inl ⟨rfl, h, by omega, trivial⟩
theorem wmR_0 (h : m = 0) : wmR F m 0 [] := Or.inl ⟨rfl, h, by omega, trivial⟩
/-- what was too much stays so -/
theorem wcR.more (h : wcR F sz 0 O) : wcR F2 sz2 0 (O ++ L) := by
  rcases h with ⟨h, _⟩ | ⟨_, h⟩
  · exact absurd h (by decide)
  · exact Or.inr ⟨rfl, by rw [List.length_append]; omega⟩
theorem wmR.more (h : wmR F m 1 O) : wmR F2 sz2 1 (O ++ L) := by
  rcases h with ⟨h, _⟩ | ⟨_, h⟩
  · exact absurd h (by decide)
  · exact Or.inr ⟨rfl, by rw [List.length_append]; omega⟩
theorem wcR.add (h : wcR F sz 1 O) (hs : sz2 = sz + 1) (hl : sz2 ≤ 6000) (hk : ∀ k : Int, 0 ≤ k → k < sz → F2 k = F k) (hx : F2 sz = x) : wcR F2 sz2 1 (O ++ [x]) := by
  rcases h with ⟨_, h1, h2, h3⟩ | ⟨h, _⟩
  · refine Or.inl ⟨rfl, by rw [List.length_append]; show sz2 = ((O.length + 1 : Nat) : Int); omega, hl, (rwL_app O [x] 0).mpr ⟨rwL_cg O 0 h3 (fun i i0 i1 => hk i (by omega) (by omega)), ?_, trivial⟩⟩
    rw [show ((0 + O.length : Nat) : Int) = sz by omega]
    exact hx
  · exact absurd h (by decide)
theorem wcR.full (h : wcR F sz 1 O) (hs : sz = 6000) : wcR F2 sz2 0 (O ++ [x]) := by
  rcases h with ⟨_, h1, h2, h3⟩ | ⟨h, _⟩
  · exact Or.inr ⟨rfl, by rw [List.length_append]; show 6000 < O.length + 1; omega⟩
  · exact absurd h (by decide)
theorem wcR.all (h : wcR F sz 1 O) (ha : a ≤ b) (hs : sz2 = sz + (b - a)) (hl : sz2 ≤ 6000) (hk : ∀ k : Int, 0 ≤ k → k < sz → F2 k = F k) (hx : ∀ k : Int, sz ≤ k → k < sz + (b - a) → F2 k = f (a + (k - sz))) : wcR F2 sz2 1 (O ++ sbR f a b) := by
  rcases h with ⟨_, h1, h2, h3⟩ | ⟨h, _⟩
  · have e : ((sbR f a b).length : Int) = b - a := by unfold sbR; rw [sbL_len]; omega
    refine Or.inl ⟨rfl, by rw [List.length_append]; omega, hl, (rwL_app O _ 0).mpr ⟨rwL_cg O 0 h3 (fun i i0 i1 => hk i (by omega) (by omega)), rwL_sb _ _ _ (fun i i0 i1 => ?_)⟩⟩
    rw [show ((0 + O.length : Nat) : Int) + i = sz + i by omega, hx (sz + i) (by omega) (by omega)]
    congr 1; omega
  · exact absurd h (by decide)
theorem wcR.over (h : wcR F sz 1 O) (ha : a ≤ b) (hl : 6000 < sz + (b - a)) : wcR F2 sz2 0 (O ++ sbR f a b) := by
  rcases h with ⟨_, h1, h2, h3⟩ | ⟨h, _⟩
  · have e : ((sbR f a b).length : Int) = b - a := by unfold sbR; rw [sbL_len]; omega
    exact Or.inr ⟨rfl, by rw [List.length_append]; omega⟩
  · exact absurd h (by decide)
theorem wmR.add (h : wmR F m 0 O) (hl : m < 6000) : wmR (zu F m x) (m + 1) 0 (O ++ [x]) := by
  rcases h with ⟨_, h1, h2, h3⟩ | ⟨h, _⟩
  · refine Or.inl ⟨rfl, by rw [List.length_append]; show m + 1 = ((O.length + 1 : Nat) : Int); omega, by omega, (rwL_app O [x] 0).mpr ⟨rwL_cg O 0 h3 (fun i i0 i1 => zu_ne (by omega)), ?_, trivial⟩⟩
    rw [show ((0 + O.length : Nat) : Int) = m by omega, zu_self]
  · exact absurd h (by decide)
theorem wmR.full (h : wmR F m 0 O) (hl : m = 6000) : wmR F2 sz2 1 (O ++ [x]) := by
  rcases h with ⟨_, h1, h2, h3⟩ | ⟨h, _⟩
  · exact Or.inr ⟨rfl, by rw [List.length_append]; show 6000 < O.length + 1; omega⟩
  · exact absurd h (by decide)
/-- both sides: the same is thrown, and the same stands there -/
theorem wc_wm (h : wcR F sz ft O) (q : wmR F2 m tm O) : tm = 1 - ft ∧ (ft = 1 → sz = m ∧ ∀ i : Int, 0 ≤ i → i < sz → F i = F2 i) := by
  rcases h with ⟨h0, h1, h2, h3⟩ | ⟨h0, h1⟩ <;> rcases q with ⟨q0, q1, q2, q3⟩ | ⟨q0, q1⟩
  · exact ⟨by omega, fun _ => ⟨by omega, fun i i0 i1 => rwL_eq O 0 h3 q3 i (by omega) (by omega)⟩⟩
  · exfalso; omega
  · exfalso; omega
  · exact ⟨by omega, fun z => by omega⟩
end Wc
