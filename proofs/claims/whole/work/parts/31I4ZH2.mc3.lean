/-! a row of steps that follow each other; loops that wait to be closed -/
def rsq (RO : Int → Int) (r m n0 : Int) : Prop := ∀ k : Int, 0 ≤ k → k < m → RO (r + k) = n0 + k
def spl (T : Int → Int) (b n0 n : Int) : Prop := ∀ j : Int, n0 ≤ j → j < n → T (b + j) = 3
/-- only steps from n1 to n2 got other targets, and they are good -/
def clr (N W N2 W2 : Int → Int) (b n1 m n : Int) : Prop := (∀ j : Int, (j < b + n1 ∨ b + n1 + m ≤ j) → N2 j = N j ∧ W2 j = W j) ∧ ∀ j : Int, n1 ≤ j → j < n1 + m → (0 ≤ N2 (b + j) ∧ N2 (b + j) < n) ∧ 0 ≤ W2 (b + j) ∧ W2 (b + j) < n
section Loops
variable {T N W N2 W2 RO RO2 : Int → Int} {b n0 n n1 r m v k : Int}
theorem rsq_0 : rsq RO r 0 n0 := fun k a c => by omega
theorem rsq_s (h : rsq RO r m n0) (hm : 0 ≤ m) (hv : v = n0 + m) : rsq (zu RO (r + m) v) r (m + 1) n0 := fun k a c => by
  by_cases e : k = m
  · subst e; rw [zu_self]; exact hv
  · rw [zu_ne (by omega)]; exact h k a (by omega)
theorem rsq_o {r2 : Int} (h : rsq RO r m n0) (hs : rsm RO RO2 r2) (hr : r + m ≤ r2) : rsq RO2 r m n0 := fun k a c => by
  rw [hs _ (by omega)]; exact h k a c
theorem rsq_ok (h : rsq RO r m n0) (hn : 0 ≤ n0 ∧ n0 + m ≤ n) : rokk RO r m n := fun k a c => by
  rw [h k a c]; omega
theorem spl_0 : spl T b n n := fun j a c => by omega
theorem spl_s (h : spl T b n0 n) : spl (zu T (b + n) 3) b n0 (n + 1) := fun j a c => by
  by_cases e : j = n
  · subst e; rw [zu_self]
  · rw [zu_ne (by omega)]; exact h j a (by omega)
theorem clr_0 : clr N W N W b n1 0 n := ⟨fun j _ => ⟨rfl, rfl⟩, fun j a c => by omega⟩
theorem clr_s {x y : Int} (h : clr N W N2 W2 b n1 m n) (hm : 0 ≤ m) (hx : 0 ≤ x ∧ x < n) (hy : 0 ≤ y ∧ y < n) : clr N W (zu N2 (b + (n1 + m)) x) (zu W2 (b + (n1 + m)) y) b n1 (m + 1) n := ⟨fun j a => by
  rw [zu_ne (by omega), zu_ne (by omega)]; exact h.1 j (by omega), fun j a c => by
  by_cases e : j = n1 + m
  · subst e; rw [zu_self, zu_self]; exact ⟨hx, hy⟩
  · rw [zu_ne (by omega), zu_ne (by omega)]; exact h.2 j a (by omega)⟩
end Loops
