/-! the reference: what compile keeps of the names -/
def cpS (N0 N1 A : Int → Int) (lo hi s : Int) : Prop := ∀ j, N1 j = if lo ≤ j ∧ j < hi then A (j - s) else N0 j
theorem cpS_0 {N0 A : Int → Int} {lo hi s : Int} (h : hi ≤ lo) : cpS N0 N0 A lo hi s := by
  intro j; rw [if_neg (by omega)]
theorem cpS_w {N0 N1 A : Int → Int} {lo hi h2 s : Int} (h : cpS N0 N1 A lo hi s) (e : h2 = hi) : cpS N0 N1 A lo h2 s := by
  rw [e]; exact h
theorem cpS_s {N0 N1 A : Int → Int} {lo hi h2 s i j : Int} (h : cpS N0 N1 A lo hi s) (e : h2 = hi + 1) (hlo : lo ≤ hi) (hi_ : i = hi) (hj : j = hi - s) : cpS N0 (zu N1 i (A j)) A lo h2 s := by
  intro x; subst hi_ hj e
  by_cases hx : x = i
  · subst hx; rw [zu_self, if_pos (by omega)]
  · rw [zu_ne hx, h x]
    by_cases hy : lo ≤ x ∧ x < i
    · rw [if_pos hy, if_pos (by omega)]
    · rw [if_neg hy, if_neg (by omega)]
def nzI (Z0 Z1 A : Int → Int) (nu s g : Int) : Prop := ∀ j, Z1 j = if 10 * s ≤ j ∧ j < 10 * s + g then (if 1 ≤ j - 10 * s ∧ j - 10 * s ≤ nu then A (j - 10 * s) else 0) else Z0 j
theorem nzI_0 {Z0 A : Int → Int} {nu s : Int} : nzI Z0 Z0 A nu s 0 := by
  intro j; rw [if_neg (by omega)]
theorem nzI_y {Z0 Z1 A : Int → Int} {nu s g g2 i : Int} (h : nzI Z0 Z1 A nu s g) (e : g2 = g + 1) (h1 : 1 ≤ g) (h2 : g ≤ nu) (hi : i = 10 * s + g) : nzI Z0 (zu Z1 i (A g)) A nu s g2 := by
  intro x; subst hi e
  by_cases hx : x = 10 * s + g
  · subst hx; rw [zu_self, if_pos (by omega), if_pos (by omega), show 10 * s + g - 10 * s = g by omega]
  · rw [zu_ne hx, h x]
    by_cases hy : 10 * s ≤ x ∧ x < 10 * s + g
    · rw [if_pos hy, if_pos (show 10 * s ≤ x ∧ x < 10 * s + (g + 1) by omega)]
    · rw [if_neg hy, if_neg (show ¬ (10 * s ≤ x ∧ x < 10 * s + (g + 1)) by omega)]
theorem nzI_n {Z0 Z1 A : Int → Int} {nu s g g2 i : Int} (h : nzI Z0 Z1 A nu s g) (e : g2 = g + 1) (h0 : 0 ≤ g) (h1 : g < 1 ∨ nu < g) (hi : i = 10 * s + g) : nzI Z0 (zu Z1 i 0) A nu s g2 := by
  intro x; subst hi e
  by_cases hx : x = 10 * s + g
  · subst hx; rw [zu_self, if_pos (by omega), if_neg (by omega)]
  · rw [zu_ne hx, h x]
    by_cases hy : 10 * s ≤ x ∧ x < 10 * s + g
    · rw [if_pos hy, if_pos (show 10 * s ≤ x ∧ x < 10 * s + (g + 1) by omega)]
    · rw [if_neg hy, if_neg (show ¬ (10 * s ≤ x ∧ x < 10 * s + (g + 1)) by omega)]
