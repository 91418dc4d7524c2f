/-- what class and reference read is one -/
theorem rd_ff {f : Int → Int} {n fl w r w2 r2 : Int} (h : rdF f n (fl % 16) w r) (h2 : rdF f n (fl % 16) w2 r2) : w = w2 ∧ r = r2 := rdF_det h h2
theorem rd_fc {f : Int → Int} {n fl w r g z : Int} {NS NM : Int → Int} (h : rdF f n (fl % 16) w r) (h2 : rdN f n (fl % 16) g z NS NM) : False := by
  obtain ⟨na, nl, q, _⟩ := h2
  exact rdFK h q
theorem rd_cf {f : Int → Int} {n fl w r g z : Int} {NA NL : Int → Int} (h : rdC f n fl g z NA NL) (h2 : rdF f n (fl % 16) w r) : False := by
  obtain ⟨na, nl, q, _⟩ := h
  exact rdFK h2 q
theorem rd_cc {f : Int → Int} {n fl g z g2 z2 : Int} {NA NL NS NM : Int → Int} (h : rdC f n fl g z NA NL) (h2 : rdN f n (fl % 16) g2 z2 NS NM) : g = g2 ∧ z = z2 ∧ ∀ k : Int, 1 ≤ k → k ≤ g → NL k = NM k ∧ ∀ j : Int, 0 ≤ j → j < NL k → f (NA k + j) = NS (12 * k + j) := by
  obtain ⟨na, nl, q1, q2⟩ := h
  obtain ⟨na', nl', q3, q4⟩ := h2
  obtain ⟨e1, e2, e3, e4⟩ := rdK_det q1 q3
  subst e3 e4
  refine ⟨e1, e2, fun k k1 k2 => ?_⟩
  obtain ⟨a, b⟩ := q2 k k1 k2
  obtain ⟨c, d⟩ := q4 k k1 (by omega)
  refine ⟨b.trans c.symm, fun j j0 j1 => ?_⟩
  rw [a, d j j0 (by omega)]
