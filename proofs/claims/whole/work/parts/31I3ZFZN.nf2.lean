/-! what fault, about and name answer -/
def ftR (x fa fp v : Int) : Prop := (x = 0 ∧ v = fa) ∨ (x = 1 ∧ v = fp) ∨ ((x < 0 ∨ 1 < x) ∧ v = -1)
def abM (A GR SZ FL : Int → Int) (x y v : Int) : Prop := (nth A x ∧ v = -1) ∨ (0 ≤ x ∧ x < 6 ∧ A x = 1 ∧ ((y = 0 ∧ v = GR x) ∨ (y = 1 ∧ v = SZ x) ∨ (y = 2 ∧ v = FL x) ∨ ((y < 0 ∨ 2 < y) ∧ v = -1)))
def nmM (A NZ NO : Int → Int) (x y z v : Int) : Prop := (nth A x ∧ v = -1) ∨ (0 ≤ x ∧ x < 6 ∧ A x = 1 ∧ (((1 ≤ y ∧ y ≤ 9 ∧ 0 ≤ z ∧ z < NZ (10 * x + y)) ∧ v = NO (120 * x + 12 * y + z)) ∨ (¬ (1 ≤ y ∧ y ≤ 9 ∧ 0 ≤ z ∧ z < NZ (10 * x + y)) ∧ v = -1)))
theorem ftR_det {x fa fp v w : Int} (h : ftR x fa fp v) (g : ftR x fa fp w) : v = w := by
  unfold ftR at h g
  omega
