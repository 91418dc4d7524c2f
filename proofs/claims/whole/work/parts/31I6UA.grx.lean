/-! what the reference's group tells -/
def grX (im mg : Int) (KE : Int → Int) (k w v : Int) : Prop := ((im = 0 ∨ ¬ ((0 ≤ k ∧ k ≤ mg) ∧ 0 ≤ w ∧ w ≤ 1)) ∧ v = -1) ∨ ((im = 1 ∧ (0 ≤ k ∧ k ≤ mg) ∧ 0 ≤ w ∧ w ≤ 1) ∧ v = KE (2 * k + w))
