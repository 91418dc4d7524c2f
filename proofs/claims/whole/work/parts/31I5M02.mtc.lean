/-- why match throws -/
def mtT (PG : Nat → Option Nat) (sl n hw mc fr : Int) : Prop := npg PG sl ∨ ¬ ((0 ≤ hw ∧ hw ≤ 2) ∧ (0 ≤ mc ∧ mc ≤ 4) ∧ 0 ≤ fr ∧ fr ≤ n)
