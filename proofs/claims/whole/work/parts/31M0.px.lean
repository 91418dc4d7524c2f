/-! bytes out of an int -/
theorem z_and255 (y : Int32) : ∃ v : Int, (0 ≤ v ∧ v ≤ 255) ∧ y &&& Int32.ofInt 255 = Int32.ofInt v := by
  have h : (y &&& Int32.ofInt 255).toBitVec.toNat ≤ 255 := by
    rw [Int32.toBitVec_and, BitVec.toNat_and]
    exact Nat.le_trans Nat.and_le_right (by decide)
  refine ⟨((y &&& Int32.ofInt 255).toBitVec.toNat : Int), by omega, ?_⟩
  apply Int32.toBitVec_inj.mp
  apply BitVec.eq_of_toNat_eq
  rw [Int32.toBitVec_ofInt, z_nat ⟨by omega, by omega⟩]
  omega
