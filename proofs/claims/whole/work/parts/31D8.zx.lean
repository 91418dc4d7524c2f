theorem z_ex (y : Int32) : ∃ v : Int, (-2147483648 ≤ v ∧ v ≤ 2147483647) ∧ y = Int32.ofInt v := ⟨y.toInt, ⟨y.le_toInt, by have := y.toInt_lt; omega⟩, (Int32.ofInt_toInt y).symm⟩
theorem z_and1 (y : Int32) : ∃ v : Int, (0 ≤ v ∧ v ≤ 1) ∧ y &&& Int32.ofInt 1 = Int32.ofInt v := by
  have h : (y &&& Int32.ofInt 1).toBitVec.toNat ≤ 1 := by
    rw [Int32.toBitVec_and, BitVec.toNat_and]
    exact Nat.le_trans Nat.and_le_right (by decide)
  refine ⟨((y &&& Int32.ofInt 1).toBitVec.toNat : Int), by omega, ?_⟩
  apply Int32.toBitVec_inj.mp
  apply BitVec.eq_of_toNat_eq
  rw [Int32.toBitVec_ofInt, z_nat ⟨by omega, by omega⟩]
  omega
