/-! bytes out of an int -/
theorem z_and255 (y : Int32) : ∃ v : Int, (0 ≤ v ∧ v ≤ 255) ∧ y &&& Int32.ofInt 255 = Int32.ofInt v := by
  have h : (y &&& Int32.ofInt 255).toBitVec.toNat ≤ 255 := by
    rw [Int32.toBitVec_and, BitVec.toNat_and]
    exact Nat.le_trans Nat.and_le_right (by decide)
  refine ⟨((y &&& Int32.ofInt 255).toBitVec.toNat : Int), by omega, ?_⟩
  apply Int32.toBitVec_inj.mp
  apply BitVec.eq_of_toNat_eq
  rw [Int32.toBitVec_ofInt, z_nat ⟨by omega, by omega⟩]
  omega
section PxRows
variable {X : ab_X} {M : ab_Y} {d : Nat} {G : ab_G} {pc : Nat} {L : List (Option Value)} {st : List Value} {Q : Outcome → ab_G → Prop}
theorem zz_aald {o : Nat → Nat} {a l n : Nat} {f : Nat → Option Nat} {i : Int} (hd : decode M.2.2.1 pc = .ok (.aaload, 1)) (hG : cc o G a l (ab_rr n f)) (hi : 0 ≤ i ∧ i < (n : Int) ∧ i ≤ 2147483647) (k0 : f i.toNat = none → ab_W X M d G (pc + 1) L (vN :: st) Q) (k1 : ∀ b : Nat, f i.toNat = some b → ab_W X M d G (pc + 1) L (vR b :: st) Q) : ab_W X M d G pc L (vz i :: .ref a :: st) Q := by
  refine ab_aald hd hG.2.2 (z_in hi) ?_
  rw [z_tn ⟨hi.1, hi.2.2⟩]
  cases h : f i.toNat with
  | none => exact k0 h
  | some b => exact k1 b h
end PxRows
