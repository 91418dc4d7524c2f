/-! shifts and masks over whole numbers -/
theorem z_divneg {x c : Int} (h : x ≤ 0) (hc : 0 < c) : x / c ≤ 0 := by
  have h1 : x / c < 1 := by
    rw [Int.ediv_lt_iff_lt_mul hc]
    omega
  omega
theorem z_shl {x s c : Int} {k : Nat} (h : (Int32.ofInt s &&& 31).toBitVec.smod 32 = BitVec.ofNat 32 k) (hp : BitVec.ofInt 32 c = BitVec.twoPow 32 k) (hk : k % 4294967296 = k) : Int32.ofInt x <<< (Int32.ofInt s &&& 31) = Int32.ofInt (x * c) := by
  apply Int32.toBitVec_inj.mp
  rw [Int32.toBitVec_shiftLeft, h, Int32.toBitVec_ofInt, Int32.toBitVec_ofInt, BitVec.ofInt_mul, hp, BitVec.shiftLeft_eq', BitVec.toNat_ofNat, BitVec.shiftLeft_eq_mul_twoPow, hk]
theorem z_shr {x s c : Int} {k : Nat} (h : (Int32.ofInt s &&& 31).toBitVec.smod 32 = BitVec.ofNat 32 k) (hk : k % 4294967296 = k) (hp : (2 : Int) ^ k = c) (hc : 1 ≤ c) (hx : -2147483648 ≤ x ∧ x ≤ 2147483647) : Int32.ofInt x >>> (Int32.ofInt s &&& 31) = Int32.ofInt (x / c) := by
  have h1 : x / c ≤ max x 0 := by
    rcases Int.le_total 0 x with q | q
    · have := Int.ediv_le_self c q; omega
    · have := z_divneg q (show 0 < c by omega); omega
  have h2 : min x 0 ≤ x / c := by
    rcases Int.le_total 0 x with q | q
    · have := Int.ediv_nonneg (b := c) q (by omega); omega
    · have : x ≤ x / c := by
        rw [Int.le_ediv_iff_mul_le (by omega)]
        have := Int.mul_le_mul_of_nonpos_left (a := x) (b := c) (c := 1) q (by omega)
        omega
      omega
  apply Int32.toInt_inj.mp
  rw [z_ti ⟨by omega, by omega⟩, ← Int32.toInt_toBitVec, Int32.toBitVec_shiftRight, h, BitVec.sshiftRight_eq', BitVec.toNat_ofNat, BitVec.toInt_sshiftRight, Int32.toInt_toBitVec, z_ti hx, Int.shiftRight_eq_div_pow, hk]
  rw [show ((2 ^ k : Nat) : Int) = c by rw [← hp]; exact_mod_cast rfl]
theorem z_and {x m c : Int} {k : Nat} (hm : (BitVec.ofInt 32 m).toNat = 2 ^ k - 1) (hp : (2 : Nat) ^ k = c.toNat) (hc : 1 ≤ c) (hd : c ∣ 4294967296) : Int32.ofInt x &&& Int32.ofInt m = Int32.ofInt (x % c) := by
  apply Int32.toBitVec_inj.mp
  apply BitVec.eq_of_toNat_eq
  rw [Int32.toBitVec_and, BitVec.toNat_and, Int32.toBitVec_ofInt, Int32.toBitVec_ofInt, Int32.toBitVec_ofInt, hm, Nat.and_two_pow_sub_one_eq_mod, hp, BitVec.toNat_ofInt, BitVec.toNat_ofInt]
  have e : x % ((2 ^ 32 : Nat) : Int) % c = x % c := Int.emod_emod_of_dvd x hd
  have l0 : 0 ≤ x % c := Int.emod_nonneg _ (by omega)
  have l1 : x % c < c := Int.emod_lt_of_pos _ (by omega)
  have lc : c ≤ 4294967296 := Int.le_of_dvd (by decide) hd
  have e2 : x % c % ((2 ^ 32 : Nat) : Int) = x % c := Int.emod_eq_of_lt l0 (by rw [show ((2 ^ 32 : Nat) : Int) = 4294967296 by decide]; omega)
  rw [e2, ← e]
  have l2 : 0 ≤ x % ((2 ^ 32 : Nat) : Int) := Int.emod_nonneg _ (by decide)
  obtain ⟨u, hu⟩ := Int.eq_ofNat_of_zero_le l2
  obtain ⟨w, hw⟩ := Int.eq_ofNat_of_zero_le (show 0 ≤ c by omega)
  rw [hu, hw]
  rfl
section ZBits
variable {X : ab_X} {M : ab_Y} {d : Nat} {G : ab_G} {pc : Nat} {L : List (Option Value)} {st : List Value} {Q : Outcome → ab_G → Prop}
theorem zz_ishl {x s : Int} (k : Nat) (c : Int) (hd : decode M.2.2.1 pc = .ok (.ishl, 1)) (h : (Int32.ofInt s &&& 31).toBitVec.smod 32 = BitVec.ofNat 32 k) (hp : BitVec.ofInt 32 c = BitVec.twoPow 32 k) (hk : k % 4294967296 = k) (kk : ab_W X M d G (pc + 1) L (vz (x * c) :: st) Q) : ab_W X M d G pc L (vz s :: vz x :: st) Q := ab_ishl hd (ab_topi (z_shl h hp hk) kk)
theorem zz_ishr {x s : Int} (k : Nat) (c : Int) (hd : decode M.2.2.1 pc = .ok (.ishr, 1)) (h : (Int32.ofInt s &&& 31).toBitVec.smod 32 = BitVec.ofNat 32 k) (hk : k % 4294967296 = k) (hp : (2 : Int) ^ k = c) (hc : 1 ≤ c) (hx : -2147483648 ≤ x ∧ x ≤ 2147483647) (kk : ab_W X M d G (pc + 1) L (vz (x / c) :: st) Q) : ab_W X M d G pc L (vz s :: vz x :: st) Q := ab_ishr hd (ab_topi (z_shr h hk hp hc hx) kk)
theorem zz_iand {x m : Int} (k : Nat) (c : Int) (hd : decode M.2.2.1 pc = .ok (.iand, 1)) (hm : (BitVec.ofInt 32 m).toNat = 2 ^ k - 1) (hp : (2 : Nat) ^ k = c.toNat) (hc : 1 ≤ c) (hv : c ∣ 4294967296) (kk : ab_W X M d G (pc + 1) L (vz (x % c) :: st) Q) : ab_W X M d G pc L (vz m :: vz x :: st) Q := ab_iand hd (ab_topi (z_and hm hp hc hv) kk)
/-- x >>> 1 of what is not below 0 -/
theorem zz_iushr1 {x : Int} (hd : decode M.2.2.1 pc = .ok (.iushr, 1)) (hx : 0 ≤ x ∧ x ≤ 2147483647) (kk : ab_W X M d G (pc + 1) L (vz (x / 2) :: st) Q) : ab_W X M d G pc L (vz 1 :: vz x :: st) Q := by
  refine ab_iushr hd (ab_topi ?_ kk)
  apply Int32.toBitVec_inj.mp
  apply BitVec.eq_of_toNat_eq
  rw [UInt32.toBitVec_toInt32, UInt32.toBitVec_shiftRight, Int32.toBitVec_toUInt32, Int32.toBitVec_ofInt, Int32.toBitVec_ofInt, BitVec.toNat_ofInt]
  have e : ((Int32.toUInt32 (Int32.ofInt 1) &&& Int32.toUInt32 31).toBitVec % 32) = 1#32 := by decide
  rw [e, BitVec.ushiftRight_eq', BitVec.toNat_ofNat, BitVec.toNat_ushiftRight, BitVec.toNat_ofInt]
  have e1 : x % ((2 ^ 32 : Nat) : Int) = x := Int.emod_eq_of_lt hx.1 (by rw [show ((2 ^ 32 : Nat) : Int) = 4294967296 by decide]; omega)
  have e2 : x / 2 % ((2 ^ 32 : Nat) : Int) = x / 2 := Int.emod_eq_of_lt (by omega) (by rw [show ((2 ^ 32 : Nat) : Int) = 4294967296 by decide]; omega)
  rw [e1, e2, Nat.shiftRight_eq_div_pow, show 2 ^ (1 % 2 ^ 32) = 2 by decide]
  omega
end ZBits
