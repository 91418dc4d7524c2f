/-! longs as whole numbers -/
theorem zl_i2l {x : Int} (h : -2147483648 ≤ x ∧ x ≤ 2147483647) : (Int32.ofInt x).toInt64 = Int64.ofInt x := by
  apply Int64.toInt_inj.mp
  rw [Int32.toInt_toInt64, Int32.toInt_ofInt_of_le (by simpa using h.1) (by have := h.2; show x < 2147483648; omega), Int64.toInt_ofInt_of_le (by show -9223372036854775808 ≤ x; omega) (by show x < 9223372036854775808; omega)]
theorem zl_ti {x : Int} (h : -9223372036854775808 ≤ x ∧ x ≤ 9223372036854775807) : (Int64.ofInt x).toInt = x :=
  Int64.toInt_ofInt_of_le (by show -9223372036854775808 ≤ x; omega) (by show x < 9223372036854775808; omega)
theorem zl_shl {x : Int} : Int64.ofInt x <<< ((Int32.ofInt 32).toInt64 &&& 63) = Int64.ofInt (x * 4294967296) := by
  apply Int64.toBitVec_inj.mp
  rw [Int64.toBitVec_shiftLeft, show ((Int32.ofInt 32).toInt64 &&& 63).toBitVec.smod 64 = BitVec.ofNat 64 32 by decide, Int64.toBitVec_ofInt, Int64.toBitVec_ofInt, BitVec.ofInt_mul, show BitVec.ofInt 64 4294967296 = BitVec.twoPow 64 32 by decide, BitVec.shiftLeft_eq', BitVec.toNat_ofNat, BitVec.shiftLeft_eq_mul_twoPow, show 32 % 2 ^ 64 = 32 by decide]
theorem zl_shr {x : Int} (hx : -9223372036854775808 ≤ x ∧ x ≤ 9223372036854775807) : Int64.ofInt x >>> ((Int32.ofInt 32).toInt64 &&& 63) = Int64.ofInt (x / 4294967296) := by
  apply Int64.toInt_inj.mp
  rw [zl_ti (x := x / 4294967296) (by omega)]
  rw [← Int64.toInt_toBitVec, Int64.toBitVec_shiftRight, show ((Int32.ofInt 32).toInt64 &&& 63).toBitVec.smod 64 = BitVec.ofNat 64 32 by decide, Int64.toBitVec_ofInt, BitVec.sshiftRight_eq', BitVec.toInt_sshiftRight, BitVec.toNat_ofNat, ← Int64.toBitVec_ofInt, Int64.toInt_toBitVec, zl_ti hx, show 32 % 2 ^ 64 = 32 by decide, Int.shiftRight_eq_div_pow]
  rfl
theorem zl_nat {x : Int} (h : 0 ≤ x ∧ x ≤ 9223372036854775807) : (BitVec.ofInt 64 x).toNat = x.toNat := by
  rw [BitVec.toNat_ofInt, Int.emod_eq_of_lt h.1 (by rw [show ((2 ^ 64 : Nat) : Int) = 18446744073709551616 by decide]; omega)]
theorem zl_or {a y : Int} (h : 0 ≤ a ∧ a ≤ 2000000000 ∧ 0 ≤ y ∧ y < 4294967296) : Int64.ofInt (a * 4294967296) ||| Int64.ofInt y = Int64.ofInt (a * 4294967296 + y) := by
  apply Int64.toBitVec_inj.mp
  apply BitVec.eq_of_toNat_eq
  rw [Int64.toBitVec_or, BitVec.toNat_or, Int64.toBitVec_ofInt, Int64.toBitVec_ofInt, Int64.toBitVec_ofInt, zl_nat ⟨by omega, by omega⟩, zl_nat ⟨by omega, by omega⟩, zl_nat ⟨by omega, by omega⟩]
  have e1 : (a * 4294967296).toNat = 2 ^ 32 * a.toNat := by
    rw [show (2 : Nat) ^ 32 = 4294967296 by decide]; omega
  have e2 : (a * 4294967296 + y).toNat = 2 ^ 32 * a.toNat + y.toNat := by
    rw [show (2 : Nat) ^ 32 = 4294967296 by decide]; omega
  rw [e1, e2, Nat.two_pow_add_eq_or_of_lt (by rw [show (2 : Nat) ^ 32 = 4294967296 by decide]; omega)]
theorem z_mulb {a b A B : Int} (h : 0 ≤ a ∧ a ≤ A) (k : 0 ≤ b ∧ b ≤ B) : 0 ≤ a * b ∧ a * b ≤ A * B := ⟨Int.mul_nonneg h.1 k.1, Int.mul_le_mul h.2 k.2 k.1 (by omega)⟩
section ZLong
variable {X : ab_X} {M : ab_Y} {d : Nat} {G : ab_G} {pc : Nat} {L : List (Option Value)} {st : List Value} {Q : Outcome → ab_G → Prop}
theorem zz_topj {x y : Int} (h : x = y) (k : ab_W X M d G pc L (vj y :: st) Q) : ab_W X M d G pc L (vj x :: st) Q := h ▸ k
theorem zz_lconst {n : Fin 2} (hd : decode M.2.2.1 pc = .ok (.lconst n, 1)) (k : ab_W X M d G (pc + 1) L (vj ((n : Nat) : Int) :: st) Q) : ab_W X M d G pc L st Q := ab_lconst hd (Int64.ofInt_eq_ofNat).symm k
theorem zz_ldc2 {i : Nat} (v : Int) (hd : decode M.2.2.1 pc = .ok (.ldc2_w i, 3)) (hw : Cond.constantLong M.1 i (Int64.ofInt v) ∈ lw_tbl) (k : ab_W X M d G (pc + 3) L (vj v :: st) Q) : ab_W X M d G pc L st Q := ab_ldc2 hd hw k
theorem zz_ladd {x y : Int} (hd : decode M.2.2.1 pc = .ok (.ladd, 1)) (k : ab_W X M d G (pc + 1) L (vj (x + y) :: st) Q) : ab_W X M d G pc L (vj y :: vj x :: st) Q := ab_ladd hd (by rw [← Int64.ofInt_add]; exact k)
theorem zz_lsub {x y : Int} (hd : decode M.2.2.1 pc = .ok (.lsub, 1)) (k : ab_W X M d G (pc + 1) L (vj (x - y) :: st) Q) : ab_W X M d G pc L (vj y :: vj x :: st) Q := ab_lsub hd (by rw [← Int64.ofInt_sub]; exact k)
theorem zz_lmul {x y : Int} (hd : decode M.2.2.1 pc = .ok (.lmul, 1)) (k : ab_W X M d G (pc + 1) L (vj (x * y) :: st) Q) : ab_W X M d G pc L (vj y :: vj x :: st) Q := ab_lmul hd (by rw [← Int64.ofInt_mul]; exact k)
theorem zz_i2l {x : Int} (hd : decode M.2.2.1 pc = .ok (.i2l, 1)) (h : -2147483648 ≤ x ∧ x ≤ 2147483647) (k : ab_W X M d G (pc + 1) L (vj x :: st) Q) : ab_W X M d G pc L (vz x :: st) Q := ab_i2l hd (by rw [zl_i2l h]; exact k)
theorem zz_l2i {x : Int} (hd : decode M.2.2.1 pc = .ok (.l2i, 1)) (k : ab_W X M d G (pc + 1) L (vz x :: st) Q) : ab_W X M d G pc L (vj x :: st) Q := ab_l2i hd (by rw [Int64.toInt32_ofInt]; exact k)
theorem zz_l2iu {x : Int} (hd : decode M.2.2.1 pc = .ok (.l2i, 1)) (h : 0 ≤ x ∧ x % 4294967296 ≤ 2147483647) (k : ab_W X M d G (pc + 1) L (vz (x % 4294967296) :: st) Q) : ab_W X M d G pc L (vj x :: st) Q := zz_l2i hd (ab_topi (by
    apply Int32.toBitVec_inj.mp
    rw [Int32.toBitVec_ofInt, Int32.toBitVec_ofInt]
    apply BitVec.eq_of_toInt_eq
    rw [BitVec.toInt_ofInt, BitVec.toInt_ofInt, show ((2 ^ 32 : Nat)) = 4294967296 by decide]
    exact (Int.emod_bmod x 4294967296).symm) k)
theorem zz_lshl {x : Int} (hd : decode M.2.2.1 pc = .ok (.lshl, 1)) (k : ab_W X M d G (pc + 1) L (vj (x * 4294967296) :: st) Q) : ab_W X M d G pc L (vz 32 :: vj x :: st) Q := ab_lshl hd (by rw [zl_shl]; exact k)
theorem zz_lshr {x : Int} (hd : decode M.2.2.1 pc = .ok (.lshr, 1)) (h : -9223372036854775808 ≤ x ∧ x ≤ 9223372036854775807) (k : ab_W X M d G (pc + 1) L (vj (x / 4294967296) :: st) Q) : ab_W X M d G pc L (vz 32 :: vj x :: st) Q := ab_lshr hd (by rw [zl_shr h]; exact k)
theorem zz_lor {a y : Int} (hd : decode M.2.2.1 pc = .ok (.lor, 1)) (h : 0 ≤ a ∧ a ≤ 2000000000 ∧ 0 ≤ y ∧ y < 4294967296) (k : ab_W X M d G (pc + 1) L (vj (a * 4294967296 + y) :: st) Q) : ab_W X M d G pc L (vj y :: vj (a * 4294967296) :: st) Q := ab_lor hd (by rw [zl_or h]; exact k)
theorem zz_lcmp {x y : Int} (hd : decode M.2.2.1 pc = .ok (.lcmp, 1)) (hx : -9223372036854775808 ≤ x ∧ x ≤ 9223372036854775807) (hy : -9223372036854775808 ≤ y ∧ y ≤ 9223372036854775807) (k1 : x < y → ab_W X M d G (pc + 1) L (vz (-1) :: st) Q) (k2 : y ≤ x → x ≤ y → ab_W X M d G (pc + 1) L (vz 0 :: st) Q) (k3 : y < x → ab_W X M d G (pc + 1) L (vz 1 :: st) Q) : ab_W X M d G pc L (vj y :: vj x :: st) Q := by
  have h1 : (Int64.ofInt x < Int64.ofInt y) ↔ x < y := by rw [Int64.lt_iff_toInt_lt, zl_ti hx, zl_ti hy]
  have h2 : (Int64.ofInt x = Int64.ofInt y) ↔ x = y := by rw [← Int64.toInt_inj, zl_ti hx, zl_ti hy]
  refine ab_lcmp hd ?_
  unfold lg_cmp
  have e3 : (-1 : Int32) = Int32.ofInt (-1) := by decide
  have e1 : (1 : Int32) = Int32.ofInt 1 := by decide
  have e0 : (0 : Int32) = Int32.ofInt 0 := by decide
  have h3 : (Int64.ofInt y < Int64.ofInt x) ↔ y < x := by rw [Int64.lt_iff_toInt_lt, zl_ti hx, zl_ti hy]
  rw [e3, e1, e0]
  by_cases h : y < x
  · rw [if_pos (show Int64.ofInt x > Int64.ofInt y from h3.mpr h)]; exact k3 h
  · rw [if_neg (show ¬ Int64.ofInt x > Int64.ofInt y from fun e => h (h3.mp e))]
    by_cases q : x = y
    · rw [if_pos (h2.mpr q)]; exact k2 (by omega) (by omega)
    · rw [if_neg (fun e => q (h2.mp e))]; exact k1 (by omega)
theorem zz_iorL {x y r : Int} (hd : decode M.2.2.1 pc = .ok (.ior, 1)) (h : Int32.ofInt x ||| Int32.ofInt y = Int32.ofInt r) (k : ab_W X M d G (pc + 1) L (vz r :: st) Q) : ab_W X M d G pc L (vz y :: vz x :: st) Q := ab_ior hd (ab_topi h k)
theorem zz_iandL {x y r : Int} (hd : decode M.2.2.1 pc = .ok (.iand, 1)) (h : Int32.ofInt x &&& Int32.ofInt y = Int32.ofInt r) (k : ab_W X M d G (pc + 1) L (vz r :: st) Q) : ab_W X M d G pc L (vz y :: vz x :: st) Q := ab_iand hd (ab_topi h k)
end ZLong
