/-! bits of longs -/
def bt6 (z j : Int) : Prop := (BitVec.ofInt 64 z).getLsbD j.toNat = true
def stb6 (z j : Int) : Int := (BitVec.ofInt 64 z ||| BitVec.twoPow 64 j.toNat).toInt
theorem bt6_0 (j : Int) : ¬ bt6 0 j := by unfold bt6; simp
theorem bt6_stb {z i j : Int} (hi : 0 ≤ i ∧ i < 64) (hj : 0 ≤ j ∧ j < 64) : bt6 (stb6 z j) i ↔ bt6 z i ∨ i = j := by
  unfold bt6 stb6
  rw [BitVec.ofInt_toInt, BitVec.getLsbD_or, BitVec.getLsbD_twoPow, Bool.or_eq_true]
  have : (decide (j.toNat < 64) && decide (j.toNat = i.toNat)) = true ↔ i = j := by
    rw [Bool.and_eq_true, decide_eq_true_iff, decide_eq_true_iff]; omega
  rw [this]
theorem j_and63 : ∀ m : Nat, m < 64 → (Int32.ofInt (m : Int)).toInt64 &&& 63 = Int64.ofNat m := by decide +kernel
theorem j_sh {j : Int} (h : 0 ≤ j ∧ j < 64) : (Int32.ofInt j).toInt64 &&& 63 = Int64.ofNat j.toNat := by
  have := j_and63 j.toNat (by omega)
  rwa [show ((j.toNat : Nat) : Int) = j by omega] at this
theorem j_smod : ∀ m : Nat, m < 64 → ((Int64.ofNat m).toBitVec.smod 64).toNat = m := by decide +kernel
theorem j_bit {z j : Int} (h : 0 ≤ j ∧ j < 64) : (bt6 z j → Int64.ofInt z >>> ((Int32.ofInt j).toInt64 &&& 63) &&& 1 = 1) ∧ (¬ bt6 z j → Int64.ofInt z >>> ((Int32.ofInt j).toInt64 &&& 63) &&& 1 = 0) := by
  have key : (Int64.ofInt z >>> ((Int32.ofInt j).toInt64 &&& 63) &&& 1).toBitVec = if (BitVec.ofInt 64 z).getLsbD j.toNat then 1 else 0 := by
    rw [j_sh h, Int64.toBitVec_and, Int64.toBitVec_shiftRight, Int64.toBitVec_ofInt]
    rw [show (Int64.toBitVec 1) = BitVec.twoPow 64 0 from rfl, BitVec.and_twoPow]
    rw [BitVec.sshiftRight_eq', j_smod j.toNat (by omega), BitVec.getLsbD_sshiftRight]
    rw [show (decide (64 ≤ 0) : Bool) = false from rfl, Bool.not_false, Bool.true_and, Nat.add_zero, if_pos (show j.toNat < 64 by omega)]
    split <;> rfl
  constructor
  · intro hb
    apply Int64.toBitVec_inj.mp
    rw [key, if_pos (show (BitVec.ofInt 64 z).getLsbD j.toNat = true from hb)]; rfl
  · intro hb
    apply Int64.toBitVec_inj.mp
    rw [key, if_neg (show ¬ (BitVec.ofInt 64 z).getLsbD j.toNat = true from hb)]; rfl
theorem j_or {z j : Int} (h : 0 ≤ j ∧ j < 64) : Int64.ofInt z ||| (1 : Int64) <<< ((Int32.ofInt j).toInt64 &&& 63) = Int64.ofInt (stb6 z j) := by
  apply Int64.toBitVec_inj.mp
  rw [j_sh h, Int64.toBitVec_or, Int64.toBitVec_shiftLeft, Int64.toBitVec_ofInt, Int64.toBitVec_ofInt]
  unfold stb6
  rw [BitVec.ofInt_toInt]
  congr 1
  rw [BitVec.shiftLeft_eq', j_smod j.toNat (by omega)]
  rfl
section MoRows
variable {X : ab_X} {M : ab_Y} {d : Nat} {G : ab_G} {pc : Nat} {L : List (Option Value)} {st : List Value} {Q : Outcome → ab_G → Prop}
theorem zz_last {o : Nat → Nat} {a n l : Nat} {f : Int → Int} {i x : Int} (hd : decode M.2.2.1 pc = .ok (.lastore, 1)) (hG : cc o G a l (zl n f)) (hi : 0 ≤ i ∧ i < (n : Int) ∧ i ≤ 2147483647) (ha : ab_n0 ≤ a) (kk : ab_W X M d (List.set G a (zl n (zu f i x))) (pc + 1) L st Q) : ab_W X M d G pc L (vj x :: vz i :: .ref a :: st) Q := by
  refine ab_last hd hG.2.2 (z_in hi) ha ?_
  have e : vp_updL (fun k : Nat => Int64.ofInt (f (k : Int))) (Int32.ofInt i).toNatClampNeg (Int64.ofInt x) = fun k : Nat => Int64.ofInt (zu f i x (k : Int)) := by
    funext k
    unfold vp_updL
    rw [z_tn ⟨hi.1, hi.2.2⟩]
    by_cases q : k = i.toNat
    · rw [if_pos q, show ((k : Nat) : Int) = i by omega, zu_self]
    · rw [if_neg q, zu_ne (by omega)]
  rw [e]
  exact kk
theorem zz_irem {x y : Int} (hd : decode M.2.2.1 pc = .ok (.irem, 1)) (h : 0 ≤ x ∧ x ≤ 2147483647 ∧ 0 < y ∧ y ≤ 2147483647) (k : ab_W X M d G (pc + 1) L (vz (x % y) :: st) Q) : ab_W X M d G pc L (vz y :: vz x :: st) Q := by
  refine ab_irem hd (fun e => ?_) ?_
  · have := congrArg Int32.toInt e
    rw [z_ti ⟨by omega, by omega⟩] at this
    have z : (0 : Int32).toInt = 0 := rfl
    omega
  · have e : Int32.ofInt x - Int32.ofInt x / Int32.ofInt y * Int32.ofInt y = Int32.ofInt (x % y) := by
      have e1 : Int32.ofInt x / Int32.ofInt y = Int32.ofInt (x / y) := by
        apply Int32.toInt_inj.mp
        have b1 : 0 ≤ x / y := Int.ediv_nonneg h.1 (by omega)
        have b2 : x / y ≤ x := Int.ediv_le_self _ h.1
        rw [Int32.toInt_div, z_ti ⟨by omega, by omega⟩, z_ti ⟨by omega, by omega⟩, z_ti ⟨by omega, by omega⟩, Int.tdiv_eq_ediv_of_nonneg h.1]
        exact Int.bmod_eq_of_le (by omega) (by omega)
      rw [e1, ← Int32.ofInt_mul, ← Int32.ofInt_sub]
      congr 1
      have := Int.emod_def x y
      rw [this, Int.mul_comm]
    exact ab_topi e k
/-- whether a bit is set -/
theorem zz_bit {z j : Int} (d0 : decode M.2.2.1 pc = .ok (.lshr, 1)) (d1 : decode M.2.2.1 (pc + 1) = .ok (.lconst 1, 1)) (d2 : decode M.2.2.1 (pc + 2) = .ok (.land, 1)) (d3 : decode M.2.2.1 (pc + 3) = .ok (.lconst 1, 1)) (d4 : decode M.2.2.1 (pc + 4) = .ok (.lcmp, 1)) (h : 0 ≤ j ∧ j < 64) (k1 : bt6 z j → ab_W X M d G (pc + 5) L (vz 0 :: st) Q) (k0 : ¬ bt6 z j → ab_W X M d G (pc + 5) L (vz (-1) :: st) Q) : ab_W X M d G pc L (vz j :: vj z :: st) Q := by
  refine ab_lshr d0 (ab_lconst d1 rfl (ab_land d2 (ab_lconst d3 rfl (ab_lcmp d4 ?_))))
  by_cases q : bt6 z j
  · have e := (j_bit h).1 q
    have e2 : lg_cmp (Int64.ofInt z >>> ((Int32.ofInt j).toInt64 &&& 63) &&& 1) 1 = Int32.ofInt 0 := by rw [e]; decide
    exact ab_topi e2 (k1 q)
  · have e := (j_bit h).2 q
    have e2 : lg_cmp (Int64.ofInt z >>> ((Int32.ofInt j).toInt64 &&& 63) &&& 1) 1 = Int32.ofInt (-1) := by rw [e]; decide
    exact ab_topi e2 (k0 q)
theorem zz_setb {z j : Int} (d0 : decode M.2.2.1 pc = .ok (.lshl, 1)) (d1 : decode M.2.2.1 (pc + 1) = .ok (.lor, 1)) (h : 0 ≤ j ∧ j < 64) (k : ab_W X M d G (pc + 2) L (vj (stb6 z j) :: st) Q) : ab_W X M d G pc L (vz j :: vj 1 :: vj z :: st) Q := by
  refine ab_lshl d0 (ab_lor d1 ?_)
  have e := j_or (z := z) h
  have e1 : Int64.ofInt 1 = (1 : Int64) := by decide
  rw [e1, e]
  exact k
end MoRows
/-- notes: step k at place p -/
def nbit (A : Int → Int) (p k : Int) : Prop := bt6 (A (196 * p + k / 64)) (k % 64)
theorem nbit_mark {A : Int → Int} {p k p2 k2 : Int} (hk : 0 ≤ k ∧ k < 12544) (hk2 : 0 ≤ k2 ∧ k2 < 12544) : nbit (zu A (196 * p + k / 64) (stb6 (A (196 * p + k / 64)) (k % 64))) p2 k2 ↔ nbit A p2 k2 ∨ (p2 = p ∧ k2 = k) := by
  unfold nbit
  by_cases e : 196 * p2 + k2 / 64 = 196 * p + k / 64
  · rw [e, zu_self, bt6_stb (by omega) (by omega)]
    exact or_congr Iff.rfl ⟨fun q => by omega, fun q => by omega⟩
  · rw [zu_ne e]
    exact ⟨Or.inl, fun q => q.resolve_right (fun z => e (by rw [z.1, z.2]))⟩
section MoRows2
variable {X : ab_X} {M : ab_Y} {d : Nat} {G : ab_G} {pc : Nat} {L : List (Option Value)} {st : List Value} {Q : Outcome → ab_G → Prop}
theorem zz_iorX {x y : Int} (k : Nat) (c : Int) (hd : decode M.2.2.1 pc = .ok (.ior, 1)) (hc : c.toNat = 2 ^ k) (hc0 : 0 < c) (hx : x % c = 0) (h : 0 ≤ x ∧ 0 ≤ y ∧ y < c ∧ x + c ≤ 2147483648) (kk : ab_W X M d G (pc + 1) L (vz (x + y) :: st) Q) : ab_W X M d G pc L (vz y :: vz x :: st) Q := by
  obtain ⟨a, ha⟩ : ∃ a : Int, x = a * c := ⟨x / c, by have t := Int.mul_ediv_add_emod x c; rw [hx, Int.add_zero, Int.mul_comm] at t; exact t.symm⟩
  subst ha
  refine zz_iorlow k c hd hc hc0 ⟨?_, h.2.1, h.2.2.1, h.2.2.2⟩ kk
  rcases Int.lt_or_le a 0 with q | q
  · have := Int.mul_neg_of_neg_of_pos q hc0; omega
  · exact q
end MoRows2
/-! the character at a place -/
def cb (f : Int → Int) (n p : Int) : Int := if p < n then f p else 0
def cv3 (a b c : Int) : Int := a % 16 * 4096 + b % 64 * 64 + c % 64
def cv4 (a b c e : Int) : Int := a % 8 * 262144 + b % 64 * 4096 + c % 64 * 64 + e % 64
def chQ (a b c e v w : Int) : Prop := (a < 128 ∧ v = a ∧ w = 1) ∨ (¬ a < 128 ∧ (194 ≤ a ∧ a < 224 ∧ 128 ≤ b ∧ b < 192) ∧ v = a % 32 * 64 + b % 64 ∧ w = 2) ∨ (¬ a < 128 ∧ (224 ≤ a ∧ a < 240 ∧ 128 ≤ b ∧ b < 192 ∧ 128 ≤ c ∧ c < 192 ∧ 2048 ≤ cv3 a b c ∧ (cv3 a b c < 55296 ∨ 57344 ≤ cv3 a b c)) ∧ v = cv3 a b c ∧ w = 3) ∨ (¬ a < 128 ∧ (240 ≤ a ∧ a < 245 ∧ 128 ≤ b ∧ b < 192 ∧ 128 ≤ c ∧ c < 192 ∧ 128 ≤ e ∧ e < 192 ∧ 65536 ≤ cv4 a b c e ∧ cv4 a b c e ≤ 1114111) ∧ v = cv4 a b c e ∧ w = 4) ∨ (¬ a < 128 ∧ ¬ (194 ≤ a ∧ a < 224 ∧ 128 ≤ b ∧ b < 192) ∧ ¬ (224 ≤ a ∧ a < 240 ∧ 128 ≤ b ∧ b < 192 ∧ 128 ≤ c ∧ c < 192 ∧ 2048 ≤ cv3 a b c ∧ (cv3 a b c < 55296 ∨ 57344 ≤ cv3 a b c)) ∧ ¬ (240 ≤ a ∧ a < 245 ∧ 128 ≤ b ∧ b < 192 ∧ 128 ≤ c ∧ c < 192 ∧ 128 ≤ e ∧ e < 192 ∧ 65536 ≤ cv4 a b c e ∧ cv4 a b c e ≤ 1114111) ∧ v = -1 ∧ w = 1)
/-- v is the character at p, w how many bytes it has -/
def mchr (f : Int → Int) (n p v w : Int) : Prop := (n ≤ p ∧ v = -1 ∧ w = 1) ∨ (p < n ∧ chQ (cb f n p) (cb f n (p + 1)) (cb f n (p + 2)) (cb f n (p + 3)) v w)
theorem mchr_fun {f : Int → Int} {n p v w v2 w2 : Int} (h : mchr f n p v w) (h2 : mchr f n p v2 w2) : v = v2 ∧ w = w2 := by
  rcases h with ⟨a, b, c⟩ | ⟨a, h⟩ <;> rcases h2 with ⟨a2, b2, c2⟩ | ⟨a2, h2⟩
  · omega
  · omega
  · omega
  · unfold chQ at h h2
    rcases h with h | h | h | h | h <;> rcases h2 with h2 | h2 | h2 | h2 | h2 <;> omega
