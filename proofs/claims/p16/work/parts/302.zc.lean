/-! more of bits -/
theorem z_nat {x : Int} (h : 0 ≤ x ∧ x ≤ 2147483647) : (BitVec.ofInt 32 x).toNat = x.toNat := by
  rw [BitVec.toNat_ofInt, Int.emod_eq_of_lt h.1 (by rw [show ((2 ^ 32 : Nat) : Int) = 4294967296 by decide]; omega)]
theorem z_orlow {a y c : Int} {k : Nat} (hc : c.toNat = 2 ^ k) (hc0 : 0 < c) (ha : 0 ≤ a) (hy : 0 ≤ y ∧ y < c) (hr : a * c + c ≤ 2147483648) : Int32.ofInt (a * c) ||| Int32.ofInt y = Int32.ofInt (a * c + y) := by
  have h0 : 0 ≤ a * c := Int.mul_nonneg ha (by omega)
  apply Int32.toBitVec_inj.mp
  apply BitVec.eq_of_toNat_eq
  rw [Int32.toBitVec_or, BitVec.toNat_or, Int32.toBitVec_ofInt, Int32.toBitVec_ofInt, Int32.toBitVec_ofInt, z_nat ⟨h0, by omega⟩, z_nat ⟨by omega, by omega⟩, z_nat ⟨by omega, by omega⟩]
  have e1 : (a * c).toNat = 2 ^ k * a.toNat := by
    rw [Int.toNat_mul ha (by omega), hc, Nat.mul_comm]
  have e2 : (a * c + y).toNat = (a * c).toNat + y.toNat := by omega
  rw [e2, e1]
  exact (Nat.two_pow_add_eq_or_of_lt (by omega) _).symm
theorem z_c0 : ∀ m : Nat, m < 256 → Int32.ofInt (m : Int) &&& Int32.ofInt 192 = Int32.ofInt ((m : Int) / 64 * 64) := by decide +kernel
section ZMore
variable {X : ab_X} {M : ab_Y} {d : Nat} {G : ab_G} {pc : Nat} {L : List (Option Value)} {st : List Value} {Q : Outcome → ab_G → Prop}
theorem zz_iorlow {a y : Int} (k : Nat) (c : Int) (hd : decode M.2.2.1 pc = .ok (.ior, 1)) (hc : c.toNat = 2 ^ k) (hc0 : 0 < c) (h : 0 ≤ a ∧ 0 ≤ y ∧ y < c ∧ a * c + c ≤ 2147483648) (kk : ab_W X M d G (pc + 1) L (vz (a * c + y) :: st) Q) : ab_W X M d G pc L (vz y :: vz (a * c) :: st) Q := ab_ior hd (ab_topi (z_orlow hc hc0 h.1 ⟨h.2.1, h.2.2.1⟩ h.2.2.2) kk)
theorem zz_iandC0 {x : Int} (hd : decode M.2.2.1 pc = .ok (.iand, 1)) (h : 0 ≤ x ∧ x ≤ 255) (kk : ab_W X M d G (pc + 1) L (vz (x / 64 * 64) :: st) Q) : ab_W X M d G pc L (vz 192 :: vz x :: st) Q := ab_iand hd (ab_topi (by
  have := z_c0 x.toNat (by omega)
  rw [show ((x.toNat : Nat) : Int) = x by omega] at this
  exact this) kk)
end ZMore
/-! bytes and characters -/
def isW (c : Int) : Prop := (48 ≤ c ∧ c ≤ 57) ∨ (65 ≤ c ∧ c ≤ 90) ∨ (97 ≤ c ∧ c ≤ 122) ∨ c = 95
/-- the character that begins at a place of n bytes, -1 where there is none -/
def u8 (f : Int → Int) (n p : Int) : Int :=
  if p < 0 ∨ n ≤ p then -1
  else if f p < 128 then f p
  else if f p < 194 ∨ 244 < f p then -1
  else if f p < 224 then (if p + 2 ≤ n ∧ 128 ≤ f (p + 1) ∧ f (p + 1) < 192 then f p % 32 * 64 + f (p + 1) % 64 else -1)
  else if f p < 240 then (if p + 3 ≤ n ∧ 128 ≤ f (p + 1) ∧ f (p + 1) < 192 ∧ 128 ≤ f (p + 2) ∧ f (p + 2) < 192 ∧ 2048 ≤ (f p % 16 * 64 + f (p + 1) % 64) * 64 + f (p + 2) % 64 ∧ ¬ (55296 ≤ (f p % 16 * 64 + f (p + 1) % 64) * 64 + f (p + 2) % 64 ∧ (f p % 16 * 64 + f (p + 1) % 64) * 64 + f (p + 2) % 64 ≤ 57343) then (f p % 16 * 64 + f (p + 1) % 64) * 64 + f (p + 2) % 64 else -1)
  else (if p + 4 ≤ n ∧ 128 ≤ f (p + 1) ∧ f (p + 1) < 192 ∧ 128 ≤ f (p + 2) ∧ f (p + 2) < 192 ∧ 128 ≤ f (p + 3) ∧ f (p + 3) < 192 ∧ 65536 ≤ ((f p % 8 * 64 + f (p + 1) % 64) * 64 + f (p + 2) % 64) * 64 + f (p + 3) % 64 ∧ ((f p % 8 * 64 + f (p + 1) % 64) * 64 + f (p + 2) % 64) * 64 + f (p + 3) % 64 ≤ 1114111 then ((f p % 8 * 64 + f (p + 1) % 64) * 64 + f (p + 2) % 64) * 64 + f (p + 3) % 64 else -1)
section ZSwitch
variable {X : ab_X} {M : ab_Y} {d : Nat} {G : ab_G} {pc : Nat} {L : List (Option Value)} {st : List Value} {Q : Outcome → ab_G → Prop}
theorem zz_lookup {dflt : Int} {ps : Array (Int × Int)} {len : Nat} {x off : Int} {tgt : Nat} (hd : decode M.2.2.1 pc = .ok (.lookupswitch dflt ps, len)) (hp : (ps.toList.zip (ps.toList.drop 1)).all (fun (a, next) => a.1 < next.1) = true) (hx : -2147483648 ≤ x ∧ x ≤ 2147483647) (ho : Op.lookupswitch.offset ps.toList dflt x = off) (ht : (pc : Int) + off = (tgt : Int)) (k : ab_W X M d G tgt L st Q) : ab_W X M d G pc L (vz x :: st) Q := ab_lookup hd hp (by rw [z_ti hx]; exact ho) ht k
theorem zz_tableIn {dflt lo hi : Int} {offs : Array Int} {len : Nat} {x off : Int} {tgt : Nat} (hd : decode M.2.2.1 pc = .ok (.tableswitch dflt lo hi offs, len)) (hx : -2147483648 ≤ x ∧ x ≤ 2147483647) (h1 : lo ≤ x) (h2 : x ≤ hi) (ho : offs[(x - lo).toNat]? = some off) (ht : (pc : Int) + off = (tgt : Int)) (k : ab_W X M d G tgt L st Q) : ab_W X M d G pc L (vz x :: st) Q := ab_tableIn hd (by rw [z_ti hx]; omega) (by rw [z_ti hx]; omega) (by rw [z_ti hx]; exact ho) ht k
theorem zz_tableOut {dflt lo hi : Int} {offs : Array Int} {len : Nat} {x : Int} {tgt : Nat} (hd : decode M.2.2.1 pc = .ok (.tableswitch dflt lo hi offs, len)) (hx : -2147483648 ≤ x ∧ x ≤ 2147483647) (hh : x < lo ∨ hi < x) (ht : (pc : Int) + dflt = (tgt : Int)) (k : ab_W X M d G tgt L st Q) : ab_W X M d G pc L (vz x :: st) Q := ab_tableOut hd (by rw [z_ti hx]; exact hh) ht k
end ZSwitch
/-- two numbers are two, said so that arithmetic doesn't look at it -/
def nzq (a b : Int) : Prop := ¬ a = b
def tpk (f : Int → Int) (n i : Int) : Int := if 0 ≤ i ∧ i < n then f i else -1
def wd (c : Int) : Int := if c < 128 then 1 else if c < 2048 then 2 else if c < 65536 then 3 else 4
theorem wd_in (c : Int) : 1 ≤ wd c ∧ wd c ≤ 4 := by unfold wd; (repeat' split) <;> omega
def bytes (f : Int → Int) (n : Int) : Prop := ∀ k : Int, 0 ≤ k → k < n → 0 ≤ f k ∧ f k ≤ 255
theorem tpk_in {f : Int → Int} {n : Int} (h : bytes f n) (i : Int) : -1 ≤ tpk f n i ∧ tpk f n i ≤ 255 := by
  unfold tpk
  split
  · have := h i (by omega) (by omega); omega
  · omega
theorem u8_in {f : Int → Int} {n : Int} (h : bytes f n) (p : Int) : -1 ≤ u8 f n p ∧ u8 f n p ≤ 1114111 := by
  unfold u8
  split
  · omega
  · rename_i q
    have := h p (by omega) (by omega)
    (repeat' split) <;> omega
