/-! what is seen of the calls that feed: bytes of an int, what is ready, what is on the tape, which programs are there -/
def byt (x k : Int) : Int := x / (if k = 0 then 16777216 else if k = 1 then 65536 else if k = 2 then 256 else 1) % 256
theorem byt_b (x k : Int) : 0 ≤ byt x k ∧ byt x k ≤ 255 := by
  unfold byt
  generalize x / (if k = 0 then 16777216 else if k = 1 then 65536 else if k = 2 then 256 else 1) = y
  omega
theorem z_and8 (y : Int) : Int32.ofInt y &&& Int32.ofInt 255 = Int32.ofInt (y % 256) := z_and (k := 8) (by decide) (by decide) (by decide) (by decide)
theorem byt_0 (x : Int) : byt x 0 = x / 16777216 % 256 := by unfold byt; rw [if_pos rfl]
theorem byt_1 (x : Int) : byt x 1 = x / 65536 % 256 := by unfold byt; rw [if_neg (by decide), if_pos rfl]
theorem byt_2 (x : Int) : byt x 2 = x / 256 % 256 := by unfold byt; rw [if_neg (by decide), if_neg (by decide), if_pos rfl]
theorem byt_3 (x : Int) : byt x 3 = x / 1 % 256 := by unfold byt; rw [if_neg (by decide), if_neg (by decide), if_neg (by decide)]
theorem byt_s {x k s : Int} (hs : s = 24 - 8 * k) (hk : 0 ≤ k ∧ k ≤ 3) (hx : -2147483648 ≤ x ∧ x ≤ 2147483647) : Int32.ofInt x >>> (Int32.ofInt s &&& 31) &&& Int32.ofInt 255 = Int32.ofInt (byt x k) := by
  have h : k = 0 ∨ k = 1 ∨ k = 2 ∨ k = 3 := by omega
  rcases h with h | h | h | h <;> subst h <;> subst hs
  · rw [z_shr (k := 24) (c := 16777216) (by decide) (by decide) (by decide) (by decide) hx, z_and8, byt_0]
  · rw [z_shr (k := 16) (c := 65536) (by decide) (by decide) (by decide) (by decide) hx, z_and8, byt_1]
  · rw [z_shr (k := 8) (c := 256) (by decide) (by decide) (by decide) (by decide) hx, z_and8, byt_2]
  · rw [z_shr (k := 0) (c := 1) (by decide) (by decide) (by decide) (by decide) hx, z_and8, byt_3]
theorem z_ushr {x s c : Int} {k : Nat} (h : ((Int32.ofInt s).toUInt32 &&& Int32.toUInt32 31).toBitVec % 32 = BitVec.ofNat 32 k) (hk : k % 2 ^ 32 = k) (hp : ((2 : Nat) ^ k : Nat) = c.toNat) (hc : 1 ≤ c) : ((Int32.ofInt x).toUInt32 >>> ((Int32.ofInt s).toUInt32 &&& Int32.toUInt32 31)).toInt32 = Int32.ofInt (x % 4294967296 / c) := by
  apply Int32.toBitVec_inj.mp
  apply BitVec.eq_of_toNat_eq
  rw [UInt32.toBitVec_toInt32, UInt32.toBitVec_shiftRight, Int32.toBitVec_toUInt32, Int32.toBitVec_ofInt, Int32.toBitVec_ofInt, BitVec.toNat_ofInt]
  rw [h, BitVec.ushiftRight_eq', BitVec.toNat_ofNat, BitVec.toNat_ushiftRight, BitVec.toNat_ofInt, hk, Nat.shiftRight_eq_div_pow, hp]
  rw [show ((2 ^ 32 : Nat) : Int) = 4294967296 by decide]
  have a0 : 0 ≤ x % 4294967296 := by omega
  have a1 : x % 4294967296 < 4294967296 := by omega
  generalize x % 4294967296 = y at a0 a1 ⊢
  have b0 : 0 ≤ y / c := Int.ediv_nonneg a0 (by omega)
  have b1 : y / c ≤ y := Int.ediv_le_self c a0
  rw [Int.emod_eq_of_lt b0 (by omega)]
  obtain ⟨yn, hyn⟩ := Int.eq_ofNat_of_zero_le a0
  obtain ⟨cn, hcn⟩ := Int.eq_ofNat_of_zero_le (show 0 ≤ c by omega)
  subst hyn hcn
  rfl
theorem byt_u {x k s : Int} (hs : s = 24 - 8 * k) (hk : 0 ≤ k ∧ k ≤ 3) : ((Int32.ofInt x).toUInt32 >>> ((Int32.ofInt s).toUInt32 &&& Int32.toUInt32 31)).toInt32 &&& Int32.ofInt 255 = Int32.ofInt (byt x k) := by
  have h : k = 0 ∨ k = 1 ∨ k = 2 ∨ k = 3 := by omega
  rcases h with h | h | h | h <;> subst h <;> subst hs
  · rw [z_ushr (k := 24) (c := 16777216) (by decide) (by decide) (by decide) (by decide), z_and8, byt_0]; congr 1; omega
  · rw [z_ushr (k := 16) (c := 65536) (by decide) (by decide) (by decide) (by decide), z_and8, byt_1]; congr 1; omega
  · rw [z_ushr (k := 8) (c := 256) (by decide) (by decide) (by decide) (by decide), z_and8, byt_2]; congr 1; omega
  · rw [z_ushr (k := 0) (c := 1) (by decide) (by decide) (by decide) (by decide), z_and8, byt_3]; congr 1; omega
/-- the first k bytes of each of the five are ready -/
def fdI (R : Int → Int) (x1 x2 x3 x4 x5 k : Int) : Prop := ∀ i, 0 ≤ i → i < k → R i = byt x1 i ∧ R (4 + i) = byt x2 i ∧ R (8 + i) = byt x3 i ∧ R (12 + i) = byt x4 i ∧ R (16 + i) = byt x5 i
theorem fdI_0 {R : Int → Int} {x1 x2 x3 x4 x5 : Int} : fdI R x1 x2 x3 x4 x5 0 := fun i a b => absurd a (by omega)
theorem fdI_s {R : Int → Int} {x1 x2 x3 x4 x5 k : Int} (h : fdI R x1 x2 x3 x4 x5 k) (h0 : 0 ≤ k) (h3 : k ≤ 3) : fdI (zu (zu (zu (zu (zu R k (byt x1 k)) (4 + k) (byt x2 k)) (8 + k) (byt x3 k)) (12 + k) (byt x4 k)) (16 + k) (byt x5 k)) x1 x2 x3 x4 x5 (k + 1) := by
  intro i a b
  by_cases e : i = k
  · subst e
    refine ⟨?_, ?_, ?_, ?_, ?_⟩
    · rw [zu_ne (by omega), zu_ne (by omega), zu_ne (by omega), zu_ne (by omega), zu_self]
    · rw [zu_ne (by omega), zu_ne (by omega), zu_ne (by omega), zu_self]
    · rw [zu_ne (by omega), zu_ne (by omega), zu_self]
    · rw [zu_ne (by omega), zu_self]
    · rw [zu_self]
  · obtain ⟨q1, q2, q3, q4, q5⟩ := h i a (by omega)
    refine ⟨?_, ?_, ?_, ?_, ?_⟩ <;> rw [zu_ne (by omega), zu_ne (by omega), zu_ne (by omega), zu_ne (by omega), zu_ne (by omega)] <;> assumption
theorem fdI_det {R S : Int → Int} {x1 x2 x3 x4 x5 : Int} (h : fdI R x1 x2 x3 x4 x5 4) (g : fdI S x1 x2 x3 x4 x5 4) {i : Int} (a : 0 ≤ i) (b : i < 20) : R i = S i := by
  have e : i = 4 * (i / 4) + i % 4 := by omega
  have c : i / 4 = 0 ∨ i / 4 = 1 ∨ i / 4 = 2 ∨ i / 4 = 3 ∨ i / 4 = 4 := by omega
  obtain ⟨q1, q2, q3, q4, q5⟩ := h (i % 4) (by omega) (by omega)
  obtain ⟨r1, r2, r3, r4, r5⟩ := g (i % 4) (by omega) (by omega)
  rcases c with c | c | c | c | c
  · rw [show i = i % 4 by omega, q1, r1]
  · rw [show i = 4 + i % 4 by omega, q2, r2]
  · rw [show i = 8 + i % 4 by omega, q3, r3]
  · rw [show i = 12 + i % 4 by omega, q4, r4]
  · rw [show i = 16 + i % 4 by omega, q5, r5]
/-- of what is ready k bytes are put behind n on the tape -/
def apT (A B R : Int → Int) (n k : Int) : Prop := (∀ i, 0 ≤ i → i < n → B i = A i) ∧ ∀ i, 0 ≤ i → i < k → B (n + i) = R i
theorem apT_0 {A R : Int → Int} {n : Int} : apT A A R n 0 := ⟨fun _ _ _ => rfl, fun i a b => absurd a (by omega)⟩
theorem apT_s {A B R : Int → Int} {n k j : Int} (h : apT A B R n k) (h0 : 0 ≤ k) (hj : j = n + k) : apT A (zu B j (R k)) R n (k + 1) := by
  subst hj
  refine ⟨fun i a b => ?_, fun i a b => ?_⟩
  · rw [zu_ne (by omega), h.1 i a b]
  · by_cases e : i = k
    · subst e; rw [zu_self]
    · rw [zu_ne (by omega), h.2 i a (by omega)]
theorem apT_of {A B R : Int → Int} {n k : Int} (h1 : ∀ i : Int, 0 ≤ i → i < n → B i = A i) (h2 : ∀ i : Int, n ≤ i → i < n + k → B i = R (i - n)) : apT A B R n k := by
  refine ⟨h1, fun i a b => ?_⟩
  rw [h2 (n + i) (by omega) (by omega), show n + i - n = i by omega]
theorem apT_det {A A2 B B2 R R2 : Int → Int} {n k : Int} (h : apT A B R n k) (g : apT A2 B2 R2 n k) (hA : ∀ i, 0 ≤ i → i < n → A i = A2 i) (hR : ∀ i, 0 ≤ i → i < 20 → R i = R2 i) (hk : k ≤ 20) : ∀ i, 0 ≤ i → i < n + k → B i = B2 i := by
  intro i a b
  by_cases e : i < n
  · rw [h.1 i a e, g.1 i a e, hA i a e]
  · have q := h.2 (i - n) (by omega) (by omega)
    have r := g.2 (i - n) (by omega) (by omega)
    rw [show n + (i - n) = i by omega] at q r
    rw [q, r, hR (i - n) (by omega) (by omega)]
def zrI (R : Int → Int) (k : Int) : Prop := ∀ i, 0 ≤ i → i < k → R i = 0
theorem zrI_0 {R : Int → Int} : zrI R 0 := fun i a b => absurd a (by omega)
theorem zrI_s {R : Int → Int} {k : Int} (h : zrI R k) : zrI (zu R k 0) (k + 1) := by
  intro i a b
  by_cases e : i = k
  · subst e; rw [zu_self]
  · rw [zu_ne e, h i a (by omega)]
/-- no program is there -/
def nth (A : Int → Int) (x : Int) : Prop := x < 0 ∨ 6 ≤ x ∨ A x = 0
/-- replace takes the tape where a program is there -/
def thQ (A : Int → Int) (x n n2 : Int) : Prop := (0 ≤ x ∧ x < 6 ∧ A x = 1 ∧ n2 = 0) ∨ (nth A x ∧ n2 = n)
