/-! what a text says: digits, escapes -/
def hxd (c : Int) : Int := if 48 ≤ c ∧ c ≤ 57 then c - 48 else if 97 ≤ c ∧ c ≤ 102 then c - 87 else if 65 ≤ c ∧ c ≤ 70 then c - 55 else -1
theorem hxd_in (c : Int) : -1 ≤ hxd c ∧ hxd c ≤ 15 := by unfold hxd; (repeat' split) <;> omega
def hxs (f : Int → Int) (n : Int) : Nat → Int → Int → Int × Int
  | 0, p, v => (p, v)
  | k + 1, p, v => if 0 ≤ hxd (tpk f n p) then hxs f n k (p + 1) (16 * v + hxd (tpk f n p)) else (p, v)
theorem hxs_in {f : Int → Int} {n : Int} : ∀ (k : Nat) (p v q w : Int), 0 ≤ v → hxs f n k p v = (q, w) → 0 ≤ w ∧ w + 1 ≤ 16 ^ k * (v + 1) ∧ p ≤ q ∧ q ≤ p + k := by
  intro k
  induction k with
  | zero =>
    intro p v q w hv h
    unfold hxs at h
    cases h
    simp
    omega
  | succ k ih =>
    intro p v q w hv h
    unfold hxs at h
    have hd := hxd_in (tpk f n p)
    have h16 : (0 : Int) < 16 ^ k := Int.pow_pos (by decide)
    split at h
    · rename_i h0
      have z := ih (p + 1) (16 * v + hxd (tpk f n p)) q w (by omega) h
      refine ⟨z.1, ?_, by omega, by omega⟩
      have e : (16 : Int) ^ (k + 1) * (v + 1) = 16 ^ k * (16 * v + 16) := by rw [Int.pow_succ, Int.mul_assoc]; congr 1; omega
      rw [e]
      have := Int.mul_le_mul_of_nonneg_left (show 16 * v + hxd (tpk f n p) + 1 ≤ 16 * v + 16 by omega) (show (0 : Int) ≤ 16 ^ k by omega)
      omega
    · cases h
      refine ⟨hv, ?_, by omega, by omega⟩
      have h17 : (0 : Int) < 16 ^ (k + 1) := Int.pow_pos (by decide)
      have := Int.mul_le_mul_of_nonneg_right (show (1 : Int) ≤ 16 ^ (k + 1) by omega) (show 0 ≤ v + 1 by omega)
      omega
def chr (v : Int) : Prop := 0 ≤ v ∧ v ≤ 1114111 ∧ (v < 55296 ∨ 57343 < v)
/-- behind \x at p stands the character v, and q is next -/
def hexok (f : Int → Int) (n p v q : Int) : Prop := (tpk f n p = 123 ∧ hxs f n 6 (p + 1) 0 = (q - 1, v) ∧ p + 1 < q - 1 ∧ tpk f n (q - 1) = 125 ∧ chr v) ∨ (¬ tpk f n p = 123 ∧ hxs f n 2 p 0 = (q, v) ∧ q = p + 2 ∧ chr v)
theorem z_or32 : ∀ m : Nat, m < 257 → Int32.ofInt ((m : Int) - 1) ||| Int32.ofInt 32 = Int32.ofInt ((m : Int) - 1 + 32 * (1 - ((m : Int) - 1) / 32 % 2)) := by decide +kernel
section ZTx
variable {X : ab_X} {M : ab_Y} {d : Nat} {G : ab_G} {pc : Nat} {L : List (Option Value)} {st : List Value} {Q : Outcome → ab_G → Prop}
theorem zz_ior32 {x : Int} (hd : decode M.2.2.1 pc = .ok (.ior, 1)) (h : -1 ≤ x ∧ x ≤ 255) (kk : ab_W X M d G (pc + 1) L (vz (x + 32 * (1 - x / 32 % 2)) :: st) Q) : ab_W X M d G pc L (vz 32 :: vz x :: st) Q := ab_ior hd (ab_topi (by
  have := z_or32 (x + 1).toNat (by omega)
  rw [show (((x + 1).toNat : Nat) : Int) - 1 = x by omega] at this
  exact this) kk)
end ZTx
/-- an escape at p: a plain value v (below -2: something that is no character) -/
def esc1 (f : Int → Int) (n p v q : Int) : Prop := (q = p + 2 ∧ ((tpk f n (p + 1) = 97 ∧ v = 7) ∨ (tpk f n (p + 1) = 102 ∧ v = 12) ∨ (tpk f n (p + 1) = 110 ∧ v = 10) ∨ (tpk f n (p + 1) = 114 ∧ v = 13) ∨ (tpk f n (p + 1) = 116 ∧ v = 9) ∨ (tpk f n (p + 1) = 118 ∧ v = 11) ∨ (tpk f n (p + 1) = 65 ∧ v = -4) ∨ (tpk f n (p + 1) = 122 ∧ v = -5) ∨ (tpk f n (p + 1) = 98 ∧ v = -8) ∨ (tpk f n (p + 1) = 66 ∧ v = -9) ∨ (tpk f n (p + 1) = 67 ∧ v = -3) ∨ (0 ≤ tpk f n (p + 1) ∧ tpk f n (p + 1) < 128 ∧ ¬ isW (tpk f n (p + 1)) ∧ v = tpk f n (p + 1)))) ∨ (tpk f n (p + 1) = 120 ∧ hexok f n (p + 2) v q)
/-- a kind: which (by its place among the tables), and whether not -/
def esc2 (f : Int → Int) (n p q : Int) (k : Nat) (b : Int) : Prop := (q = p + 2 ∧ ((tpk f n (p + 1) = 100 ∧ k = 1 ∧ b = 0) ∨ (tpk f n (p + 1) = 68 ∧ k = 1 ∧ b = 1) ∨ (tpk f n (p + 1) = 115 ∧ k = 2 ∧ b = 0) ∨ (tpk f n (p + 1) = 83 ∧ k = 2 ∧ b = 1) ∨ (tpk f n (p + 1) = 119 ∧ k = 3 ∧ b = 0) ∨ (tpk f n (p + 1) = 87 ∧ k = 3 ∧ b = 1))) ∨ (q = p + 3 ∧ ((tpk f n (p + 1) = 112 ∧ b = 0) ∨ (tpk f n (p + 1) = 80 ∧ b = 1)) ∧ ((tpk f n (p + 2) = 76 ∧ k = 4) ∨ (tpk f n (p + 2) = 78 ∧ k = 5) ∨ (tpk f n (p + 2) = 71 ∧ k = 6) ∨ (tpk f n (p + 2) = 89 ∧ k = 7)))
/-- no escape: the fault -/
def esc3 (f : Int → Int) (n p w : Int) : Prop := (∀ v q, ¬ esc1 f n p v q) ∧ (∀ q k b, ¬ esc2 f n p q k b) ∧ ((w = 7 ∧ (tpk f n (p + 1) = 112 ∨ tpk f n (p + 1) = 80) ∧ ¬ tpk f n (p + 2) = -1) ∨ (w = 5 ∧ ¬ ((tpk f n (p + 1) = 112 ∨ tpk f n (p + 1) = 80) ∧ ¬ tpk f n (p + 2) = -1)))
/-- a member of a class at p: the character v; a fault: w at r (op: where the class begins) -/
def mem1 (f : Int → Int) (n p v q : Int) : Prop := (p < n ∧ ¬ tpk f n p = 92 ∧ v = u8 f n p ∧ q = p + wd v) ∨ (tpk f n p = 92 ∧ esc1 f n p v q ∧ 0 ≤ v)
def mem3 (f : Int → Int) (n p op w r : Int) : Prop := (n ≤ p ∧ w = 4 ∧ r = op) ∨ (p < n ∧ ¬ tpk f n p = 92 ∧ u8 f n p = -1 ∧ w = 1 ∧ r = p) ∨ (tpk f n p = 92 ∧ esc3 f n p w ∧ r = p) ∨ (tpk f n p = 92 ∧ (∃ v q, esc1 f n p v q ∧ v < -2) ∧ w = 5 ∧ r = p)
