/-! small sets of flags -/
theorem z_orS : ∀ m : Nat, m < 32 → ∀ k : Nat, k < 32 → (m ||| k) < 32 ∧ Int32.ofInt (m : Int) ||| Int32.ofInt (k : Int) = Int32.ofInt ((m ||| k : Nat) : Int) := by decide +kernel
theorem z_not32 : ∀ k : Nat, k < 32 → Int32.ofInt (k : Int) ^^^ Int32.ofInt (-1) = Int32.ofInt (-1 - (k : Int)) := by decide +kernel
theorem z_andn32 : ∀ m : Nat, m < 32 → ∀ k : Nat, k < 32 → (m ^^^ (m &&& k)) < 32 ∧ Int32.ofInt (m : Int) &&& Int32.ofInt (-1 - (k : Int)) = Int32.ofInt ((m ^^^ (m &&& k) : Nat) : Int) := by decide +kernel
section RdRows
variable {X : ab_X} {M : ab_Y} {d : Nat} {G : ab_G} {pc : Nat} {L : List (Option Value)} {st : List Value} {Q : Outcome → ab_G → Prop}
theorem zz_orS {x y : Int} (hd : decode M.2.2.1 pc = .ok (.ior, 1)) (hx : 0 ≤ x ∧ x ≤ 31) (hy : 0 ≤ y ∧ y ≤ 31) (k : ∀ v : Int, 0 ≤ v ∧ v ≤ 31 → ab_W X M d G (pc + 1) L (vz v :: st) Q) : ab_W X M d G pc L (vz y :: vz x :: st) Q := by
  have h := z_orS x.toNat (by omega) y.toNat (by omega)
  refine ab_ior hd (ab_topi ?_ (k ((x.toNat ||| y.toNat : Nat) : Int) (by omega)))
  rw [← h.2, show ((x.toNat : Nat) : Int) = x by omega, show ((y.toNat : Nat) : Int) = y by omega]
theorem zz_not32 {x : Int} (hd : decode M.2.2.1 pc = .ok (.ixor, 1)) (hx : 0 ≤ x ∧ x ≤ 31) (k : ab_W X M d G (pc + 1) L (vz (-1 - x) :: st) Q) : ab_W X M d G pc L (vz (-1) :: vz x :: st) Q := by
  have h := z_not32 x.toNat (by omega)
  rw [show ((x.toNat : Nat) : Int) = x by omega] at h
  exact ab_ixor hd (ab_topi h k)
theorem zz_andn32 {x y : Int} (hd : decode M.2.2.1 pc = .ok (.iand, 1)) (hx : 0 ≤ x ∧ x ≤ 31) (hy : 0 ≤ y ∧ y ≤ 31) (k : ∀ v : Int, 0 ≤ v ∧ v ≤ 31 → ab_W X M d G (pc + 1) L (vz v :: st) Q) : ab_W X M d G pc L (vz (-1 - y) :: vz x :: st) Q := by
  have h := z_andn32 x.toNat (by omega) y.toNat (by omega)
  refine ab_iand hd (ab_topi ?_ (k ((x.toNat ^^^ (x.toNat &&& y.toNat) : Nat) : Int) (by omega)))
  rw [← h.2, show ((x.toNat : Nat) : Int) = x by omega, show ((y.toNat : Nat) : Int) = y by omega]
end RdRows
/-- names of groups: where they stand in the text -/
def nmok (NA NL : Int → Int) (gp n : Int) : Prop := ∀ k : Int, 1 ≤ k → k ≤ gp → 0 ≤ NL k ∧ NL k ≤ 12 ∧ 0 ≤ NA k ∧ NA k + NL k ≤ n
theorem nmok_0 {NA NL : Int → Int} {n : Int} : nmok NA NL 0 n := fun k h1 h2 => absurd h2 (by omega)
theorem nmok_s {NA NL : Int → Int} {gp n a l : Int} (h : nmok NA NL gp n) (h0 : 0 ≤ gp) (h1 : 0 ≤ l ∧ l ≤ 12 ∧ 0 ≤ a ∧ a + l ≤ n) : nmok (zu NA (gp + 1) a) (zu NL (gp + 1) l) (gp + 1) n := by
  intro k k1 k2
  by_cases e : k = gp + 1
  · subst e; rw [zu_self, zu_self]; exact h1
  · rw [zu_ne e, zu_ne e]; exact h k k1 (by omega)
/-- characters stand outside the gap -/
theorem u8_gap {f : Int → Int} {n p : Int} (hb : bytes f n) (h : 0 ≤ u8 f n p) : ¬ cs_gap (u8 f n p) := by
  unfold cs_gap
  unfold u8 at h ⊢
  by_cases c1 : p < 0 ∨ n ≤ p
  · rw [if_pos c1]; omega
  · rw [if_neg c1] at h ⊢
    have hp := hb p (by omega) (by omega)
    by_cases c2 : f p < 128
    · rw [if_pos c2]; omega
    · rw [if_neg c2] at h ⊢
      by_cases c3 : f p < 194 ∨ 244 < f p
      · rw [if_pos c3]; omega
      · rw [if_neg c3] at h ⊢
        by_cases c4 : f p < 224
        · rw [if_pos c4] at h ⊢
          split at h
          · rename_i c5
            rw [if_pos c5]; omega
          · omega
        · rw [if_neg c4] at h ⊢
          by_cases c6 : f p < 240
          · rw [if_pos c6] at h ⊢
            split at h
            · rename_i c5
              rw [if_pos c5]; exact c5.2.2.2.2.2.2
            · omega
          · rw [if_neg c6] at h ⊢
            split at h
            · rename_i c5
              rw [if_pos c5]; omega
            · omega
theorem esc1_gap {f : Int → Int} {n p v q : Int} (h : esc1 f n p v q) : ¬ cs_gap v := by
  unfold cs_gap
  rcases h with ⟨_, h⟩ | ⟨_, h⟩
  · rcases h with h | h | h | h | h | h | h | h | h | h | h | h <;> omega
  · rcases h with ⟨_, _, _, _, h⟩ | ⟨_, _, _, h⟩
    · unfold chr at h; omega
    · unfold chr at h; omega
theorem esc1_lo {f : Int → Int} {n p v q : Int} (h : esc1 f n p v q) : p < q ∧ q ≤ n := esc1_w h
theorem alike_self (c : Int) : alike c c c := Or.inl ⟨Int.le_refl _, Int.le_refl _⟩
theorem cs_mem_pos {f : Int → Int} {n c : Int} (h : cs_mem f n c) : 1 ≤ n := by obtain ⟨i, h1, h2, _⟩ := h; omega
