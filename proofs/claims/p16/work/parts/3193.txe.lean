/-! what is read ends within the text -/
theorem u8_w {f : Int → Int} {n p : Int} (hb : bytes f n) (h : 0 ≤ u8 f n p) : 0 ≤ p ∧ p + wd (u8 f n p) ≤ n := by
  unfold u8 at h ⊢
  by_cases c1 : p < 0 ∨ n ≤ p
  · rw [if_pos c1] at h; omega
  · rw [if_neg c1] at h ⊢
    have hp := hb p (by omega) (by omega)
    by_cases c2 : f p < 128
    · rw [if_pos c2] at h ⊢; unfold wd; rw [if_pos c2]; omega
    · rw [if_neg c2] at h ⊢
      by_cases c3 : f p < 194 ∨ 244 < f p
      · rw [if_pos c3] at h; omega
      · rw [if_neg c3] at h ⊢
        by_cases c4 : f p < 224
        · rw [if_pos c4] at h ⊢
          split at h
          · rename_i c5
            rw [if_pos c5]; unfold wd; rw [if_neg (by omega), if_pos (by omega)]; omega
          · omega
        · rw [if_neg c4] at h ⊢
          by_cases c6 : f p < 240
          · rw [if_pos c6] at h ⊢
            split at h
            · rename_i c5
              rw [if_pos c5]; unfold wd; rw [if_neg (by omega), if_neg (by omega), if_pos (by omega)]; omega
            · omega
          · rw [if_neg c6] at h ⊢
            split at h
            · rename_i c5
              rw [if_pos c5]; unfold wd; rw [if_neg (by omega), if_neg (by omega), if_neg (by omega)]; omega
            · omega
theorem tpk_w {f : Int → Int} {n i : Int} (h : ¬ tpk f n i = -1) : 0 ≤ i ∧ i < n := by
  unfold tpk at h
  by_cases c : 0 ≤ i ∧ i < n
  · exact c
  · rw [if_neg c] at h; exact absurd rfl h
theorem hxs_w {f : Int → Int} {n : Int} : ∀ (k : Nat) (p v q w : Int), hxs f n k p v = (q, w) → p < q → q ≤ n := by
  intro k
  induction k with
  | zero =>
    intro p v q w h hq
    unfold hxs at h
    cases h
    omega
  | succ k ih =>
    intro p v q w h hq
    unfold hxs at h
    split at h
    · rename_i h0
      have hp := tpk_w (f := f) (n := n) (i := p) (fun e => by rw [e] at h0; revert h0; decide)
      by_cases c : p + 1 < q
      · exact ih _ _ _ _ h c
      · omega
    · cases h
      omega
theorem hexok_w {f : Int → Int} {n p v q : Int} (h : hexok f n p v q) : q ≤ n := by
  rcases h with ⟨h1, h2, h3, h4, h5⟩ | ⟨h1, h2, h3, h5⟩
  · have := tpk_w (f := f) (n := n) (i := q - 1) (by omega)
    omega
  · exact hxs_w 2 _ _ _ _ h2 (by omega)
theorem esc1_w {f : Int → Int} {n p v q : Int} (h : esc1 f n p v q) : p < q ∧ q ≤ n := by
  unfold esc1 at h
  rcases h with ⟨h1, h2⟩ | ⟨h1, h2⟩
  · have := tpk_w (f := f) (n := n) (i := p + 1) (fun e => by rw [e] at h2; revert h2; omega)
    omega
  · have := hexok_w h2
    have := tpk_w (f := f) (n := n) (i := p + 1) (by omega)
    refine ⟨?_, by omega⟩
    rcases h2 with ⟨a1, a2, a3, a4, a5⟩ | ⟨a1, a2, a3, a5⟩
    · omega
    · omega
theorem esc2_w {f : Int → Int} {n p q b : Int} {k : Nat} (h : esc2 f n p q k b) : p < q ∧ q ≤ n := by
  unfold esc2 at h
  rcases h with ⟨h1, h2⟩ | ⟨h1, h2, h3⟩
  · have : ¬ tpk f n (p + 1) = -1 := by rcases h2 with z | z | z | z | z | z <;> omega
    have := tpk_w this
    omega
  · have : ¬ tpk f n (p + 2) = -1 := by rcases h3 with z | z | z | z <;> omega
    have := tpk_w this
    omega
theorem mem1_w {f : Int → Int} {n p v q : Int} (hb : bytes f n) (hv : 0 ≤ v) (h : mem1 f n p v q) : p < q ∧ q ≤ n := by
  rcases h with ⟨h1, h2, h3, h4⟩ | ⟨h1, h2, h3⟩
  · have := u8_w (p := p) hb (by rw [← h3]; exact hv)
    rw [← h3] at this
    have := wd_in v
    omega
  · exact esc1_w h2
/-- a named kind: [:name:] or [:^name:], by the place of its table -/
def nm7 (f : Int → Int) (n b c0 c1 c2 c3 c4 : Int) : Prop := 0 ≤ b ∧ b + 7 ≤ n ∧ f b = c0 ∧ f (b + 1) = c1 ∧ f (b + 2) = c2 ∧ f (b + 3) = c3 ∧ f (b + 4) = c4 ∧ f (b + 5) = 58 ∧ f (b + 6) = 93
def nmk (f : Int → Int) (n b : Int) (k : Nat) : Prop := (k = 1 ∧ nm7 f n b 100 105 103 105 116) ∨ (k = 8 ∧ nm7 f n b 97 108 112 104 97) ∨ (k = 9 ∧ nm7 f n b 117 112 112 101 114) ∨ (k = 10 ∧ nm7 f n b 108 111 119 101 114) ∨ (k = 11 ∧ nm7 f n b 112 117 110 99 116) ∨ (k = 12 ∧ nm7 f n b 115 112 97 99 101)
theorem nmk_w {f : Int → Int} {n b : Int} {k : Nat} (h : nmk f n b k) : b + 7 ≤ n ∧ 1 ≤ k ∧ k ≤ 12 := by
  rcases h with ⟨e, h⟩ | ⟨e, h⟩ | ⟨e, h⟩ | ⟨e, h⟩ | ⟨e, h⟩ | ⟨e, h⟩ <;> exact ⟨h.2.1, by omega, by omega⟩
def nk2 (f : Int → Int) (n p : Int) (k : Nat) (b q : Int) : Prop := (b = 1 ∧ tpk f n (p + 2) = 94 ∧ nmk f n (p + 3) k ∧ q = p + 10) ∨ (b = 0 ∧ ¬ tpk f n (p + 2) = 94 ∧ nmk f n (p + 2) k ∧ q = p + 9)
def nk3 (f : Int → Int) (n p : Int) : Prop := ∀ k b q, ¬ nk2 f n p k b q
