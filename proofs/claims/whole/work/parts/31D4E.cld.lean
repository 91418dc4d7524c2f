/-! what a text says is one -/
theorem hexok_det {f : Int → Int} {n p v q v2 q2 : Int} (h : hexok f n p v q) (h2 : hexok f n p v2 q2) : v = v2 ∧ q = q2 := by
  rcases h with ⟨a1, a2, a3, a4, a5⟩ | ⟨a1, a2, a3, a5⟩
  · rcases h2 with ⟨b1, b2, b3, b4, b5⟩ | ⟨b1, b2, b3, b5⟩
    · rw [a2] at b2
      have e1 := congrArg Prod.fst b2
      have e2 := congrArg Prod.snd b2
      simp only at e1 e2
      omega
    · exact absurd a1 b1
  · rcases h2 with ⟨b1, b2, b3, b4, b5⟩ | ⟨b1, b2, b3, b5⟩
    · exact absurd b1 a1
    · rw [a2] at b2
      have e1 := congrArg Prod.fst b2
      have e2 := congrArg Prod.snd b2
      simp only at e1 e2
      omega
/-- a letter's own meaning: which of the escapes it is -/
def el1 (c v : Int) : Prop := (c = 97 ∧ v = 7) ∨ (c = 102 ∧ v = 12) ∨ (c = 110 ∧ v = 10) ∨ (c = 114 ∧ v = 13) ∨ (c = 116 ∧ v = 9) ∨ (c = 118 ∧ v = 11) ∨ (c = 65 ∧ v = -4) ∨ (c = 122 ∧ v = -5) ∨ (c = 98 ∧ v = -8) ∨ (c = 66 ∧ v = -9) ∨ (c = 67 ∧ v = -3) ∨ (0 ≤ c ∧ c < 128 ∧ ¬ isW c ∧ v = c)
theorem el1_det {c v v2 : Int} (h : el1 c v) (h2 : el1 c v2) : v = v2 := by
  unfold el1 isW at *
  rcases h with h | h | h | h | h | h | h | h | h | h | h | h <;> rcases h2 with q | q | q | q | q | q | q | q | q | q | q | q <;> omega
theorem el1_x {c v : Int} (h : el1 c v) : ¬ c = 120 := by
  unfold el1 isW at h
  rcases h with h | h | h | h | h | h | h | h | h | h | h | h <;> omega
theorem esc1_det {f : Int → Int} {n p v q v2 q2 : Int} (h : esc1 f n p v q) (h2 : esc1 f n p v2 q2) : v = v2 ∧ q = q2 := by
  rcases h with ⟨a1, a2⟩ | ⟨a1, a2⟩
  · rcases h2 with ⟨b1, b2⟩ | ⟨b1, b2⟩
    · exact ⟨el1_det a2 b2, by omega⟩
    · exact absurd b1 (el1_x a2)
  · rcases h2 with ⟨b1, b2⟩ | ⟨b1, b2⟩
    · exact absurd a1 (el1_x b2)
    · exact hexok_det a2 b2
theorem esc2_det {f : Int → Int} {n p q b q2 b2 : Int} {k k2 : Nat} (h : esc2 f n p q k b) (h2 : esc2 f n p q2 k2 b2) : q = q2 ∧ k = k2 ∧ b = b2 := by
  unfold esc2 at *
  rcases h with ⟨a1, a2⟩ | ⟨a1, a2, a3⟩
  · rcases h2 with ⟨b1, b2'⟩ | ⟨b1, b2', b3⟩
    · rcases a2 with a | a | a | a | a | a <;> rcases b2' with c | c | c | c | c | c <;> omega
    · rcases a2 with a | a | a | a | a | a <;> omega
  · rcases h2 with ⟨b1, b2'⟩ | ⟨b1, b2', b3⟩
    · rcases b2' with c | c | c | c | c | c <;> omega
    · rcases a3 with a | a | a | a <;> rcases b3 with c | c | c | c <;> omega
theorem esc12 {f : Int → Int} {n p v q q2 b : Int} {k : Nat} (h : esc1 f n p v q) (h2 : esc2 f n p q2 k b) : False := by
  have hc : tpk f n (p + 1) = 100 ∨ tpk f n (p + 1) = 68 ∨ tpk f n (p + 1) = 115 ∨ tpk f n (p + 1) = 83 ∨ tpk f n (p + 1) = 119 ∨ tpk f n (p + 1) = 87 ∨ tpk f n (p + 1) = 112 ∨ tpk f n (p + 1) = 80 := by
    rcases h2 with ⟨_, a⟩ | ⟨_, a, _⟩
    · rcases a with a | a | a | a | a | a <;> omega
    · omega
  rcases h with ⟨_, a⟩ | ⟨a, _⟩
  · unfold isW at a
    rcases a with a | a | a | a | a | a | a | a | a | a | a | a <;> omega
  · omega
theorem mem1_det {f : Int → Int} {n p v q v2 q2 : Int} (h : mem1 f n p v q) (h2 : mem1 f n p v2 q2) : v = v2 ∧ q = q2 := by
  rcases h with ⟨a1, a2, a3, a4⟩ | ⟨a1, a2, a3⟩
  · rcases h2 with ⟨b1, b2, b3, b4⟩ | ⟨b1, b2, b3⟩
    · have e : v = v2 := a3.trans b3.symm
      exact ⟨e, by rw [a4, b4, e]⟩
    · exact absurd b1 a2
  · rcases h2 with ⟨b1, b2, b3, b4⟩ | ⟨b1, b2, b3⟩
    · exact absurd a1 b2
    · exact esc1_det a2 b2
theorem nm7_ne {f : Int → Int} {n b c0 c1 c2 c3 c4 d0 d1 d2 d3 d4 : Int} (h : nm7 f n b c0 c1 c2 c3 c4) (h2 : nm7 f n b d0 d1 d2 d3 d4) : c0 = d0 ∧ c1 = d1 := by
  obtain ⟨_, _, a0, a1, _⟩ := h
  obtain ⟨_, _, b0, b1, _⟩ := h2
  omega
theorem nmk_det {f : Int → Int} {n b : Int} {k k2 : Nat} (h : nmk f n b k) (h2 : nmk f n b k2) : k = k2 := by
  rcases h with ⟨a, x⟩ | ⟨a, x⟩ | ⟨a, x⟩ | ⟨a, x⟩ | ⟨a, x⟩ | ⟨a, x⟩ <;> rcases h2 with ⟨c, y⟩ | ⟨c, y⟩ | ⟨c, y⟩ | ⟨c, y⟩ | ⟨c, y⟩ | ⟨c, y⟩ <;> first | omega | (have := nm7_ne x y; omega)
theorem nk2_det {f : Int → Int} {n p b q b2 q2 : Int} {k k2 : Nat} (h : nk2 f n p k b q) (h2 : nk2 f n p k2 b2 q2) : k = k2 ∧ b = b2 ∧ q = q2 := by
  rcases h with ⟨a1, a2, a3, a4⟩ | ⟨a1, a2, a3, a4⟩ <;> rcases h2 with ⟨c1, c2, c3, c4⟩ | ⟨c1, c2, c3, c4⟩
  · exact ⟨nmk_det a3 c3, by omega, by omega⟩
  · exact absurd a2 c2
  · exact absurd c2 a2
  · exact ⟨nmk_det a3 c3, by omega, by omega⟩
theorem orq {A A2 B B2 C : Prop} (h1 : B ↔ A ∨ C) (h2 : B2 ↔ A2 ∨ C) (h : A ↔ A2) : B ↔ B2 := by rw [h1, h2, h]
/-- one item only stands at a place -/
theorem clS_det {f : Int → Int} {n al q : Int} {P P' : Int → Prop} {q2 q3 : Int} {P2 P3 : Int → Prop} (h : clS f n al q P q2 P2) (h2 : clS f n al q P' q3 P3) (hp : ∀ c, P c ↔ P' c) : q2 = q3 ∧ ∀ c, P2 c ↔ P3 c := by
  rcases h with ⟨a0, k, b, a1, a2⟩ | ⟨a0, k, b, a1, a2⟩ | ⟨a0, v, a1, a2, a3⟩ | ⟨a0, v, x, v2, a1, a2, a3, a4, a5, a6⟩ <;> rcases h2 with ⟨c0, k', b', c1, c2⟩ | ⟨c0, k', b', c1, c2⟩ | ⟨c0, v', c1, c2, c3⟩ | ⟨c0, v', x', v2', c1, c2, c3, c4, c5, c6⟩
  · obtain ⟨e1, e2, e3⟩ := nk2_det a1 c1
    subst e1 e2 e3
    exact ⟨rfl, fun c => orq (a2 c) (c2 c) (hp c)⟩
  · exact absurd a0 c0
  · exact absurd a0 c0
  · exact absurd a0 c0
  · exact absurd c0 a0
  · obtain ⟨e1, e2, e3⟩ := esc2_det a1.2 c1.2
    subst e1 e2 e3
    exact ⟨rfl, fun c => orq (a2 c) (c2 c) (hp c)⟩
  · rcases c1.1 with ⟨_, z, _⟩ | ⟨_, z, _⟩
    · exact absurd a1.1 z
    · exact (esc12 z a1.2).elim
  · rcases c1.1 with ⟨_, z, _⟩ | ⟨_, z, _⟩
    · exact absurd a1.1 z
    · exact (esc12 z a1.2).elim
  · exact absurd c0 a0
  · rcases a1.1 with ⟨_, z, _⟩ | ⟨_, z, _⟩
    · exact absurd c1.1 z
    · exact (esc12 z c1.2).elim
  · obtain ⟨e1, e2⟩ := mem1_det a1.1 c1.1
    subst e1 e2
    exact ⟨rfl, fun c => orq (a3 c) (c3 c) (hp c)⟩
  · obtain ⟨e1, e2⟩ := mem1_det a1.1 c1.1
    subst e1 e2
    exact absurd c2 a2
  · exact absurd c0 a0
  · rcases a1.1 with ⟨_, z, _⟩ | ⟨_, z, _⟩
    · exact absurd c1.1 z
    · exact (esc12 z c1.2).elim
  · obtain ⟨e1, e2⟩ := mem1_det a1.1 c1.1
    subst e1 e2
    exact absurd a2 c2
  · obtain ⟨e1, e2⟩ := mem1_det a1.1 c1.1
    subst e1 e2
    obtain ⟨e3, e4⟩ := mem1_det a4 c4
    subst e3 e4
    exact ⟨rfl, fun c => orq (a6 c) (c6 c) (hp c)⟩
