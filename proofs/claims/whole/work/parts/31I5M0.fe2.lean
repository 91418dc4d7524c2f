/-- the class makes four bytes ready -/
def mrR (R S : Int → Int) (a x : Int) : Prop := (∀ i, 0 ≤ i → i < 4 → S (a + i) = byt x i) ∧ ∀ i, (i < a ∨ a + 4 ≤ i) → S i = R i
theorem mrR_of {R : Int → Int} {a x i0 i1 i2 i3 : Int} (h0 : i0 = a) (h1 : i1 = a + 1) (h2 : i2 = a + 2) (h3 : i3 = a + 3) : mrR R (zu (zu (zu (zu R i0 (byt x 0)) i1 (byt x 1)) i2 (byt x 2)) i3 (byt x 3)) a x := by
  refine ⟨fun i p q => ?_, fun i p => ?_⟩
  · have c : i = 0 ∨ i = 1 ∨ i = 2 ∨ i = 3 := by omega
    rcases c with c | c | c | c <;> subst c
    · rw [zu_ne (by omega), zu_ne (by omega), zu_ne (by omega), show a + 0 = i0 by omega, zu_self]
    · rw [zu_ne (by omega), zu_ne (by omega), show a + 1 = i1 by omega, zu_self]
    · rw [zu_ne (by omega), show a + 2 = i2 by omega, zu_self]
    · rw [show a + 3 = i3 by omega, zu_self]
  · rw [zu_ne (by omega), zu_ne (by omega), zu_ne (by omega), zu_ne (by omega)]
theorem fdI_mr {R0 R1 R2 R3 R4 R5 : Int → Int} {x1 x2 x3 x4 x5 : Int} (h1 : mrR R0 R1 0 x1) (h2 : mrR R1 R2 4 x2) (h3 : mrR R2 R3 8 x3) (h4 : mrR R3 R4 12 x4) (h5 : mrR R4 R5 16 x5) : fdI R5 x1 x2 x3 x4 x5 4 := by
  intro i a b
  refine ⟨?_, ?_, ?_, ?_, ?_⟩
  · rw [h5.2 i (by omega), h4.2 i (by omega), h3.2 i (by omega), h2.2 i (by omega)]
    have t := h1.1 i a b
    rw [show 0 + i = i by omega] at t
    exact t
  · rw [h5.2 _ (by omega), h4.2 _ (by omega), h3.2 _ (by omega)]
    exact h2.1 i a b
  · rw [h5.2 _ (by omega), h4.2 _ (by omega)]
    exact h3.1 i a b
  · rw [h5.2 _ (by omega)]
    exact h4.1 i a b
  · exact h5.1 i a b
/-- the class: no program is there; replace takes the tape where one is -/
def npg (PG : Nat → Option Nat) (x : Int) : Prop := x < 0 ∨ 6 ≤ x ∨ PG x.toNat = none
def pgQ (PG : Nat → Option Nat) (x n n2 : Int) : Prop := (∃ b : Nat, 0 ≤ x ∧ x < 6 ∧ PG x.toNat = some b ∧ n2 = 0) ∨ (npg PG x ∧ n2 = n)
/-- the same slots are there -/
def thE (PG : Nat → Option Nat) (A : Int → Int) : Prop := ∀ s : Nat, s < 6 → ((PG s = none ∧ A (s : Int) = 0) ∨ ((∃ b : Nat, PG s = some b) ∧ A (s : Int) = 1))
theorem thE_q {PG : Nat → Option Nat} {A : Int → Int} {x n a b : Int} (h : thE PG A) (p : pgQ PG x n a) (q : thQ A x n b) : a = b := by
  rcases p with ⟨c, p1, p2, p3, p4⟩ | ⟨p1, p2⟩ <;> rcases q with ⟨q1, q2, q3, q4⟩ | ⟨q1, q2⟩
  · rw [p4, q4]
  · exfalso
    rcases h x.toNat (by omega) with ⟨r, _⟩ | ⟨_, r⟩
    · rw [r] at p3; cases p3
    · rw [show ((x.toNat : Nat) : Int) = x by omega] at r
      rcases q1 with q1 | q1 | q1 <;> omega
  · exfalso
    rcases p1 with p1 | p1 | p1
    · omega
    · omega
    · rcases h x.toNat (by omega) with ⟨_, r⟩ | ⟨⟨c, r⟩, _⟩
      · rw [show ((x.toNat : Nat) : Int) = x by omega] at r; omega
      · rw [r] at p1; cases p1
  · rw [p2, q2]
theorem thE_s {PG PG2 : Nat → Option Nat} {A : Int → Int} {x : Int} (h : thE PG A) (h0 : 0 ≤ x ∧ x ≤ 5) (h1 : ∃ b : Nat, PG2 x.toNat = some b) (h2 : ∀ s : Nat, s ≠ x.toNat → PG2 s = PG s) : thE PG2 (zu A x 1) := by
  intro s hs
  by_cases e : s = x.toNat
  · subst e; right; refine ⟨h1, ?_⟩; rw [show ((x.toNat : Nat) : Int) = x by omega, zu_self]
  · rw [h2 s e, zu_ne (by omega)]; exact h s hs
/-- the class's compile, as it is seen -/
def ctF (f : Int → Int) (n sl fl fa fp n2 fa2 fp2 : Int) : Prop := ((sl < 0 ∨ 5 < sl ∨ fl < 0 ∨ 31 < fl) ∧ n2 = n ∧ fa2 = fa ∧ fp2 = fp) ∨ ((0 ≤ sl ∧ sl ≤ 5 ∧ 0 ≤ fl ∧ fl ≤ 31) ∧ n2 = 0 ∧ rdF f n (fl % 16) fa2 fp2)
def ctK (f : Int → Int) (n sl fl g : Int) (cv2 : Int → Int) : Prop := (0 ≤ sl ∧ sl ≤ 5 ∧ 0 ≤ fl ∧ fl ≤ 31) ∧ ∃ (z : Int) (RA RL NA NL : Int → Int), rdC f n fl g z RA RL ∧ nmok RA RL g n ∧ bnm f RA RL NA NL (g + 1) ∧ ivR g z fl NL NA cv2 (100 + 10 * sl.toNat) ∧ ivT n f cv2 (100 + 10 * sl.toNat)
def pgS (PG PG2 : Nat → Option Nat) (k : Nat) : Prop := (∃ b : Nat, PG2 k = some b) ∧ ∀ s : Nat, s ≠ k → PG2 s = PG s
/-- the other slots' numbers stay -/
def cvS (cv cv2 : Int → Int) (k : Nat) : Prop := ∀ s : Nat, ¬ s = k → ∀ j : Int, 0 ≤ j → j < 4000 → cvI cv2 (100 + 10 * s) j = cvI cv (100 + 10 * s) j
theorem cvS_u {cv w : Int → Int} {v c : Int} {k lq : Nat} (hv : 0 ≤ v) (hl : lq = 100 + 10 * k) : cvS cv (cvU cv v c lq w) k := fun s hs j a b => cvI_n hv hl rfl hs ⟨a, b⟩
/-- the class's about and name -/
def abC (PG : Nat → Option Nat) (cv : Int → Int) (x y v : Int) : Prop := ((npg PG x ∨ y < 0 ∨ 2 < y) ∧ v = -1) ∨ ((0 ≤ x ∧ x < 6) ∧ (∃ b : Nat, PG x.toNat = some b) ∧ (0 ≤ y ∧ y ≤ 2) ∧ v = cvI cv (100 + 10 * x.toNat) y)
def nmC (PG : Nat → Option Nat) (cv : Int → Int) (x k i v : Int) : Prop := (npg PG x ∧ v = -1) ∨ ((0 ≤ x ∧ x < 6) ∧ (∃ b : Nat, PG x.toNat = some b) ∧ (((1 ≤ k ∧ k ≤ cvI cv (100 + 10 * x.toNat) 0 ∧ 0 ≤ i ∧ i < cvI cv (100 + 10 * x.toNat) (10 + k)) ∧ v = cvI cv (100 + 10 * x.toNat) (20 + (k * 12 + i))) ∨ (¬ (1 ≤ k ∧ k ≤ cvI cv (100 + 10 * x.toNat) 0 ∧ 0 ≤ i ∧ i < cvI cv (100 + 10 * x.toNat) (10 + k)) ∧ v = -1)))
theorem ivR_a {gr sz fl y v : Int} {NL NA cv : Int → Int} {lq : Nat} (h : ivR gr sz fl NL NA cv lq) (hv : (y = 0 ∧ v = gr) ∨ (y = 1 ∧ v = sz) ∨ (y = 2 ∧ v = fl)) : v = cvI cv lq y := by
  obtain ⟨a1, a2, a3, _⟩ := h
  rcases hv with ⟨e, hv⟩ | ⟨e, hv⟩ | ⟨e, hv⟩
  · rw [e, a1]; exact hv
  · rw [e, a2]; exact hv
  · rw [e, a3]; exact hv
theorem ivR_t {gr sz fl k i : Int} {NL NA cv : Int → Int} {lq : Nat} (h : ivR gr sz fl NL NA cv lq) (hg : gr ≤ 9) : (1 ≤ k ∧ k ≤ gr ∧ 0 ≤ i ∧ i < NL k) ↔ (1 ≤ k ∧ k ≤ cvI cv lq 0 ∧ 0 ≤ i ∧ i < cvI cv lq (10 + k)) := by
  obtain ⟨a1, _, _, a4, _⟩ := h
  rw [a1]
  constructor
  · intro ⟨b1, b2, b3, b4⟩
    rw [a4 k (by omega) (by omega)]; exact ⟨b1, b2, b3, b4⟩
  · intro ⟨b1, b2, b3, b4⟩
    rw [a4 k (by omega) (by omega)] at b4; exact ⟨b1, b2, b3, b4⟩
