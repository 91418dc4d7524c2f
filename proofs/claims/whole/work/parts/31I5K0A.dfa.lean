/-! ends by steps: a pair comes to an end by a chain of steps -/
def rnK (tg a b : Int → Int) (mm : Int → Int → Prop) (f : Int → Int) (n : Int) : Nat → Int → Int → Int → Prop
  | 0, s, p, e => tg s = 5 ∧ e = p
  | k + 1, s, p, e => ∃ s2 p2 : Int, chl tg a b mm f n s p s2 p2 ∧ rnK tg a b mm f n k s2 p2 e
def RN (tg a b : Int → Int) (mm : Int → Int → Prop) (f : Int → Int) (n s p e : Int) : Prop := ∃ k : Nat, rnK tg a b mm f n k s p e
section Rn
variable {tg a b : Int → Int} {mm : Int → Int → Prop} {f : Int → Int} {n s p e s2 p2 : Int}
theorem RN_a (t : tg s = 5) : RN tg a b mm f n s p p := ⟨0, t, rfl⟩
theorem RN_s (h : chl tg a b mm f n s p s2 p2) (q : RN tg a b mm f n s2 p2 e) : RN tg a b mm f n s p e := by
  obtain ⟨k, q⟩ := q
  exact ⟨k + 1, s2, p2, h, q⟩
theorem RN_i (h : RN tg a b mm f n s p e) : (tg s = 5 ∧ e = p) ∨ ∃ s2 p2 : Int, chl tg a b mm f n s p s2 p2 ∧ RN tg a b mm f n s2 p2 e := by
  obtain ⟨k, h⟩ := h
  cases k with
  | zero => exact Or.inl h
  | succ k =>
    obtain ⟨s2, p2, h1, h2⟩ := h
    exact Or.inr ⟨s2, p2, h1, k, h2⟩
theorem chl_0 (t : tg s = 0) (h : chl tg a b mm f n s p s2 p2) : (0 ≤ u8 f n p ∧ mm s (u8 f n p)) ∧ s2 = a s ∧ p2 = p + wd (u8 f n p) := by
  rcases h with ⟨_, h⟩ | ⟨h, _⟩ | ⟨h, _⟩ | ⟨h, _⟩ | ⟨h, _⟩
  · exact h
  all_goals omega
theorem chl_1 (t : tg s = 1) (h : chl tg a b mm f n s p s2 p2) : p < n ∧ s2 = a s ∧ p2 = p + 1 := by
  rcases h with ⟨h, _⟩ | ⟨_, h⟩ | ⟨h, _⟩ | ⟨h, _⟩ | ⟨h, _⟩
  · omega
  · exact h
  all_goals omega
theorem chl_2 (t : tg s = 2) (h : chl tg a b mm f n s p s2 p2) : hld f n p (b s) ∧ s2 = a s ∧ p2 = p := by
  rcases h with ⟨h, _⟩ | ⟨h, _⟩ | ⟨_, h⟩ | ⟨h, _⟩ | ⟨h, _⟩
  · omega
  · omega
  · exact h
  all_goals omega
theorem chl_3 (t : tg s = 3) (h : chl tg a b mm f n s p s2 p2) : (s2 = a s ∨ s2 = b s) ∧ p2 = p := by
  rcases h with ⟨h, _⟩ | ⟨h, _⟩ | ⟨h, _⟩ | ⟨_, h⟩ | ⟨h, _⟩
  · omega
  · omega
  · omega
  · exact h
  · omega
theorem chl_4 (t : tg s = 4) (h : chl tg a b mm f n s p s2 p2) : s2 = a s ∧ p2 = p := by
  rcases h with ⟨h, _⟩ | ⟨h, _⟩ | ⟨h, _⟩ | ⟨h, _⟩ | ⟨_, h⟩
  · omega
  · omega
  · omega
  · omega
  · exact h
theorem chl_no (t : 5 ≤ tg s) (h : chl tg a b mm f n s p s2 p2) : False := by
  rcases h with ⟨h, _⟩ | ⟨h, _⟩ | ⟨h, _⟩ | ⟨h, _⟩ | ⟨h, _⟩ <;> omega
/-- where there are finitely many ways, ends are ends by steps -/
theorem EN_RN : ∀ (m : Nat) (s p : Int) (g : Gr) (L : List (Int × Gr)), WL tg a b mm f n m s p g L → ∀ e : Int, EN tg a b mm f n s p e ↔ RN tg a b mm f n s p e := by
  intro m
  induction m with
  | zero => intro s p g L h; exact h.elim
  | succ m ih =>
    intro s p g L h e
    have w : WW tg a b mm f n s p g L := ⟨m + 1, h⟩
    rcases h with ⟨t, h | h⟩ | ⟨t, h | h⟩ | ⟨t, h | h⟩ | ⟨t, L1, L2, h1, h2, h3⟩ | ⟨t, h⟩ | ⟨t, h⟩ | ⟨t, h⟩
    · rw [EN_0 t h.1 w, ih _ _ _ _ h.2 e]
      constructor
      · intro q; exact RN_s (Or.inl ⟨t, h.1, rfl, rfl⟩) q
      · intro q
        rcases RN_i q with ⟨z, _⟩ | ⟨s2, p2, q1, q2⟩
        · omega
        · obtain ⟨_, k1, k2⟩ := chl_0 t q1
          rw [k1, k2] at q2; exact q2
    · refine ⟨fun q => absurd q (EN_0n t h.1 w), fun q => ?_⟩
      rcases RN_i q with ⟨z, _⟩ | ⟨s2, p2, q1, q2⟩
      · omega
      · exact absurd (chl_0 t q1).1 h.1
    · rw [EN_1 t h.1 w, ih _ _ _ _ h.2 e]
      constructor
      · intro q; exact RN_s (Or.inr (Or.inl ⟨t, h.1, rfl, rfl⟩)) q
      · intro q
        rcases RN_i q with ⟨z, _⟩ | ⟨s2, p2, q1, q2⟩
        · omega
        · obtain ⟨_, k1, k2⟩ := chl_1 t q1
          rw [k1, k2] at q2; exact q2
    · refine ⟨fun q => absurd q (EN_1n t h.1 w), fun q => ?_⟩
      rcases RN_i q with ⟨z, _⟩ | ⟨s2, p2, q1, q2⟩
      · omega
      · exact absurd (chl_1 t q1).1 h.1
    · rw [EN_2 t h.1 w, ih _ _ _ _ h.2 e]
      constructor
      · intro q; exact RN_s (Or.inr (Or.inr (Or.inl ⟨t, h.1, rfl, rfl⟩))) q
      · intro q
        rcases RN_i q with ⟨z, _⟩ | ⟨s2, p2, q1, q2⟩
        · omega
        · obtain ⟨_, k1, k2⟩ := chl_2 t q1
          rw [k1, k2] at q2; exact q2
    · refine ⟨fun q => absurd q (EN_2n t h.1 w), fun q => ?_⟩
      rcases RN_i q with ⟨z, _⟩ | ⟨s2, p2, q1, q2⟩
      · omega
      · exact absurd (chl_2 t q1).1 h.1
    · rw [EN_3 t w, ih _ _ _ _ h1 e, ih _ _ _ _ h2 e]
      constructor
      · rintro (q | q)
        · exact RN_s (Or.inr (Or.inr (Or.inr (Or.inl ⟨t, Or.inl rfl, rfl⟩)))) q
        · exact RN_s (Or.inr (Or.inr (Or.inr (Or.inl ⟨t, Or.inr rfl, rfl⟩)))) q
      · intro q
        rcases RN_i q with ⟨z, _⟩ | ⟨s2, p2, q1, q2⟩
        · omega
        · obtain ⟨k1, k2⟩ := chl_3 t q1
          rw [k2] at q2
          rcases k1 with k1 | k1
          · rw [k1] at q2; exact Or.inl q2
          · rw [k1] at q2; exact Or.inr q2
    · rw [EN_4 t w, ih _ _ _ _ h e]
      constructor
      · intro q; exact RN_s (Or.inr (Or.inr (Or.inr (Or.inr ⟨t, rfl, rfl⟩)))) q
      · intro q
        rcases RN_i q with ⟨z, _⟩ | ⟨s2, p2, q1, q2⟩
        · omega
        · obtain ⟨k1, k2⟩ := chl_4 t q1
          rw [k1, k2] at q2; exact q2
    · rw [EN_5 t]
      constructor
      · intro q; rw [q]; exact RN_a t
      · intro q
        rcases RN_i q with ⟨_, z⟩ | ⟨s2, p2, q1, q2⟩
        · exact z
        · exact (chl_no (by omega) q1).elim
    · refine ⟨fun q => absurd q (EN_6 t), fun q => ?_⟩
      rcases RN_i q with ⟨z, _⟩ | ⟨s2, p2, q1, q2⟩
      · omega
      · exact (chl_no (by omega) q1).elim
theorem EN_rn {g : Gr} {L : List (Int × Gr)} (h : WW tg a b mm f n s p g L) : EN tg a b mm f n s p e ↔ RN tg a b mm f n s p e := by
  obtain ⟨m, h⟩ := h
  exact EN_RN m s p g L h e
end Rn
/-! steps that take no byte, told by signs: HS says which assertions are so -/
def sSt (tg a b : Int → Int) (HS : Int → Prop) (x y : Int) : Prop := (tg x = 2 ∧ HS (b x) ∧ y = a x) ∨ (tg x = 3 ∧ (y = a x ∨ y = b x)) ∨ (tg x = 4 ∧ y = a x)
def sRk (tg a b : Int → Int) (HS : Int → Prop) : Nat → Int → Int → Prop
  | 0, x, y => x = y
  | k + 1, x, y => ∃ z : Int, sSt tg a b HS x z ∧ sRk tg a b HS k z y
def sR (tg a b : Int → Int) (HS : Int → Prop) (x y : Int) : Prop := ∃ k : Nat, sRk tg a b HS k x y
section Sr
variable {tg a b : Int → Int} {mm : Int → Int → Prop} {HS : Int → Prop} {f : Int → Int} {n p e x y z : Int}
theorem sR_0 : sR tg a b HS x x := ⟨0, rfl⟩
theorem sR_s (h : sSt tg a b HS x z) (q : sR tg a b HS z y) : sR tg a b HS x y := by
  obtain ⟨k, q⟩ := q
  exact ⟨k + 1, z, h, q⟩
theorem sRk_t : ∀ (k : Nat) (x y : Int), sRk tg a b HS k x y → ∀ z : Int, sSt tg a b HS y z → sR tg a b HS x z := by
  intro k
  induction k with
  | zero =>
    intro x y h z q
    have e : x = y := h
    rw [e]
    exact sR_s q sR_0
  | succ k ih =>
    intro x y h z q
    obtain ⟨w, h1, h2⟩ := h
    exact sR_s h1 (ih w y h2 z q)
theorem sR_t (h : sR tg a b HS x y) (q : sSt tg a b HS y z) : sR tg a b HS x z := by
  obtain ⟨k, h⟩ := h
  exact sRk_t k x y h z q
/-- what is closed and has the first has all -/
theorem sR_c {V : Int → Prop} (hc : ∀ u v : Int, V u → sSt tg a b HS u v → V v) : ∀ (k : Nat) (x y : Int), V x → sRk tg a b HS k x y → V y := by
  intro k
  induction k with
  | zero => intro x y h q; have e : x = y := q; rw [← e]; exact h
  | succ k ih =>
    intro x y h q
    obtain ⟨z, q1, q2⟩ := q
    exact ih z y (hc x z h q1) q2
/-- at a place where the signs are right -/
theorem RN_sym (hH : ∀ z : Int, tg z = 2 → (HS (b z) ↔ hld f n p (b z))) : RN tg a b mm f n x p e ↔ ∃ y : Int, sR tg a b HS x y ∧ ((tg y = 5 ∧ e = p) ∨ (tg y = 0 ∧ (0 ≤ u8 f n p ∧ mm y (u8 f n p)) ∧ RN tg a b mm f n (a y) (p + wd (u8 f n p)) e) ∨ (tg y = 1 ∧ p < n ∧ RN tg a b mm f n (a y) (p + 1) e)) := by
  constructor
  · rintro ⟨k, h⟩
    induction k generalizing x with
    | zero => exact ⟨x, sR_0, Or.inl h⟩
    | succ k ih =>
      obtain ⟨s2, p2, h1, h2⟩ := h
      rcases h1 with ⟨t, c, e1, e2⟩ | ⟨t, c, e1, e2⟩ | ⟨t, c, e1, e2⟩ | ⟨t, c, e2⟩ | ⟨t, e1, e2⟩
      · rw [e1, e2] at h2
        exact ⟨x, sR_0, Or.inr (Or.inl ⟨t, c, k, h2⟩)⟩
      · rw [e1, e2] at h2
        exact ⟨x, sR_0, Or.inr (Or.inr ⟨t, c, k, h2⟩)⟩
      · rw [e2] at h2
        obtain ⟨y, q1, q2⟩ := ih h2
        exact ⟨y, sR_s (Or.inl ⟨t, (hH x t).mpr c, e1⟩) q1, q2⟩
      · rw [e2] at h2
        obtain ⟨y, q1, q2⟩ := ih h2
        exact ⟨y, sR_s (Or.inr (Or.inl ⟨t, c⟩)) q1, q2⟩
      · rw [e2] at h2
        obtain ⟨y, q1, q2⟩ := ih h2
        exact ⟨y, sR_s (Or.inr (Or.inr ⟨t, e1⟩)) q1, q2⟩
  · rintro ⟨y, ⟨k, h⟩, q⟩
    induction k generalizing x with
    | zero =>
      have e0 : x = y := h
      rw [e0]
      rcases q with ⟨t, e1⟩ | ⟨t, c, q⟩ | ⟨t, c, q⟩
      · rw [e1]; exact RN_a t
      · exact RN_s (Or.inl ⟨t, c, rfl, rfl⟩) q
      · exact RN_s (Or.inr (Or.inl ⟨t, c, rfl, rfl⟩)) q
    | succ k ih =>
      obtain ⟨z, h1, h2⟩ := h
      have r := ih h2
      rcases h1 with ⟨t, c, e1⟩ | ⟨t, c⟩ | ⟨t, e1⟩
      · exact RN_s (Or.inr (Or.inr (Or.inl ⟨t, (hH x t).mp c, e1, rfl⟩))) r
      · exact RN_s (Or.inr (Or.inr (Or.inr (Or.inl ⟨t, c, rfl⟩)))) r
      · exact RN_s (Or.inr (Or.inr (Or.inr (Or.inr ⟨t, e1, rfl⟩)))) r
end Sr
/-! sets of entries: a state below 1024, or one that waits, 1024 more -/
/-- what a set leads to without a byte; rm: the first state is always there -/
def dvS (tg a b : Int → Int) (HS : Int → Prop) (A : Int → Prop) (rm fi x : Int) : Prop := ∃ y : Int, ((A y ∧ y < 1024) ∨ (rm = 1 ∧ y = fi)) ∧ sR tg a b HS y x
def darS (tg a b : Int → Int) (HS : Int → Prop) (A : Int → Prop) (rm fi : Int) : Prop := ∃ x : Int, dvS tg a b HS A rm fi x ∧ tg x = 5
/-- the set behind a sign: cd is the sign's character, -1 where it has none -/
def dnxS (tg a b : Int → Int) (mm : Int → Int → Prop) (HS : Int → Prop) (A : Int → Prop) (rm fi sg cd z : Int) : Prop := (∃ x : Int, dvS tg a b HS A rm fi x ∧ ((tg x = 1 ∧ ¬ sg = 0 ∧ z = a x) ∨ (tg x = 0 ∧ ¬ cd = -1 ∧ mm x cd ∧ ((cd < 128 ∧ z = a x) ∨ (128 ≤ cd ∧ z = x + 1024))))) ∨ ∃ y : Int, A y ∧ 1024 ≤ y ∧ ((sg = 1 ∧ z = a (y - 1024)) ∨ (¬ sg = 1 ∧ z = y))
/-- some entry comes to the end e -/
def dLV (tg a b : Int → Int) (mm : Int → Int → Prop) (f : Int → Int) (n p rs : Int) (A : Int → Prop) (e : Int) : Prop := (∃ y : Int, A y ∧ y < 1024 ∧ RN tg a b mm f n y p e) ∨ ∃ y : Int, A y ∧ 1024 ≤ y ∧ RN tg a b mm f n (a (y - 1024)) (p + rs) e
/-- a place is as a sign tells: rs bytes are left of the character here, ru of the one behind -/
def dpl (tg b : Int → Int) (mm : Int → Int → Prop) (HS : Int → Prop) (f : Int → Int) (n p rs ru sg cd : Int) : Prop := (∀ z : Int, tg z = 2 → (HS (b z) ↔ hld f n p (b z))) ∧ ((sg = 0 ∧ p = n ∧ cd = -1) ∨ (p < n ∧ 1 ≤ sg ∧ sg ≤ 3 ∧ cd = -1 ∧ u8 f n p = -1 ∧ rs = sg ∧ (2 ≤ sg → ru = rs - 1)) ∨ (p < n ∧ sg = 4 ∧ cd = -1 ∧ u8 f n p = -1) ∨ (p < n ∧ 5 ≤ sg ∧ 0 ≤ cd ∧ 0 ≤ u8 f n p ∧ (∀ x : Int, tg x = 0 → (mm x (u8 f n p) ↔ mm x cd)) ∧ (cd < 128 ↔ u8 f n p < 128) ∧ rs = wd (u8 f n p) ∧ (2 ≤ rs → ru = rs - 1)))
section Df
variable {tg a b : Int → Int} {mm : Int → Int → Prop} {HS : Int → Prop} {f : Int → Int} {n p rs ru sg cd rm fi e : Int} {A : Int → Prop}
/-- states lie below 1024 -/
def dok (tg a : Int → Int) (A : Int → Prop) (fi : Int) : Prop := (∀ x : Int, 0 ≤ x ∧ x < 1024 → (tg x = 0 ∨ tg x = 1) → 0 ≤ a x ∧ a x < 1024) ∧ (∀ y : Int, A y → 0 ≤ y ∧ y < 2048 ∧ (1024 ≤ y → tg (y - 1024) = 0)) ∧ 0 ≤ fi ∧ fi < 1024
theorem u8_no {c : Int} (h : u8 f n p = -1) : ¬ (0 ≤ u8 f n p ∧ mm c (u8 f n p)) := fun z => by omega
theorem wd_1 {c : Int} (h : c < 128) : wd c = 1 := if_pos h
theorem wd_2 {c : Int} (h : 128 ≤ c) : 2 ≤ wd c := by unfold wd; (repeat' split) <;> omega
/-- one step of the sets -/
theorem dstep (hd : dpl tg b mm HS f n p rs ru sg cd) (hk : dok tg a A fi) (hx : ∀ x : Int, dvS tg a b HS A rm fi x → 0 ≤ x ∧ x < 1024) (hw : ∀ y : Int, A y → 1024 ≤ y → 1 ≤ sg ∧ sg ≤ 3) (hp : p < n) : (dLV tg a b mm f n p rs A e ∨ (rm = 1 ∧ RN tg a b mm f n fi p e)) ↔ ((e = p ∧ darS tg a b HS A rm fi) ∨ dLV tg a b mm f n (p + 1) ru (dnxS tg a b mm HS A rm fi sg cd) e) := by
  obtain ⟨hH, hs⟩ := hd
  obtain ⟨k1, k2, k3⟩ := hk
  have fwd : ∀ y : Int, ((A y ∧ y < 1024) ∨ (rm = 1 ∧ y = fi)) → RN tg a b mm f n y p e → (e = p ∧ darS tg a b HS A rm fi) ∨ dLV tg a b mm f n (p + 1) ru (dnxS tg a b mm HS A rm fi sg cd) e := fun y hy q => by
    obtain ⟨x, q1, q2⟩ := (RN_sym hH).mp q
    have v : dvS tg a b HS A rm fi x := ⟨y, hy, q1⟩
    have xb := hx x v
    rcases q2 with ⟨t, e1⟩ | ⟨t, c, q2⟩ | ⟨t, c, q2⟩
    · exact Or.inl ⟨e1, x, v, t⟩
    · rcases hs with ⟨_, z, _⟩ | ⟨_, _, _, _, z, _⟩ | ⟨_, _, _, z⟩ | ⟨_, s1, s2, s3, s4, s5, s6, s7⟩
      · omega
      · omega
      · omega
      · have m := (s4 x t).mp c.2
        by_cases c8 : cd < 128
        · have c9 := s5.mp c8
          rw [wd_1 c9] at q2
          exact Or.inr (Or.inl ⟨a x, Or.inl ⟨x, v, Or.inr ⟨t, by omega, m, Or.inl ⟨c8, rfl⟩⟩⟩, (k1 x xb (Or.inl t)).2, q2⟩)
        · have c9 : 128 ≤ u8 f n p := by
            have : ¬ u8 f n p < 128 := fun z => c8 (s5.mpr z)
            omega
          have w2 := wd_2 c9
          have r := s7 (by omega)
          refine Or.inr (Or.inr ⟨x + 1024, Or.inl ⟨x, v, Or.inr ⟨t, by omega, m, Or.inr ⟨by omega, rfl⟩⟩⟩, by omega, ?_⟩)
          rw [show x + 1024 - 1024 = x by omega, show p + 1 + ru = p + wd (u8 f n p) by omega]
          exact q2
    · have s0 : ¬ sg = 0 := by omega
      exact Or.inr (Or.inl ⟨a x, Or.inl ⟨x, v, Or.inl ⟨t, s0, rfl⟩⟩, (k1 x xb (Or.inr t)).2, q2⟩)
  constructor
  · rintro ((⟨y, y1, y2, y3⟩ | ⟨y, y1, y2, y3⟩) | ⟨r1, q⟩)
    · exact fwd y (Or.inl ⟨y1, y2⟩) y3
    · have w := hw y y1 y2
      rcases hs with ⟨z, _⟩ | ⟨_, s1, s2, s3, s4, s5, s6⟩ | ⟨_, z, _⟩ | ⟨_, z, _⟩
      · omega
      · by_cases c : sg = 1
        · refine Or.inr (Or.inl ⟨a (y - 1024), Or.inr ⟨y, y1, y2, Or.inl ⟨c, rfl⟩⟩, ?_, ?_⟩)
          · have kk := k2 y y1
            exact (k1 (y - 1024) (by omega) (Or.inl (kk.2.2 y2))).2
          · rw [show p + 1 = p + rs by omega]; exact y3
        · refine Or.inr (Or.inr ⟨y, Or.inr ⟨y, y1, y2, Or.inr ⟨c, rfl⟩⟩, y2, ?_⟩)
          have r := s6 (by omega)
          rw [show p + 1 + ru = p + rs by omega]; exact y3
      · omega
      · omega
    · exact fwd fi (Or.inr ⟨r1, rfl⟩) q
  · have back : ∀ x : Int, dvS tg a b HS A rm fi x → RN tg a b mm f n x p e → dLV tg a b mm f n p rs A e ∨ (rm = 1 ∧ RN tg a b mm f n fi p e) := fun x ⟨y, y1, y2⟩ q => by
      have r : RN tg a b mm f n y p e := by
        obtain ⟨z, q1, q2⟩ := (RN_sym hH).mp q
        refine (RN_sym hH).mpr ⟨z, ?_, q2⟩
        obtain ⟨k, y2⟩ := y2
        clear y1
        induction k generalizing y with
        | zero => have e0 : y = x := y2; rw [e0]; exact q1
        | succ k ih =>
          obtain ⟨u, u1, u2⟩ := y2
          exact sR_s u1 (ih u u2)
      rcases y1 with ⟨y1, y3⟩ | ⟨y1, y3⟩
      · exact Or.inl (Or.inl ⟨y, y1, y3, r⟩)
      · rw [y3] at r; exact Or.inr ⟨y1, r⟩
    rintro (⟨e1, x, v, t⟩ | (⟨z, z1, z2, z3⟩ | ⟨z, z1, z2, z3⟩))
    · rw [e1]; rw [e1] at back; exact back x v (RN_a t)
    · rcases z1 with ⟨x, v, ⟨t, s0, ez⟩ | ⟨t, c0, m, ⟨c8, ez⟩ | ⟨c8, ez⟩⟩⟩ | ⟨y, y1, y2, ⟨c, ez⟩ | ⟨c, ez⟩⟩
      · rw [ez] at z3
        exact back x v (RN_s (Or.inr (Or.inl ⟨t, hp, rfl, rfl⟩)) z3)
      · rw [ez] at z3
        rcases hs with ⟨_, _, z⟩ | ⟨_, _, _, z, _⟩ | ⟨_, _, z, _⟩ | ⟨_, s1, s2, s3, s4, s5, s6, s7⟩
        · exact absurd z c0
        · exact absurd z c0
        · exact absurd z c0
        · refine back x v (RN_s (Or.inl ⟨t, ⟨s3, (s4 x t).mpr m⟩, rfl, rfl⟩) ?_)
          rw [wd_1 (s5.mp c8)]; exact z3
      · have xb := hx x v
        omega
      · rw [ez] at z3
        have w := hw y y1 y2
        rcases hs with ⟨z, _⟩ | ⟨_, s1, s2, s3, s4, s5, s6⟩ | ⟨_, z, _⟩ | ⟨_, z, _⟩
        · omega
        · refine Or.inl (Or.inr ⟨y, y1, y2, ?_⟩)
          rw [show p + rs = p + 1 by omega]; exact z3
        · omega
        · omega
      · omega
    · rcases z1 with ⟨x, v, ⟨t, s0, ez⟩ | ⟨t, c0, m, ⟨c8, ez⟩ | ⟨c8, ez⟩⟩⟩ | ⟨y, y1, y2, ⟨c, ez⟩ | ⟨c, ez⟩⟩
      · have xb := hx x v
        have := (k1 x xb (Or.inr t)).2
        omega
      · have xb := hx x v
        have := (k1 x xb (Or.inl t)).2
        omega
      · rw [ez, show x + 1024 - 1024 = x by omega] at z3
        rcases hs with ⟨_, _, z⟩ | ⟨_, _, _, z, _⟩ | ⟨_, _, z, _⟩ | ⟨_, s1, s2, s3, s4, s5, s6, s7⟩
        · exact absurd z c0
        · exact absurd z c0
        · exact absurd z c0
        · have c9 : 128 ≤ u8 f n p := by
            have : ¬ u8 f n p < 128 := fun z => by have := s5.mpr z; omega
            omega
          have w2 := wd_2 c9
          have r := s7 (by omega)
          refine back x v (RN_s (Or.inl ⟨t, ⟨s3, (s4 x t).mpr m⟩, rfl, rfl⟩) ?_)
          rw [show p + wd (u8 f n p) = p + 1 + ru by omega]; exact z3
      · have kk := k2 y y1
        have := (k1 (y - 1024) (by omega) (Or.inl (kk.2.2 y2))).2
        omega
      · rw [ez] at z3
        have w := hw y y1 y2
        rcases hs with ⟨z, _⟩ | ⟨_, s1, s2, s3, s4, s5, s6⟩ | ⟨_, z, _⟩ | ⟨_, z, _⟩
        · omega
        · have r := s6 (by omega)
          refine Or.inl (Or.inr ⟨y, y1, y2, ?_⟩)
          rw [show p + rs = p + 1 + ru by omega]; exact z3
        · omega
        · omega
/-- at the end nothing is taken -/
theorem dend (hd : dpl tg b mm HS f n p rs ru sg cd) (hw : ∀ y : Int, A y → 1024 ≤ y → 1 ≤ sg ∧ sg ≤ 3) (hs : sg = 0) : (dLV tg a b mm f n p rs A e ∨ (rm = 1 ∧ RN tg a b mm f n fi p e)) ↔ (e = p ∧ darS tg a b HS A rm fi) := by
  obtain ⟨hH, hq⟩ := hd
  have pn : p = n := by
    rcases hq with ⟨_, z, _⟩ | ⟨_, z, _⟩ | ⟨_, z, _⟩ | ⟨_, z, _⟩ <;> omega
  have un : u8 f n p = -1 := by unfold u8; rw [if_pos (Or.inr (by omega))]
  have fwd : ∀ y : Int, ((A y ∧ y < 1024) ∨ (rm = 1 ∧ y = fi)) → RN tg a b mm f n y p e → e = p ∧ darS tg a b HS A rm fi := fun y hy q => by
    obtain ⟨x, q1, q2⟩ := (RN_sym hH).mp q
    rcases q2 with ⟨t, e1⟩ | ⟨t, c, q2⟩ | ⟨t, c, q2⟩
    · exact ⟨e1, x, ⟨y, hy, q1⟩, t⟩
    · omega
    · omega
  constructor
  · rintro ((⟨y, y1, y2, y3⟩ | ⟨y, y1, y2, y3⟩) | ⟨r1, q⟩)
    · exact fwd y (Or.inl ⟨y1, y2⟩) y3
    · have := hw y y1 y2; omega
    · exact fwd fi (Or.inr ⟨r1, rfl⟩) q
  · rintro ⟨e1, x, ⟨y, hy, y2⟩, t⟩
    have r : RN tg a b mm f n y p e := (RN_sym hH).mpr ⟨x, y2, Or.inl ⟨t, e1⟩⟩
    rcases hy with ⟨h1, h2⟩ | ⟨h1, h2⟩
    · exact Or.inl (Or.inl ⟨y, h1, h2, r⟩)
    · rw [h2] at r; exact Or.inr ⟨h1, r⟩
end Df
