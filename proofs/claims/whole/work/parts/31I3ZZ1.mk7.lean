/-! how far a pair of state and place is from its ends; which ends it has -/
section Fuel
variable {tg a b : Int → Int} {mm : Int → Int → Prop} {f : Int → Int} {n : Int}
/-- the ends don't hang on the groups -/
theorem WL_g : ∀ (m : Nat) (s p : Int) (g : Gr) (L : List (Int × Gr)), WL tg a b mm f n m s p g L → ∀ g' : Gr, ∃ L' : List (Int × Gr), WL tg a b mm f n m s p g' L' ∧ L'.map Prod.fst = L.map Prod.fst := by
  intro m
  induction m with
  | zero => intro s p g L h; exact h.elim
  | succ m ih =>
    intro s p g L h g'
    rcases h with ⟨t, h | h⟩ | ⟨t, h | h⟩ | ⟨t, h | h⟩ | ⟨t, L1, L2, h1, h2, h3⟩ | ⟨t, h⟩ | ⟨t, h⟩ | ⟨t, h⟩
    · obtain ⟨L', q1, q2⟩ := ih _ _ _ _ h.2 g'
      exact ⟨L', Or.inl ⟨t, Or.inl ⟨h.1, q1⟩⟩, q2⟩
    · exact ⟨[], Or.inl ⟨t, Or.inr ⟨h.1, rfl⟩⟩, by rw [h.2]⟩
    · obtain ⟨L', q1, q2⟩ := ih _ _ _ _ h.2 g'
      exact ⟨L', Or.inr (Or.inl ⟨t, Or.inl ⟨h.1, q1⟩⟩), q2⟩
    · exact ⟨[], Or.inr (Or.inl ⟨t, Or.inr ⟨h.1, rfl⟩⟩), by rw [h.2]⟩
    · obtain ⟨L', q1, q2⟩ := ih _ _ _ _ h.2 g'
      exact ⟨L', Or.inr (Or.inr (Or.inl ⟨t, Or.inl ⟨h.1, q1⟩⟩)), q2⟩
    · exact ⟨[], Or.inr (Or.inr (Or.inl ⟨t, Or.inr ⟨h.1, rfl⟩⟩)), by rw [h.2]⟩
    · obtain ⟨M1, q1, q2⟩ := ih _ _ _ _ h1 g'
      obtain ⟨M2, r1, r2⟩ := ih _ _ _ _ h2 g'
      exact ⟨M1 ++ M2, Or.inr (Or.inr (Or.inr (Or.inl ⟨t, M1, M2, q1, r1, rfl⟩))), by rw [List.map_append, q2, r2, h3, List.map_append]⟩
    · obtain ⟨L', q1, q2⟩ := ih _ _ _ _ h (zu g' (b s) p)
      exact ⟨L', Or.inr (Or.inr (Or.inr (Or.inr (Or.inl ⟨t, q1⟩)))), q2⟩
    · exact ⟨[(p, g')], Or.inr (Or.inr (Or.inr (Or.inr (Or.inr (Or.inl ⟨t, rfl⟩))))), by rw [h]; rfl⟩
    · exact ⟨[], Or.inr (Or.inr (Or.inr (Or.inr (Or.inr (Or.inr ⟨t, rfl⟩))))), by rw [h]⟩
end Fuel
def FL (tg a b : Int → Int) (mm : Int → Int → Prop) (f : Int → Int) (n : Int) (m : Nat) (s p : Int) : Prop := ∃ (g : Gr) (L : List (Int × Gr)), WL tg a b mm f n m s p g L
/-- a step of the program -/
def chl (tg a b : Int → Int) (mm : Int → Int → Prop) (f : Int → Int) (n s p s2 p2 : Int) : Prop := (tg s = 0 ∧ (0 ≤ u8 f n p ∧ mm s (u8 f n p)) ∧ s2 = a s ∧ p2 = p + wd (u8 f n p)) ∨ (tg s = 1 ∧ p < n ∧ s2 = a s ∧ p2 = p + 1) ∨ (tg s = 2 ∧ hld f n p (b s) ∧ s2 = a s ∧ p2 = p) ∨ (tg s = 3 ∧ (s2 = a s ∨ s2 = b s) ∧ p2 = p) ∨ (tg s = 4 ∧ s2 = a s ∧ p2 = p)
/-- farther from the ends -/
def gtF (tg a b : Int → Int) (mm : Int → Int → Prop) (f : Int → Int) (n s p s2 p2 : Int) : Prop := ∃ m : Nat, FL tg a b mm f n m s2 p2 ∧ ¬ FL tg a b mm f n m s p
/-- an end of a way from here -/
def EN (tg a b : Int → Int) (mm : Int → Int → Prop) (f : Int → Int) (n s p e : Int) : Prop := ∃ (g : Gr) (L : List (Int × Gr)), WW tg a b mm f n s p g L ∧ e ∈ L.map Prod.fst
section Fuel2
variable {tg a b : Int → Int} {mm : Int → Int → Prop} {f : Int → Int} {n s p s2 p2 y q : Int} {m : Nat}
theorem FL.up {k : Nat} (h : FL tg a b mm f n m s p) (hk : m ≤ k) : FL tg a b mm f n k s p := by
  obtain ⟨g, L, h⟩ := h
  exact ⟨g, L, WL_up m k s p g L h hk⟩
theorem FL.child (h : FL tg a b mm f n (m + 1) s p) (c : chl tg a b mm f n s p s2 p2) : FL tg a b mm f n m s2 p2 := by
  obtain ⟨g, L, h⟩ := h
  rcases h with ⟨t, h⟩ | ⟨t, h⟩ | ⟨t, h⟩ | ⟨t, L1, L2, h1, h2, h3⟩ | ⟨t, h⟩ | ⟨t, h⟩ | ⟨t, h⟩ <;> rcases c with ⟨t', c0, c1, c2⟩ | ⟨t', c0, c1, c2⟩ | ⟨t', c0, c1, c2⟩ | ⟨t', c1, c2⟩ | ⟨t', c1, c2⟩ <;> first | (exfalso; omega) | skip
  · rcases h with h | h
    · rw [c1, c2]; exact ⟨g, L, h.2⟩
    · exact absurd c0 h.1
  · rcases h with h | h
    · rw [c1, c2]; exact ⟨g, L, h.2⟩
    · exact absurd c0 h.1
  · rcases h with h | h
    · rw [c1, c2]; exact ⟨g, L, h.2⟩
    · exact absurd c0 h.1
  · rw [c2]
    rcases c1 with c1 | c1
    · rw [c1]; exact ⟨g, L1, h1⟩
    · rw [c1]; exact ⟨g, L2, h2⟩
  · rw [c1, c2]; exact ⟨_, L, h⟩
theorem FL_least : ∀ m : Nat, FL tg a b mm f n m s p → ∃ k : Nat, FL tg a b mm f n (k + 1) s p ∧ ¬ FL tg a b mm f n k s p := by
  intro m
  induction m with
  | zero =>
    intro h
    obtain ⟨g, L, h⟩ := h
    exact h.elim
  | succ m ih =>
    intro h
    by_cases c : FL tg a b mm f n m s p
    · exact ih c
    · exact ⟨m, h, c⟩
theorem gtF_no : ¬ gtF tg a b mm f n s p s p := fun ⟨_, h1, h2⟩ => h2 h1
theorem gtF_child (h : FL tg a b mm f n m s p) (c : chl tg a b mm f n s p s2 p2) : gtF tg a b mm f n s p s2 p2 := by
  obtain ⟨k, k1, k2⟩ := FL_least m h
  exact ⟨k, k1.child c, k2⟩
theorem gtF.tr (h : gtF tg a b mm f n y q s p) (c : chl tg a b mm f n s p s2 p2) : gtF tg a b mm f n y q s2 p2 := by
  obtain ⟨m, h1, h2⟩ := h
  cases m with
  | zero =>
    obtain ⟨g, L, h1⟩ := h1
    exact h1.elim
  | succ m => exact ⟨m + 1, (h1.child c).up (by omega), h2⟩
theorem WW.fl {g : Gr} {L : List (Int × Gr)} (h : WW tg a b mm f n s p g L) : ∃ m : Nat, FL tg a b mm f n m s p := by
  obtain ⟨m, h⟩ := h
  exact ⟨m, g, L, h⟩
theorem EN_of {g : Gr} {L : List (Int × Gr)} {e : Int} (h : WW tg a b mm f n s p g L) : EN tg a b mm f n s p e ↔ e ∈ L.map Prod.fst := by
  constructor
  · intro ⟨g', L', h1, h2⟩
    obtain ⟨m, h1⟩ := h1
    obtain ⟨L2, q1, q2⟩ := WL_g m s p g' L' h1 g
    have e2 := WW_det h ⟨m, q1⟩
    rw [e2, q2]
    exact h2
  · intro h2
    exact ⟨g, L, h, h2⟩
/-- a child's ways -/
theorem WW.child {g : Gr} {L : List (Int × Gr)} (h : WW tg a b mm f n s p g L) (c : chl tg a b mm f n s p s2 p2) : ∃ (g' : Gr) (L' : List (Int × Gr)), WW tg a b mm f n s2 p2 g' L' ∧ ∀ x ∈ L', x ∈ L := by
  obtain ⟨m, h⟩ := h
  cases m with
  | zero => exact h.elim
  | succ m =>
    rcases h with ⟨t, h⟩ | ⟨t, h⟩ | ⟨t, h⟩ | ⟨t, L1, L2, h1, h2, h3⟩ | ⟨t, h⟩ | ⟨t, h⟩ | ⟨t, h⟩ <;> rcases c with ⟨t', c0, c1, c2⟩ | ⟨t', c0, c1, c2⟩ | ⟨t', c0, c1, c2⟩ | ⟨t', c1, c2⟩ | ⟨t', c1, c2⟩ <;> first | (exfalso; omega) | skip
    · rcases h with h | h
      · rw [c1, c2]; exact ⟨g, L, ⟨m, h.2⟩, fun _ z => z⟩
      · exact absurd c0 h.1
    · rcases h with h | h
      · rw [c1, c2]; exact ⟨g, L, ⟨m, h.2⟩, fun _ z => z⟩
      · exact absurd c0 h.1
    · rcases h with h | h
      · rw [c1, c2]; exact ⟨g, L, ⟨m, h.2⟩, fun _ z => z⟩
      · exact absurd c0 h.1
    · rw [c2]
      rcases c1 with c1 | c1
      · rw [c1]; exact ⟨g, L1, ⟨m, h1⟩, fun _ z => by rw [h3]; exact List.mem_append_left _ z⟩
      · rw [c1]; exact ⟨g, L2, ⟨m, h2⟩, fun _ z => by rw [h3]; exact List.mem_append_right _ z⟩
    · rw [c1, c2]; exact ⟨_, L, ⟨m, h⟩, fun _ z => z⟩
end Fuel2
section WwI
variable {tg a b : Int → Int} {mm : Int → Int → Prop} {f : Int → Int} {n s p : Int} {g : Gr} {L : List (Int × Gr)}
theorem ww_i0 (t : tg s = 0) (c : (0 ≤ u8 f n p ∧ mm s (u8 f n p))) (h : WW tg a b mm f n s p g L) : WW tg a b mm f n (a s) (p + wd (u8 f n p)) g L := by
  obtain ⟨m, h⟩ := h
  cases m with
  | zero => exact h.elim
  | succ m =>
    rcases h with ⟨t', h⟩ | ⟨t', h⟩ | ⟨t', h⟩ | ⟨t', L1, L2, h1, h2, h3⟩ | ⟨t', h⟩ | ⟨t', h⟩ | ⟨t', h⟩ <;> first | (exfalso; omega) | skip
    rcases h with h | h
    · exact ⟨m, h.2⟩
    · exact absurd c h.1
theorem ww_i0n (t : tg s = 0) (c : ¬ (0 ≤ u8 f n p ∧ mm s (u8 f n p))) (h : WW tg a b mm f n s p g L) : L = [] := by
  obtain ⟨m, h⟩ := h
  cases m with
  | zero => exact h.elim
  | succ m =>
    rcases h with ⟨t', h⟩ | ⟨t', h⟩ | ⟨t', h⟩ | ⟨t', L1, L2, h1, h2, h3⟩ | ⟨t', h⟩ | ⟨t', h⟩ | ⟨t', h⟩ <;> first | (exfalso; omega) | skip
    rcases h with h | h
    · exact absurd h.1 c
    · exact h.2
theorem ww_i1 (t : tg s = 1) (c : p < n) (h : WW tg a b mm f n s p g L) : WW tg a b mm f n (a s) (p + 1) g L := by
  obtain ⟨m, h⟩ := h
  cases m with
  | zero => exact h.elim
  | succ m =>
    rcases h with ⟨t', h⟩ | ⟨t', h⟩ | ⟨t', h⟩ | ⟨t', L1, L2, h1, h2, h3⟩ | ⟨t', h⟩ | ⟨t', h⟩ | ⟨t', h⟩ <;> first | (exfalso; omega) | skip
    rcases h with h | h
    · exact ⟨m, h.2⟩
    · exact absurd c h.1
theorem ww_i1n (t : tg s = 1) (c : ¬ (p < n)) (h : WW tg a b mm f n s p g L) : L = [] := by
  obtain ⟨m, h⟩ := h
  cases m with
  | zero => exact h.elim
  | succ m =>
    rcases h with ⟨t', h⟩ | ⟨t', h⟩ | ⟨t', h⟩ | ⟨t', L1, L2, h1, h2, h3⟩ | ⟨t', h⟩ | ⟨t', h⟩ | ⟨t', h⟩ <;> first | (exfalso; omega) | skip
    rcases h with h | h
    · exact absurd h.1 c
    · exact h.2
theorem ww_i2 (t : tg s = 2) (c : hld f n p (b s)) (h : WW tg a b mm f n s p g L) : WW tg a b mm f n (a s) p g L := by
  obtain ⟨m, h⟩ := h
  cases m with
  | zero => exact h.elim
  | succ m =>
    rcases h with ⟨t', h⟩ | ⟨t', h⟩ | ⟨t', h⟩ | ⟨t', L1, L2, h1, h2, h3⟩ | ⟨t', h⟩ | ⟨t', h⟩ | ⟨t', h⟩ <;> first | (exfalso; omega) | skip
    rcases h with h | h
    · exact ⟨m, h.2⟩
    · exact absurd c h.1
theorem ww_i2n (t : tg s = 2) (c : ¬ (hld f n p (b s))) (h : WW tg a b mm f n s p g L) : L = [] := by
  obtain ⟨m, h⟩ := h
  cases m with
  | zero => exact h.elim
  | succ m =>
    rcases h with ⟨t', h⟩ | ⟨t', h⟩ | ⟨t', h⟩ | ⟨t', L1, L2, h1, h2, h3⟩ | ⟨t', h⟩ | ⟨t', h⟩ | ⟨t', h⟩ <;> first | (exfalso; omega) | skip
    rcases h with h | h
    · exact absurd h.1 c
    · exact h.2
theorem ww_i3 (t : tg s = 3) (h : WW tg a b mm f n s p g L) : ∃ L1 L2 : List (Int × Gr), WW tg a b mm f n (a s) p g L1 ∧ WW tg a b mm f n (b s) p g L2 ∧ L = L1 ++ L2 := by
  obtain ⟨m, h⟩ := h
  cases m with
  | zero => exact h.elim
  | succ m =>
    rcases h with ⟨t', h⟩ | ⟨t', h⟩ | ⟨t', h⟩ | ⟨t', L1, L2, h1, h2, h3⟩ | ⟨t', h⟩ | ⟨t', h⟩ | ⟨t', h⟩ <;> first | (exfalso; omega) | skip
    exact ⟨L1, L2, ⟨m, h1⟩, ⟨m, h2⟩, h3⟩
theorem ww_i4 (t : tg s = 4) (h : WW tg a b mm f n s p g L) : WW tg a b mm f n (a s) p (zu g (b s) p) L := by
  obtain ⟨m, h⟩ := h
  cases m with
  | zero => exact h.elim
  | succ m =>
    rcases h with ⟨t', h⟩ | ⟨t', h⟩ | ⟨t', h⟩ | ⟨t', L1, L2, h1, h2, h3⟩ | ⟨t', h⟩ | ⟨t', h⟩ | ⟨t', h⟩ <;> first | (exfalso; omega) | skip
    exact ⟨m, h⟩
theorem ww_i5 (t : tg s = 5) (h : WW tg a b mm f n s p g L) : L = [(p, g)] := by
  obtain ⟨m, h⟩ := h
  cases m with
  | zero => exact h.elim
  | succ m =>
    rcases h with ⟨t', h⟩ | ⟨t', h⟩ | ⟨t', h⟩ | ⟨t', L1, L2, h1, h2, h3⟩ | ⟨t', h⟩ | ⟨t', h⟩ | ⟨t', h⟩ <;> first | (exfalso; omega) | skip
    exact h
theorem ww_i6 (t : tg s = 6) (h : WW tg a b mm f n s p g L) : L = [] := by
  obtain ⟨m, h⟩ := h
  cases m with
  | zero => exact h.elim
  | succ m =>
    rcases h with ⟨t', h⟩ | ⟨t', h⟩ | ⟨t', h⟩ | ⟨t', L1, L2, h1, h2, h3⟩ | ⟨t', h⟩ | ⟨t', h⟩ | ⟨t', h⟩ <;> first | (exfalso; omega) | skip
    exact h
end WwI
/-! what is left to try: the stack's entries from the top -/
def RS (tg a b : Int → Int) (mm : Int → Int → Prop) (f : Int → Int) (n : Int) (SK : Int → Int) : Nat → Gr → List (Int × Gr) → Prop
  | 0, _, R => R = []
  | k + 1, g, R => (0 ≤ SK k ∧ ∃ L R' : List (Int × Gr), WW tg a b mm f n (SK k % 1024) (SK k / 1024) g L ∧ RS tg a b mm f n SK k g R' ∧ R = L ++ R') ∨ (SK k < 0 ∧ RS tg a b mm f n SK k (zu g ((-1 - SK k) / 4096) ((-1 - SK k) % 4096 - 1)) R)
theorem RS.eq {tg a b : Int → Int} {mm : Int → Int → Prop} {f : Int → Int} {n : Int} {SK SK2 : Int → Int} : ∀ (k : Nat) (g : Gr) (R : List (Int × Gr)), RS tg a b mm f n SK k g R → (∀ i : Int, 0 ≤ i → i < k → SK2 i = SK i) → RS tg a b mm f n SK2 k g R := by
  intro k
  induction k with
  | zero => intro g R h _; exact h
  | succ k ih =>
    intro g R h q
    have e := q (k : Int) (by omega) (by omega)
    rcases h with ⟨h0, L, R', h1, h2, h3⟩ | ⟨h0, h1⟩
    · exact Or.inl ⟨by rw [e]; exact h0, L, R', by rw [e]; exact h1, ih g R' h2 (fun i a b => q i a (by omega)), h3⟩
    · exact Or.inr ⟨by rw [e]; exact h0, by rw [e]; exact ih _ R h1 (fun i a b => q i a (by omega))⟩
