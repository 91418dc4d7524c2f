/-! a template that is read from its begin on -/
def tmP (T : Int → Int) (n GR : Int) (NZ : Int → Int) (NM : Int → Int → Int) : Nat → Int → List Int → Prop
  | 0, p, L => p = 0 ∧ L = []
  | k + 1, p, L => ∃ (p0 it w : Int) (L0 : List Int), tmP T n GR NZ NM k p0 L0 ∧ (0 ≤ p0 ∧ p0 < n) ∧ tmI T n GR NZ NM p0 it w ∧ p = p0 + w ∧ L = L0 ++ [it]
section Tm2
variable {T : Int → Int} {n GR : Int} {NZ : Int → Int} {NM : Int → Int → Int}
theorem tmP_L : ∀ (k : Nat) (p : Int) (L : List Int), tmP T n GR NZ NM k p L → ∀ (m : Nat) (M : List Int), tmL T n GR NZ NM m p M → tmL T n GR NZ NM (k + m) 0 (L ++ M) := by
  intro k
  induction k with
  | zero =>
    intro p L h m M q
    rw [h.2, Nat.zero_add, List.nil_append, ← h.1]
    exact q
  | succ k ih =>
    intro p L h m M q
    obtain ⟨p0, it, w, L0, h1, h2, h3, h4, h5⟩ := h
    rw [h4] at q
    have t := ih p0 L0 h1 (m + 1) (it :: M) ⟨h2.2, it, w, M, h3, q, rfl⟩
    rw [h5, List.append_assoc, List.singleton_append, show k + 1 + m = k + (m + 1) by omega]
    exact t
theorem tmP_N : ∀ (k : Nat) (p : Int) (L : List Int), tmP T n GR NZ NM k p L → ∀ m : Nat, tmN T n GR NZ NM m p → tmN T n GR NZ NM (k + m) 0 := by
  intro k
  induction k with
  | zero =>
    intro p L h m q
    rw [Nat.zero_add, ← h.1]
    exact q
  | succ k ih =>
    intro p L h m q
    obtain ⟨p0, it, w, L0, h1, h2, h3, h4, h5⟩ := h
    rw [h4] at q
    have t := ih p0 L0 h1 (m + 1) ⟨h2.2, it, w, h3, q⟩
    rw [show k + 1 + m = k + (m + 1) by omega]
    exact t
/-- what is read is the begin of the whole -/
theorem tmP_pre (hd : nmD NZ NM GR) : ∀ (k : Nat) (p : Int) (L : List Int), tmP T n GR NZ NM k p L → ∀ (m : Nat) (M : List Int), tmL T n GR NZ NM m 0 M → ∃ (j : Nat) (R : List Int), M = L ++ R ∧ tmL T n GR NZ NM j p R := by
  intro k
  induction k with
  | zero =>
    intro p L h m M q
    rw [h.2, h.1]
    exact ⟨m, M, rfl, q⟩
  | succ k ih =>
    intro p L h m M q
    obtain ⟨p0, it, w, L0, h1, h2, h3, h4, h5⟩ := h
    obtain ⟨j, R, e1, e2⟩ := ih p0 L0 h1 m M q
    cases j with
    | zero => have a := e2.1; omega
    | succ j =>
      obtain ⟨_, it2, w2, R2, r1, r2, r3⟩ := e2
      obtain ⟨d1, d2⟩ := tmI_det hd h3 r1
      refine ⟨j, R2, ?_, by rw [h4, d2]; exact r2⟩
      rw [e1, r3, h5, d1, List.append_assoc, List.singleton_append]
end Tm2
/-- as far as p, and with these items -/
def tpX (T : Int → Int) (n GR : Int) (NZ : Int → Int) (NM : Int → Int → Int) (p : Int) (L : List Int) : Prop := ∃ k : Nat, tmP T n GR NZ NM k p L
def tpL (T : Int → Int) (n GR : Int) (NZ : Int → Int) (NM : Int → Int → Int) (L : List Int) : Prop := ∃ k : Nat, tmL T n GR NZ NM k 0 L
def tpN (T : Int → Int) (n GR : Int) (NZ : Int → Int) (NM : Int → Int → Int) : Prop := ∃ k : Nat, tmN T n GR NZ NM k 0
section Tp
variable {T : Int → Int} {n GR p it w : Int} {NZ : Int → Int} {NM : Int → Int → Int} {L M : List Int}
theorem tpX_0 : tpX T n GR NZ NM 0 [] := ⟨0, rfl, rfl⟩
theorem tpX_s {p2 : Int} (h : tpX T n GR NZ NM p L) (hp : 0 ≤ p ∧ p < n) (hi : tmI T n GR NZ NM p it w) (e : p2 = p + w) : tpX T n GR NZ NM p2 (L ++ [it]) := by
  obtain ⟨k, h⟩ := h
  exact ⟨k + 1, p, it, w, L, h, hp, hi, e, rfl⟩
theorem tpX_L (h : tpX T n GR NZ NM p L) (hp : n ≤ p) : tpL T n GR NZ NM L := by
  obtain ⟨k, h⟩ := h
  have t := tmP_L k p L h 0 [] ⟨hp, rfl⟩
  rw [List.append_nil] at t
  exact ⟨k + 0, t⟩
theorem tpX_N (h : tpX T n GR NZ NM p L) (hp : p < n) (hi : ∀ it w : Int, ¬ tmI T n GR NZ NM p it w) : tpN T n GR NZ NM := by
  obtain ⟨k, h⟩ := h
  exact ⟨k + 0, tmP_N k p L h 0 ⟨hp, hi⟩⟩
theorem tpX_pre (hd : nmD NZ NM GR) (h : tpX T n GR NZ NM p L) (q : tpL T n GR NZ NM M) : ∃ R : List Int, M = L ++ R := by
  obtain ⟨k, h⟩ := h
  obtain ⟨m, q⟩ := q
  obtain ⟨_, R, e, _⟩ := tmP_pre hd k p L h m M q
  exact ⟨R, e⟩
theorem tpL_det (hd : nmD NZ NM GR) (h : tpL T n GR NZ NM L) (q : tpL T n GR NZ NM M) : L = M := by
  obtain ⟨k, h⟩ := h
  obtain ⟨m, q⟩ := q
  exact tmL_det hd k m 0 L M h q
theorem tpL_N (hd : nmD NZ NM GR) (h : tpL T n GR NZ NM L) (q : tpN T n GR NZ NM) : False := by
  obtain ⟨k, h⟩ := h
  obtain ⟨m, q⟩ := q
  exact tmL_N hd k m 0 L h q
end Tp
/-- the reference's names in a slot -/
def gNZ (NS : Int → Int) (s : Int) : Int → Int := fun g => NS (10 * s + g)
def gNM (NM : Int → Int) (s : Int) : Int → Int → Int := fun g j => NM (120 * s + 12 * g + j)
section Tg
variable {T NS NM GR : Int → Int} {s n p : Int}
theorem gsame_G {z g : Int} (h : gsame T NS NM s p z g) : nmG (gNZ NS s) (gNM NM s) T p z g := h
/-- an item begins with $ only where a group or $ is named -/
theorem tmI_gok {it w : Int} (h : tmI T n (GR s) (gNZ NS s) (gNM NM s) p it w) (ht : T p = 36) : gok T NS NM GR s n p := by
  rcases h with ⟨a1, _⟩ | ⟨_, a2, a3, _⟩ | ⟨_, a2, a3, _⟩ | ⟨_, a2, a3, z, g, a4, a5, a6, a7, _⟩
  · exact absurd ht a1
  · exact ⟨a2, Or.inl a3⟩
  · exact ⟨a2, Or.inr (Or.inl a3)⟩
  · exact ⟨a2, Or.inr (Or.inr ⟨a3, z, a4, a5, g, a6.1, a6.2, a7⟩)⟩
end Tg
/-- the match's groups, in the template -/
theorem exL_app {f : Int → Int} {st e : Int} {g : Gr} {L M : List Int} : exL f st e g (L ++ M) = exL f st e g L ++ exL f st e g M := by
  unfold exL
  rw [List.flatMap_append]
