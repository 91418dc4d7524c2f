/-! templates as lists of items: a byte, or -1 - g for group g -/
def nmG (NZ : Int → Int) (NM : Int → Int → Int) (T : Int → Int) (p z g : Int) : Prop := 0 < z ∧ NZ g = z ∧ ∀ j : Int, 0 ≤ j → j < z → NM g j = T (p + 2 + j)
/-- no two groups have one name -/
def nmD (NZ : Int → Int) (NM : Int → Int → Int) (GR : Int) : Prop := ∀ g g2 : Int, 1 ≤ g → g ≤ GR → 1 ≤ g2 → g2 ≤ GR → 0 < NZ g → NZ g = NZ g2 → (∀ j : Int, 0 ≤ j → j < NZ g → NM g j = NM g2 j) → g = g2
def tmI (T : Int → Int) (n GR : Int) (NZ : Int → Int) (NM : Int → Int → Int) (p it w : Int) : Prop :=
  (¬ T p = 36 ∧ it = T p ∧ w = 1)
  ∨ (T p = 36 ∧ p + 1 < n ∧ T (p + 1) = 36 ∧ it = 36 ∧ w = 2)
  ∨ (T p = 36 ∧ p + 1 < n ∧ (48 ≤ T (p + 1) ∧ T (p + 1) ≤ 57 ∧ T (p + 1) - 48 ≤ GR) ∧ it = -1 - (T (p + 1) - 48) ∧ w = 2)
  ∨ (T p = 36 ∧ p + 1 < n ∧ T (p + 1) = 123 ∧ ∃ z g : Int, gsz T n p z ∧ p + 2 + z < n ∧ (1 ≤ g ∧ g ≤ GR) ∧ nmG NZ NM T p z g ∧ it = -1 - g ∧ w = 3 + z)
/-- the items from p on -/
def tmL (T : Int → Int) (n GR : Int) (NZ : Int → Int) (NM : Int → Int → Int) : Nat → Int → List Int → Prop
  | 0, p, L => n ≤ p ∧ L = []
  | k + 1, p, L => p < n ∧ ∃ (it w : Int) (L2 : List Int), tmI T n GR NZ NM p it w ∧ tmL T n GR NZ NM k (p + w) L2 ∧ L = it :: L2
/-- from p on there comes a place with no item -/
def tmN (T : Int → Int) (n GR : Int) (NZ : Int → Int) (NM : Int → Int → Int) : Nat → Int → Prop
  | 0, p => p < n ∧ ∀ it w : Int, ¬ tmI T n GR NZ NM p it w
  | k + 1, p => p < n ∧ ∃ it w : Int, tmI T n GR NZ NM p it w ∧ tmN T n GR NZ NM k (p + w)
section Tm
variable {T : Int → Int} {n GR : Int} {NZ : Int → Int} {NM : Int → Int → Int} {p it w it2 w2 : Int}
theorem nmG_u {z g g2 : Int} (hd : nmD NZ NM GR) (h : nmG NZ NM T p z g) (h2 : nmG NZ NM T p z g2) (hg : 1 ≤ g ∧ g ≤ GR) (hg2 : 1 ≤ g2 ∧ g2 ≤ GR) : g = g2 := by
  obtain ⟨a1, a2, a3⟩ := h
  obtain ⟨b1, b2, b3⟩ := h2
  exact hd g g2 hg.1 hg.2 hg2.1 hg2.2 (by omega) (by omega) (fun j j0 j1 => by rw [a3 j j0 (by omega), b3 j j0 (by omega)])
theorem tmI_det (hd : nmD NZ NM GR) (h : tmI T n GR NZ NM p it w) (h2 : tmI T n GR NZ NM p it2 w2) : it = it2 ∧ w = w2 := by
  rcases h with ⟨a1, a2, a3⟩ | ⟨a1, a2, a3, a4, a5⟩ | ⟨a1, a2, a3, a4, a5⟩ | ⟨a1, a2, a3, z, g, a4, a5, a6, a7, a8, a9⟩ <;> rcases h2 with ⟨b1, b2, b3⟩ | ⟨b1, b2, b3, b4, b5⟩ | ⟨b1, b2, b3, b4, b5⟩ | ⟨b1, b2, b3, y, k, b4, b5, b6, b7, b8, b9⟩
  · exact ⟨by omega, by omega⟩
  · exact absurd b1 a1
  · exact absurd b1 a1
  · exact absurd b1 a1
  · exact absurd a1 b1
  · exact ⟨by omega, by omega⟩
  · omega
  · omega
  · exact absurd a1 b1
  · omega
  · exact ⟨by omega, by omega⟩
  · omega
  · exact absurd a1 b1
  · omega
  · omega
  · have e := gsz_fun a4 b4
    rw [← e] at b7
    have e2 := nmG_u hd a7 b7 a6 b6
    exact ⟨by omega, by omega⟩
theorem tmI_w (h : tmI T n GR NZ NM p it w) : 1 ≤ w := by
  rcases h with ⟨a1, a2, a3⟩ | ⟨a1, a2, a3, a4, a5⟩ | ⟨a1, a2, a3, a4, a5⟩ | ⟨a1, a2, a3, z, g, a4, a5, a6, a7, a8, a9⟩
  · omega
  · omega
  · omega
  · have := a4.1; omega
theorem tmL_det (hd : nmD NZ NM GR) : ∀ (k m : Nat) (p : Int) (L L2 : List Int), tmL T n GR NZ NM k p L → tmL T n GR NZ NM m p L2 → L = L2 := by
  intro k
  induction k with
  | zero =>
    intro m p L L2 h q
    cases m with
    | zero => rw [h.2, q.2]
    | succ m => have a := h.1; have b := q.1; omega
  | succ k ih =>
    intro m p L L2 h q
    obtain ⟨h0, it, w, L3, h1, h2, h3⟩ := h
    cases m with
    | zero => have b := q.1; omega
    | succ m =>
      obtain ⟨_, it2, w2, L4, q1, q2, q3⟩ := q
      obtain ⟨e1, e2⟩ := tmI_det hd h1 q1
      rw [← e2] at q2
      rw [h3, q3, e1, ih m _ _ _ h2 q2]
theorem tmL_N (hd : nmD NZ NM GR) : ∀ (k m : Nat) (p : Int) (L : List Int), tmL T n GR NZ NM k p L → tmN T n GR NZ NM m p → False := by
  intro k
  induction k with
  | zero =>
    intro m p L h q
    cases m with
    | zero => have a := h.1; have b := q.1; omega
    | succ m => have a := h.1; have b := q.1; omega
  | succ k ih =>
    intro m p L h q
    obtain ⟨h0, it, w, L3, h1, h2, h3⟩ := h
    cases m with
    | zero => exact q.2 it w h1
    | succ m =>
      obtain ⟨_, it2, w2, q1, q2⟩ := q
      obtain ⟨e1, e2⟩ := tmI_det hd h1 q1
      rw [← e2] at q2
      exact ih m _ _ h2 q2
/-- the same tape and names -/
theorem tmI_cg {T2 : Int → Int} {NZ2 : Int → Int} {NM2 : Int → Int → Int} (h : tmI T n GR NZ NM p it w) (hp : 0 ≤ p ∧ p < n) (hT : ∀ i : Int, 0 ≤ i → i < n → T i = T2 i) (hz : ∀ g : Int, 1 ≤ g → g ≤ GR → NZ g = NZ2 g ∧ ∀ j : Int, 0 ≤ j → j < NZ g → NM g j = NM2 g j) : tmI T2 n GR NZ2 NM2 p it w := by
  have e0 := hT p hp.1 hp.2
  rcases h with ⟨a1, a2, a3⟩ | ⟨a1, a2, a3, a4, a5⟩ | ⟨a1, a2, a3, a4, a5⟩ | ⟨a1, a2, a3, z, g, a4, a5, a6, a7, a8, a9⟩
  · rw [e0] at a1 a2
    exact Or.inl ⟨a1, a2, a3⟩
  · have e1 := hT (p + 1) (by omega) (by omega)
    rw [e0] at a1
    rw [e1] at a3
    exact Or.inr (Or.inl ⟨a1, a2, a3, a4, a5⟩)
  · have e1 := hT (p + 1) (by omega) (by omega)
    rw [e0] at a1
    rw [e1] at a3 a4
    exact Or.inr (Or.inr (Or.inl ⟨a1, a2, a3, a4, a5⟩))
  · have e1 := hT (p + 1) (by omega) (by omega)
    rw [e0] at a1
    rw [e1] at a3
    obtain ⟨s1, s2, s3⟩ := a4
    obtain ⟨m1, m2, m3⟩ := a7
    obtain ⟨z1, z2⟩ := hz g a6.1 a6.2
    refine Or.inr (Or.inr (Or.inr ⟨a1, a2, a3, z, g, ⟨s1, fun j j0 j1 => ?_, ?_⟩, a5, a6, ⟨m1, z1.symm.trans m2, fun j j0 j1 => ?_⟩, a8, a9⟩))
    · have t := s2 j j0 j1
      rw [hT (p + 2 + j) (by omega) t.1] at t
      exact t
    · rcases s3 with s3 | s3
      · exact Or.inl s3
      · rw [hT (p + 2 + z) (by omega) a5] at s3
        exact Or.inr s3
    · have t := s2 j j0 j1
      rw [← z2 j j0 (by omega), m3 j j0 j1, hT (p + 2 + j) (by omega) t.1]
end Tm
/-! what is written -/
/-- bytes of the subject from a on, so many -/
def sbL (f : Int → Int) : Nat → Int → List Int
  | 0, _ => []
  | k + 1, a => f a :: sbL f k (a + 1)
def sbR (f : Int → Int) (a b : Int) : List Int := sbL f (b - a).toNat a
theorem sbL_len {f : Int → Int} : ∀ (k : Nat) (a : Int), (sbL f k a).length = k := by
  intro k
  induction k with
  | zero => intro a; rfl
  | succ k ih => intro a; show (sbL f k (a + 1)).length + 1 = k + 1; rw [ih]
theorem sbL_app {f : Int → Int} : ∀ (k m : Nat) (a : Int), sbL f (k + m) a = sbL f k a ++ sbL f m (a + (k : Int)) := by
  intro k
  induction k with
  | zero =>
    intro m a
    rw [Nat.zero_add, show a + ((0 : Nat) : Int) = a by omega]
    rfl
  | succ k ih =>
    intro m a
    rw [show k + 1 + m = (k + m) + 1 by omega]
    show f a :: sbL f (k + m) (a + 1) = f a :: (sbL f k (a + 1) ++ sbL f m (a + ((k + 1 : Nat) : Int)))
    rw [ih, show a + 1 + (k : Int) = a + ((k + 1 : Nat) : Int) by omega]
theorem sbL_cg {f g : Int → Int} {n : Int} (h : ∀ i : Int, 0 ≤ i → i < n → f i = g i) : ∀ (k : Nat) (a : Int), 0 ≤ a → a + (k : Int) ≤ n → sbL f k a = sbL g k a := by
  intro k
  induction k with
  | zero => intro a _ _; rfl
  | succ k ih =>
    intro a a0 a1
    show f a :: sbL f k (a + 1) = g a :: sbL g k (a + 1)
    rw [h a a0 (by omega), ih (a + 1) (by omega) (by omega)]
/-- an item, filled with a match's groups: st, e, then as g has them -/
def itX (f : Int → Int) (st e : Int) (g : Gr) (it : Int) : List Int := if 0 ≤ it then [it] else if it = -1 then sbR f st e else if g (2 * (-1 - it)) = -1 then [] else sbR f (g (2 * (-1 - it))) (g (2 * (-1 - it) + 1))
def exL (f : Int → Int) (st e : Int) (g : Gr) (L : List Int) : List Int := L.flatMap (itX f st e g)
/-- after k matches, the last of which ended at ab, this was written -/
def rpV (W : Int → List (Int × Gr)) (fy n : Int) (f : Int → Int) (L : List Int) : Nat → Int → List Int → Prop
  | 0, ab, O => ab = -1 ∧ O = []
  | k + 1, ab, O => ∃ (a0 st : Int) (g : Gr) (O0 : List Int), rpV W fy n f L k a0 O0 ∧ nxP W fy n a0 (some (ab, g)) st ∧ O = O0 ++ (sbR f (max a0 0) st ++ exL f st ab g L)
theorem rpV_det {W : Int → List (Int × Gr)} {fy n : Int} {f : Int → Int} {L : List Int} : ∀ (k : Nat) (ab a2 : Int) (O O2 : List Int), rpV W fy n f L k ab O → rpV W fy n f L k a2 O2 → ab = a2 ∧ O = O2 := by
  intro k
  induction k with
  | zero => intro ab a2 O O2 h q; exact ⟨h.1.trans q.1.symm, h.2.trans q.2.symm⟩
  | succ k ih =>
    intro ab a2 O O2 h q
    obtain ⟨a0, st, g, O0, h1, h2, h3⟩ := h
    obtain ⟨b0, su, g2, O1, q1, q2, q3⟩ := q
    obtain ⟨e1, e2⟩ := ih _ _ _ _ h1 q1
    rw [← e1] at q2 q3
    obtain ⟨d1, d2⟩ := nxP_det h2 q2
    have d3 := d2 (fun z => by cases z)
    injection d1 with d1
    injection d1 with k1 k2
    refine ⟨k1, ?_⟩
    rw [h3, q3, e2, d3, k1, k2]
theorem rpV_le {W : Int → List (Int × Gr)} {fy n : Int} {f : Int → Int} {L : List Int} {k : Nat} {ab : Int} {O : List Int} (h : rpV W fy n f L k ab O) (hn : ∀ (S : Option (Int × Gr)) (st : Int), nxP W fy n ab S st → S = none) : ∀ (j : Nat) (a2 : Int) (O2 : List Int), rpV W fy n f L j a2 O2 → j ≤ k := by
  intro j
  induction j with
  | zero => intro a2 O2 _; omega
  | succ j ih =>
    intro a2 O2 q
    obtain ⟨b0, su, g2, O1, q1, q2, q3⟩ := q
    have i := ih _ _ q1
    by_cases c : j = k
    · rw [c] at q1
      have e := (rpV_det k ab b0 O O1 h q1).1
      rw [← e] at q2
      cases hn _ _ q2
    · omega
/-- all that is written -/
def rpW (v : Sn) (f : Int → Int) (n fy : Int) (L O : List Int) : Prop := ∃ (k : Nat) (ab : Int) (O0 : List Int), rpV (wyR v f n) fy n f L k ab O0 ∧ (∀ (S : Option (Int × Gr)) (st : Int), nxP (wyR v f n) fy n ab S st → S = none) ∧ O = O0 ++ sbR f (max ab 0) n
theorem rpW_det {v : Sn} {f : Int → Int} {n fy : Int} {L O O2 : List Int} (h : rpW v f n fy L O) (q : rpW v f n fy L O2) : O = O2 := by
  obtain ⟨k, ab, O0, h1, h2, h3⟩ := h
  obtain ⟨j, a2, O1, q1, q2, q3⟩ := q
  have l1 := rpV_le h1 h2 j a2 O1 q1
  have l2 := rpV_le q1 q2 k ab O0 h1
  have e : j = k := by omega
  rw [e] at q1
  obtain ⟨e1, e2⟩ := rpV_det k ab a2 O0 O1 h1 q1
  rw [h3, q3, e1, e2]
/-- a row has a list -/
def rwL (F : Int → Int) : Nat → List Int → Prop
  | _, [] => True
  | k, x :: t => F (k : Int) = x ∧ rwL F (k + 1) t
