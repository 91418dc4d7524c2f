/-! threads: ways with the place where they began; the first begin with a match, and the match of it -/
abbrev Tw := Int × Int × Gr
def acT (hw n : Int) (x : Tw) : Bool := accB hw n x.2.1
def upT (hw n : Int) (s : Option Tw) (x : Tw) : Option Tw := if acT hw n x then (match s with
  | none => some x
  | some y => if y.1 = x.1 ∧ y.2.1 < x.2.1 then some x else some y) else s
def slT (fy hw n : Int) (L : List Tw) : Option Tw := if fy = 1 then L.find? (acT hw n) else L.foldl (upT hw n) none
def sdT (L : List Tw) : Prop := L.Pairwise (fun x y => x.1 ≤ y.1)
def tgT (st : Int) (L : List (Int × Gr)) : List Tw := L.map (fun x => (st, x.1, x.2))
section SlT
variable {fy hw n : Int} {A B L : List Tw} {c d x y : Tw} {s : Option Tw}
theorem upT_no (h : ¬ acT hw n x = true) : upT hw n s x = s := if_neg h
theorem upT_n (h : acT hw n x = true) : upT hw n none x = some x := if_pos h
theorem upT_y (h : acT hw n x = true) : upT hw n (some y) x = if y.1 = x.1 ∧ y.2.1 < x.2.1 then some x else some y := if_pos h
theorem fT_some : ∀ (L : List Tw) (c : Tw), ∃ d : Tw, L.foldl (upT hw n) (some c) = some d ∧ d.1 = c.1 ∧ c.2.1 ≤ d.2.1 ∧ ∀ x ∈ L, acT hw n x = true → x.1 = c.1 → x.2.1 ≤ d.2.1 := by
  intro L
  induction L with
  | nil => intro c; exact ⟨c, rfl, rfl, Int.le_refl _, fun x hx => absurd hx List.not_mem_nil⟩
  | cons z t ih =>
    intro c
    have e : (z :: t).foldl (upT hw n) (some c) = t.foldl (upT hw n) (upT hw n (some c) z) := rfl
    rw [e]
    by_cases a : acT hw n z = true
    · rw [upT_y a]
      by_cases q : c.1 = z.1 ∧ c.2.1 < z.2.1
      · rw [if_pos q]
        obtain ⟨d, d1, d2, d3, d4⟩ := ih z
        refine ⟨d, d1, by omega, by omega, fun x hx ax ex => ?_⟩
        rcases List.mem_cons.mp hx with w | w
        · rw [w]; exact d3
        · exact d4 x w ax (by omega)
      · rw [if_neg q]
        obtain ⟨d, d1, d2, d3, d4⟩ := ih c
        refine ⟨d, d1, d2, d3, fun x hx ax ex => ?_⟩
        rcases List.mem_cons.mp hx with w | w
        · rw [w] at ex ⊢; omega
        · exact d4 x w ax ex
    · rw [upT_no a]
      obtain ⟨d, d1, d2, d3, d4⟩ := ih c
      refine ⟨d, d1, d2, d3, fun x hx ax ex => ?_⟩
      rcases List.mem_cons.mp hx with w | w
      · rw [w] at ax; exact absurd ax a
      · exact d4 x w ax ex
theorem fT_skip : ∀ (L : List Tw), (∀ x ∈ L, acT hw n x = true → x.1 = d.1 → x.2.1 ≤ d.2.1) → L.foldl (upT hw n) (some d) = some d := by
  intro L
  induction L with
  | nil => intro _; rfl
  | cons z t ih =>
    intro h
    have e : (z :: t).foldl (upT hw n) (some d) = t.foldl (upT hw n) (upT hw n (some d) z) := rfl
    have k : upT hw n (some d) z = some d := by
      by_cases a : acT hw n z = true
      · rw [upT_y a, if_neg]
        rintro ⟨q1, q2⟩
        have := h z (List.mem_cons.mpr (Or.inl rfl)) a q1.symm
        omega
      · exact upT_no a
    rw [e, k]
    exact ih (fun x hx => h x (List.mem_cons_of_mem _ hx))
theorem fT_none : ∀ (L : List Tw), L.foldl (upT hw n) none = none ↔ ∀ x ∈ L, ¬ acT hw n x = true := by
  intro L
  induction L with
  | nil => exact ⟨fun _ x hx => absurd hx List.not_mem_nil, fun _ => rfl⟩
  | cons z t ih =>
    have e : (z :: t).foldl (upT hw n) none = t.foldl (upT hw n) (upT hw n none z) := rfl
    rw [e]
    by_cases a : acT hw n z = true
    · rw [upT_n a]
      obtain ⟨d, d1, _⟩ := fT_some (hw := hw) (n := n) t z
      rw [d1]
      exact ⟨fun q => (by cases q), fun q => absurd a (q z (List.mem_cons.mpr (Or.inl rfl)))⟩
    · rw [upT_no a, ih]
      constructor
      · intro q x hx
        rcases List.mem_cons.mp hx with w | w
        · rw [w]; exact a
        · exact q x w
      · intro q x hx
        exact q x (List.mem_cons_of_mem _ hx)
/-- what the fold finds: of the least begin, and the longest of it -/
theorem fT_best : ∀ (L : List Tw), sdT L → L.foldl (upT hw n) none = some d → ∀ x ∈ L, acT hw n x = true → d.1 ≤ x.1 ∧ (x.1 = d.1 → x.2.1 ≤ d.2.1) := by
  intro L
  induction L with
  | nil => intro _ h; cases h
  | cons z t ih =>
    intro hs h x hx ax
    have e : (z :: t).foldl (upT hw n) none = t.foldl (upT hw n) (upT hw n none z) := rfl
    rw [e] at h
    have hs1 := List.pairwise_cons.mp hs
    by_cases a : acT hw n z = true
    · rw [upT_n a] at h
      obtain ⟨d', d1, d2, d3, d4⟩ := fT_some (hw := hw) (n := n) t z
      rw [d1] at h
      have ed := Option.some.inj h
      subst ed
      rcases List.mem_cons.mp hx with w | w
      · rw [w]; exact ⟨by omega, fun _ => d3⟩
      · have := hs1.1 x w
        exact ⟨by omega, fun q => d4 x w ax (by omega)⟩
    · rw [upT_no a] at h
      rcases List.mem_cons.mp hx with w | w
      · rw [w] at ax; exact absurd ax a
      · exact ih hs1.2 h x w ax
/-- ways that others ahead have already are passed over -/
theorem slT_prune (hA : sdT A) (h : ∀ x ∈ L, ∃ y ∈ A, y.2.1 = x.2.1 ∧ y.1 ≤ x.1) : slT fy hw n (A ++ (L ++ B)) = slT fy hw n (A ++ B) := by
  have ac : ∀ x ∈ L, acT hw n x = true → ∃ y ∈ A, acT hw n y = true ∧ y.2.1 = x.2.1 ∧ y.1 ≤ x.1 := fun x hx ax => by
    obtain ⟨y, y1, y2, y3⟩ := h x hx
    refine ⟨y, y1, ?_, y2, y3⟩
    unfold acT at ax ⊢
    rw [y2]; exact ax
  unfold slT
  split
  · rw [List.find?_append, List.find?_append, List.find?_append]
    cases hq : A.find? (acT hw n) with
    | some z => rfl
    | none =>
      have no : L.find? (acT hw n) = none := List.find?_eq_none.mpr (fun x hx ax => by
        obtain ⟨y, y1, y2, _⟩ := ac x hx ax
        exact (List.find?_eq_none.mp hq) y y1 y2)
      rw [no]
      rfl
  · rw [List.foldl_append, List.foldl_append, List.foldl_append]
    cases hq : A.foldl (upT hw n) none with
    | none =>
      have no : L.foldl (upT hw n) none = none := (fT_none L).mpr (fun x hx ax => by
        obtain ⟨y, y1, y2, _⟩ := ac x hx ax
        exact (fT_none A).mp hq y y1 y2)
      rw [no]
    | some d =>
      have no : L.foldl (upT hw n) (some d) = some d := fT_skip L (fun x hx ax ex => by
        obtain ⟨y, y1, y2, y3, y4⟩ := ac x hx ax
        have b := fT_best A hA hq y y1 y2
        have := b.2 (by omega)
        omega)
      rw [no]
theorem slT_none : slT fy hw n L = none ↔ ∀ x ∈ L, ¬ acT hw n x = true := by
  unfold slT
  split
  · exact List.find?_eq_none
  · exact fT_none L
theorem slT_mem : ∀ {L : List Tw}, slT fy hw n L = some d → d ∈ L ∧ acT hw n d = true := by
  intro L h
  unfold slT at h
  split at h
  · exact ⟨List.mem_of_find?_eq_some h, List.find?_some h⟩
  · have key : ∀ (L : List Tw) (s : Option Tw), (∀ c, s = some c → acT hw n c = true) → L.foldl (upT hw n) s = some d → (s = some d ∨ d ∈ L) ∧ acT hw n d = true := by
      intro L
      induction L with
      | nil => intro s hs h; exact ⟨Or.inl h, hs d h⟩
      | cons z t ih =>
        intro s hs h
        have e : (z :: t).foldl (upT hw n) s = t.foldl (upT hw n) (upT hw n s z) := rfl
        rw [e] at h
        by_cases a : acT hw n z = true
        · cases s with
          | none =>
            rw [upT_n a] at h
            obtain ⟨q, w⟩ := ih (some z) (fun c hc => by rw [← Option.some.inj hc]; exact a) h
            exact ⟨Or.inr (q.elim (fun q => List.mem_cons.mpr (Or.inl (Option.some.inj q).symm)) (fun q => List.mem_cons_of_mem _ q)), w⟩
          | some c =>
            rw [upT_y a] at h
            by_cases k : c.1 = z.1 ∧ c.2.1 < z.2.1
            · rw [if_pos k] at h
              obtain ⟨q, w⟩ := ih (some z) (fun c hc => by rw [← Option.some.inj hc]; exact a) h
              exact ⟨Or.inr (q.elim (fun q => List.mem_cons.mpr (Or.inl (Option.some.inj q).symm)) (fun q => List.mem_cons_of_mem _ q)), w⟩
            · rw [if_neg k] at h
              obtain ⟨q, w⟩ := ih (some c) hs h
              exact ⟨q.elim Or.inl (fun q => Or.inr (List.mem_cons_of_mem _ q)), w⟩
        · rw [upT_no a] at h
          obtain ⟨q, w⟩ := ih s hs h
          exact ⟨q.elim Or.inl (fun q => Or.inr (List.mem_cons_of_mem _ q)), w⟩
    obtain ⟨q, w⟩ := key L none (fun c hc => by cases hc) h
    exact ⟨q.elim (fun q => by cases q) id, w⟩
/-- an arrival that counts: what is ahead ends behind it, what is behind it in order and began with it, too -/
theorem slT_hit {E G : List Tw} (ha : acT hw n x = true) (hA : sdT A) (h1 : ∀ y ∈ A, y.1 ≤ x.1 ∧ x.2.1 < y.2.1) (hE : ∀ y ∈ E, y.1 = x.1 ∧ x.2.1 < y.2.1) (hG : ∀ y ∈ G, x.1 < y.1) (hf : ¬ fy = 1) : slT fy hw n (A ++ (x :: (E ++ G))) = (slT fy hw n (A ++ E)).or (some x) := by
  unfold slT
  rw [if_neg hf, if_neg hf, List.foldl_append, List.foldl_append]
  have e : ∀ s : Option Tw, (x :: (E ++ G)).foldl (upT hw n) s = G.foldl (upT hw n) (E.foldl (upT hw n) (upT hw n s x)) := fun s => by
    show (E ++ G).foldl (upT hw n) (upT hw n s x) = _
    rw [List.foldl_append]
  rw [e]
  cases hq : A.foldl (upT hw n) none with
  | some d =>
    obtain ⟨dm, da⟩ := slT_mem (fy := 0) (hw := hw) (n := n) (L := A) (d := d) (by unfold slT; rw [if_neg (by decide)]; exact hq)
    have dd := h1 d dm
    have k : upT hw n (some d) x = some d := by
      rw [upT_y ha, if_neg (by omega)]
    rw [k]
    obtain ⟨z, z1, z2, z3, z4⟩ := fT_some (hw := hw) (n := n) E d
    rw [z1, fT_skip G (fun y hy _ ey => by have := hG y hy; omega)]
    rfl
  | none =>
    rw [upT_n ha]
    cases hr : E.foldl (upT hw n) none with
    | none =>
      have no := (fT_none E).mp hr
      rw [fT_skip E (fun y hy ay _ => absurd ay (no y hy)), fT_skip G (fun y hy _ ey => by have := hG y hy; omega)]
      rfl
    | some w =>
      have key : ∀ (E : List Tw), (∀ y ∈ E, y.1 = x.1 ∧ x.2.1 < y.2.1) → ∀ w, E.foldl (upT hw n) none = some w → E.foldl (upT hw n) (some x) = some w := by
        intro E
        induction E with
        | nil => intro _ w h; cases h
        | cons z t ih =>
          intro hE w h
          have q : (z :: t).foldl (upT hw n) none = t.foldl (upT hw n) (upT hw n none z) := rfl
          have q2 : (z :: t).foldl (upT hw n) (some x) = t.foldl (upT hw n) (upT hw n (some x) z) := rfl
          rw [q] at h
          rw [q2]
          have hz := hE z (List.mem_cons.mpr (Or.inl rfl))
          by_cases a : acT hw n z = true
          · rw [upT_n a] at h
            rw [upT_y a, if_pos (by omega)]
            exact h
          · rw [upT_no a] at h ⊢
            exact ih (fun y hy => hE y (List.mem_cons_of_mem _ hy)) w h
      rw [key E hE w hr]
      obtain ⟨wm, wa⟩ := slT_mem (fy := 0) (hw := hw) (n := n) (L := E) (d := w) (by unfold slT; rw [if_neg (by decide)]; exact hr)
      have ww := hE w wm
      rw [fT_skip G (fun y hy _ ey => by have := hG y hy; omega)]
      rfl
theorem slT_hit1 (ha : acT hw n x = true) (hf : fy = 1) : slT fy hw n (A ++ (x :: B)) = (slT fy hw n A).or (some x) := by
  unfold slT
  rw [if_pos hf, if_pos hf, List.find?_append]
  congr 1
  exact List.find?_cons_of_pos ha
theorem slT_miss (ha : ¬ acT hw n x = true) : slT fy hw n (A ++ (x :: B)) = slT fy hw n (A ++ B) := by
  unfold slT
  split
  · rw [List.find?_append, List.find?_append, List.find?_cons_of_neg ha]
  · rw [List.foldl_append, List.foldl_append]
    show B.foldl (upT hw n) (upT hw n (A.foldl (upT hw n) none) x) = _
    rw [upT_no ha]
end SlT
/-! a row of threads -/
/-- a thread's pair: a state, or one that waits within a character -/
def thP (a Rs : Int → Int) (q e y p : Int) : Prop := (e < 1024 ∧ y = e ∧ p = q) ∨ (1024 ≤ e ∧ y = a (e - 1024) ∧ p = q + Rs q)
def thL (tg a b : Int → Int) (mm : Int → Int → Prop) (f : Int → Int) (n : Int) (Rs : Int → Int) (q : Int) (TN TS : Int → Int) (wi : Int) : Nat → List Tw → Prop
  | 0, W => W = []
  | k + 1, W => ∃ (V : List Tw) (L : List (Int × Gr)) (g : Gr) (y p : Int), thL tg a b mm f n Rs q TN TS wi k V ∧ thP a Rs q (TN (k : Int)) y p ∧ (∀ i : Int, 2 ≤ i → i < wi → TS ((k : Int) * wi + i) = g i) ∧ WW tg a b mm f n y p g L ∧ W = V ++ tgT (TS ((k : Int) * wi)) L
section ThL
variable {tg a b : Int → Int} {mm : Int → Int → Prop} {f Rs : Int → Int} {n q wi : Int} {TN TS TN2 TS2 : Int → Int}
theorem thL_cg : ∀ (k : Nat) (W : List Tw), thL tg a b mm f n Rs q TN TS wi k W → (∀ i : Int, 0 ≤ i → i < k → TN2 i = TN i) → (∀ i : Int, 0 ≤ i → i < (k : Int) * wi → TS2 i = TS i) → 1 ≤ wi → thL tg a b mm f n Rs q TN2 TS2 wi k W := by
  intro k
  induction k with
  | zero => intro W h _ _ _; exact h
  | succ k ih =>
    intro W h h1 h2 hw
    obtain ⟨V, L, g, y, p, a1, a2, a3, a4, a5⟩ := h
    have e : ((k + 1 : Nat) : Int) * wi = (k : Int) * wi + wi := by rw [Int.natCast_succ, Int.add_mul, Int.one_mul]
    have pos : 0 ≤ (k : Int) * wi := Int.mul_nonneg (by omega) (by omega)
    refine ⟨V, L, g, y, p, ih V a1 (fun i i0 i1 => h1 i i0 (by omega)) (fun i i0 i1 => h2 i i0 (by omega)) hw, by rw [h1 (k : Int) (by omega) (by omega)]; exact a2, fun i i0 i1 => by rw [h2 _ (by omega) (by omega)]; exact a3 i i0 i1, a4, ?_⟩
    rw [h2 ((k : Int) * wi) pos (by omega)]
    exact a5
theorem thL_add {k : Nat} {W : List Tw} {L : List (Int × Gr)} {g : Gr} {y p st : Int} (h : thL tg a b mm f n Rs q TN TS wi k W) (hp : thP a Rs q (TN2 (k : Int)) y p) (hL : WW tg a b mm f n y p g L) (h1 : ∀ i : Int, 0 ≤ i → i < k → TN2 i = TN i) (h2 : ∀ i : Int, 0 ≤ i → i < (k : Int) * wi → TS2 i = TS i) (hg : ∀ i : Int, 2 ≤ i → i < wi → TS2 ((k : Int) * wi + i) = g i) (h0 : TS2 ((k : Int) * wi) = st) (hw : 1 ≤ wi) : thL tg a b mm f n Rs q TN2 TS2 wi (k + 1) (W ++ tgT st L) := ⟨W, L, g, y, p, thL_cg k W h h1 h2 hw, hp, hg, hL, by rw [h0]⟩
/-- each end of a thread is in the row -/
theorem thL_mem : ∀ (k : Nat) (W : List Tw), thL tg a b mm f n Rs q TN TS wi k W → ∀ i : Int, 0 ≤ i → i < k → ∀ y p e : Int, thP a Rs q (TN i) y p → EN tg a b mm f n y p e → ∃ x ∈ W, x.2.1 = e := by
  intro k
  induction k with
  | zero => intro W _ i i0 i1; omega
  | succ k ih =>
    intro W h i i0 i1 y p e hp he
    obtain ⟨V, L, g, y2, p2, a1, a2, a3, a4, a5⟩ := h
    by_cases c : i = (k : Int)
    · rw [c] at hp
      have ey : y = y2 ∧ p = p2 := by
        rcases hp with ⟨u1, u2, u3⟩ | ⟨u1, u2, u3⟩ <;> rcases a2 with ⟨v1, v2, v3⟩ | ⟨v1, v2, v3⟩
        · exact ⟨by rw [u2, v2], by rw [u3, v3]⟩
        · omega
        · omega
        · exact ⟨by rw [u2, v2], by rw [u3, v3]⟩
      rw [ey.1, ey.2, EN_of a4] at he
      obtain ⟨z, z1, z2⟩ := List.mem_map.mp he
      exact ⟨(TS ((k : Int) * wi), z.1, z.2), by rw [a5]; exact List.mem_append_right _ (List.mem_map.mpr ⟨z, z1, rfl⟩), z2⟩
    · obtain ⟨x, x1, x2⟩ := ih V a1 i i0 (by omega) y p e hp he
      exact ⟨x, by rw [a5]; exact List.mem_append_left _ x1, x2⟩
end ThL
