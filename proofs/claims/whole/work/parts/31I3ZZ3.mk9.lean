/-! the match that a list of ways gives: its first, or the first of its longest -/
def accB (hw n e : Int) : Bool := !(decide (hw = 2) && decide (e < n))
theorem accB_t {hw n e : Int} : accB hw n e = true ↔ acc hw n e := by
  unfold accB acc
  by_cases c : hw = 2 <;> by_cases d : e < n <;> simp [c, d]
theorem accB_f {hw n e : Int} : accB hw n e = false ↔ ¬ acc hw n e := by
  rw [← accB_t]
  simp
def fA (hw n : Int) (L : List (Int × Gr)) : Option (Int × Gr) := L.find? (fun x => accB hw n x.1)
def upw (hw n : Int) (s : Option (Int × Gr)) (x : Int × Gr) : Option (Int × Gr) := if accB hw n x.1 then (match s with
  | none => some x
  | some y => if y.1 < x.1 then some x else some y) else s
def bst (hw n : Int) (s : Option (Int × Gr)) (L : List (Int × Gr)) : Option (Int × Gr) := L.foldl (upw hw n) s
section Mk9
variable {hw n : Int} {L R : List (Int × Gr)} {s : Option (Int × Gr)}
theorem fA_app : fA hw n (L ++ R) = (fA hw n L).or (fA hw n R) := List.find?_append
theorem fA_none : fA hw n L = none ↔ ∀ x ∈ L, ¬ acc hw n x.1 := by
  unfold fA
  rw [List.find?_eq_none]
  constructor
  · intro h x hx c
    exact h x hx (accB_t.mpr c)
  · intro h x hx c
    exact h x hx (accB_t.mp c)
theorem fA_skip (h : ∀ x ∈ L, ¬ acc hw n x.1) : fA hw n (L ++ R) = fA hw n R := by
  rw [fA_app, fA_none.mpr h]
  rfl
theorem fA_hit {q : Int} {g : Gr} (h : acc hw n q) : fA hw n ((q, g) :: R) = some (q, g) := List.find?_cons_of_pos (show accB hw n q = true from accB_t.mpr h)
theorem fA_miss {q : Int} {g : Gr} (h : ¬ acc hw n q) : fA hw n ((q, g) :: R) = fA hw n R := List.find?_cons_of_neg (show ¬ accB hw n q = true from fun z => h (accB_t.mp z))
theorem bst_app : bst hw n s (L ++ R) = bst hw n (bst hw n s L) R := List.foldl_append
theorem upw_skip {x : Int × Gr} (h : acc hw n x.1 → ∃ y, s = some y ∧ x.1 ≤ y.1) : upw hw n s x = s := by
  unfold upw
  by_cases c : accB hw n x.1 = true
  · obtain ⟨y, hy, hl⟩ := h (accB_t.mp c)
    rw [if_pos c, hy]
    show (if y.1 < x.1 then some x else some y) = some y
    rw [if_neg (by omega)]
  · rw [if_neg c]
theorem bst_skip (h : ∀ x ∈ L, acc hw n x.1 → ∃ y, s = some y ∧ x.1 ≤ y.1) : bst hw n s L = s := by
  induction L with
  | nil => rfl
  | cons x t ih =>
    show bst hw n (upw hw n s x) t = s
    rw [upw_skip (h x (List.mem_cons.mpr (Or.inl rfl)))]
    exact ih (fun y hy => h y (List.mem_cons_of_mem _ hy))
theorem upw_hit {x : Int × Gr} (h : acc hw n x.1) (hs : ∀ y, s = some y → y.1 < x.1) : upw hw n s x = some x := by
  unfold upw
  rw [if_pos (accB_t.mpr h)]
  cases s with
  | none => rfl
  | some y =>
    show (if y.1 < x.1 then some x else some y) = some x
    rw [if_pos (hs y rfl)]
theorem bst_some {y : Int × Gr} : ∃ z, bst hw n (some y) L = some z := by
  induction L generalizing y with
  | nil => exact ⟨y, rfl⟩
  | cons x t ih =>
    show ∃ z, bst hw n (upw hw n (some y) x) t = some z
    have : ∃ w, upw hw n (some y) x = some w := by
      unfold upw
      split
      · show ∃ w, (if y.1 < x.1 then some x else some y) = some w
        split
        · exact ⟨x, rfl⟩
        · exact ⟨y, rfl⟩
      · exact ⟨y, rfl⟩
    obtain ⟨w, e⟩ := this
    rw [e]
    exact ih
theorem bst_none : bst hw n none L = none ↔ ∀ x ∈ L, ¬ acc hw n x.1 := by
  induction L with
  | nil => exact ⟨fun _ x hx => absurd hx List.not_mem_nil, fun _ => rfl⟩
  | cons x t ih =>
    have e : bst hw n none (x :: t) = bst hw n (upw hw n none x) t := rfl
    rw [e]
    by_cases c : acc hw n x.1
    · rw [upw_hit c (fun y h => by cases h)]
      constructor
      · intro h
        obtain ⟨z, hz⟩ := bst_some (hw := hw) (n := n) (y := x) (L := t)
        rw [hz] at h
        cases h
      · intro h
        exact absurd c (h x (List.mem_cons.mpr (Or.inl rfl)))
    · rw [upw_skip (fun h => absurd h c), ih]
      constructor
      · intro h y hy
        rcases List.mem_cons.mp hy with q | q
        · rw [q]; exact c
        · exact h y q
      · intro h y hy
        exact h y (List.mem_cons_of_mem _ hy)
/-- fy = 1: the first; else the first of the longest -/
def mtR (fy hw n : Int) (L : List (Int × Gr)) : Option (Int × Gr) := if fy = 1 then fA hw n L else bst hw n none L
theorem mtR_none {fy : Int} : mtR fy hw n L = none ↔ ∀ x ∈ L, ¬ acc hw n x.1 := by
  unfold mtR
  split
  · exact fA_none
  · exact bst_none
end Mk9
/-- the groups at the begin of a try -/
def gr0 (st : Int) : Gr := fun i => if i = 0 then st else -1
theorem zu_back {g : Gr} {v p w : Int} (h : g v = w) : zu (zu g v p) v w = g := by
  funext i
  by_cases e : i = v
  · rw [e, zu_self]; exact h.symm
  · rw [zu_ne e, zu_ne e]
/-- groups as a row of spans has them -/
def gA (WK : Int → Int) (g : Gr) (wi : Int) : Prop := ∀ i : Int, 2 ≤ i → i < wi → WK i = g i
def mch (c : Option (Int × Gr)) (fo : Int) (SP : Int → Int) (wi st : Int) : Prop := (c = none ∧ fo = 0) ∨ ∃ (e : Int) (g : Gr), c = some (e, g) ∧ fo = 1 ∧ SP 0 = st ∧ SP 1 = e ∧ gA SP g wi
section Mch
variable {fo wi st : Int} {c : Option (Int × Gr)} {SP : Int → Int}
theorem mch_fo (h : mch c fo SP wi st) : fo = 0 ∨ fo = 1 := by
  rcases h with ⟨_, h⟩ | ⟨e, g, _, h, _⟩
  · exact Or.inl h
  · exact Or.inr h
theorem mch_s (h : mch c fo SP wi st) (h1 : fo = 1) : ∃ y, c = some y ∧ y.1 = SP 1 := by
  rcases h with ⟨_, h⟩ | ⟨e, g, h2, _, _, h4, _⟩
  · omega
  · exact ⟨(e, g), h2, h4.symm⟩
theorem mch_n (h : mch c fo SP wi st) (h1 : fo = 0) : c = none := by
  rcases h with ⟨h, _⟩ | ⟨e, g, _, h2, _⟩
  · exact h
  · omega
end Mch
