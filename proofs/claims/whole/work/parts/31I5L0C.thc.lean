/-! threads: a step of the row that runs, place by place -/
/-- the last m threads of a row of nc -/
def thR (tg a b : Int → Int) (mm : Int → Int → Prop) (f : Int → Int) (n : Int) (Rs : Int → Int) (q : Int) (TN TS : Int → Int) (wi nc : Int) : Nat → List Tw → Prop
  | 0, W => W = []
  | m + 1, W => ∃ (L : List (Int × Gr)) (V : List Tw) (g : Gr) (y p : Int), thP a Rs q (TN (nc - ((m : Int) + 1))) y p ∧ (∀ i : Int, 2 ≤ i → i < wi → TS ((nc - ((m : Int) + 1)) * wi + i) = g i) ∧ WW tg a b mm f n y p g L ∧ thR tg a b mm f n Rs q TN TS wi nc m V ∧ W = tgT (TS ((nc - ((m : Int) + 1)) * wi)) L ++ V
section ThR
variable {tg a b : Int → Int} {mm : Int → Int → Prop} {f Rs : Int → Int} {n q wi nc : Int} {TN TS TN2 TS2 : Int → Int}
theorem thL_R : ∀ (k m : Nat) (V U : List Tw), nc = (k : Int) + (m : Int) → thL tg a b mm f n Rs q TN TS wi k V → thR tg a b mm f n Rs q TN TS wi nc m U → thR tg a b mm f n Rs q TN TS wi nc (m + k) (V ++ U) := by
  intro k
  induction k with
  | zero =>
    intro m V U hn h1 h2
    have e : V = [] := h1
    rw [e]
    exact h2
  | succ k ih =>
    intro m V U hn h1 h2
    obtain ⟨V', L, g, y, p, a1, a2, a3, a4, a5⟩ := h1
    have ek : nc - ((m : Int) + 1) = (k : Int) := by omega
    have h3 : thR tg a b mm f n Rs q TN TS wi nc (m + 1) (tgT (TS ((k : Int) * wi)) L ++ U) := ⟨L, U, g, y, p, by rw [ek]; exact a2, by rw [ek]; exact a3, a4, h2, by rw [ek]⟩
    have h4 := ih (m + 1) V' _ (by omega) a1 h3
    rw [a5, List.append_assoc, show m + (k + 1) = m + 1 + k by omega]
    exact h4
theorem thR_of {V : List Tw} (h : thL tg a b mm f n Rs q TN TS wi nc.toNat V) (h0 : 0 ≤ nc) : thR tg a b mm f n Rs q TN TS wi nc nc.toNat V := by
  have t := thL_R (nc := nc) nc.toNat 0 V [] (by omega) h rfl
  rw [List.append_nil, Nat.zero_add] at t
  exact t
theorem thR.s {m : Nat} {U : List Tw} (h : thR tg a b mm f n Rs q TN TS wi nc (m + 1) U) : ∃ (L : List (Int × Gr)) (V : List Tw) (g : Gr) (y p : Int), thP a Rs q (TN (nc - ((m : Int) + 1))) y p ∧ (∀ i : Int, 2 ≤ i → i < wi → TS ((nc - ((m : Int) + 1)) * wi + i) = g i) ∧ WW tg a b mm f n y p g L ∧ thR tg a b mm f n Rs q TN TS wi nc m V ∧ U = tgT (TS ((nc - ((m : Int) + 1)) * wi)) L ++ V := h
end ThR
/-- what still counts beside a match: what began no later -/
def cutT (c : Option Tw) (L : List Tw) : List Tw := match c with
  | none => L
  | some d => L.filter (fun y => decide (y.1 ≤ d.1))
section CutT
variable {c : Option Tw} {L R : List Tw} {d x : Tw}
theorem cutT_n : cutT none L = L := rfl
theorem cutT_app : cutT c (L ++ R) = cutT c L ++ cutT c R := by
  cases c with
  | none => rfl
  | some d => exact List.filter_append ..
theorem cutT_all (h : ∀ y ∈ L, y.1 ≤ d.1) : cutT (some d) L = L := List.filter_eq_self.mpr (fun y hy => decide_eq_true (h y hy))
theorem cutT_nil (h : ∀ y ∈ L, d.1 < y.1) : cutT (some d) L = [] := List.filter_eq_nil_iff.mpr (fun y hy q => by have := h y hy; have := of_decide_eq_true q; omega)
theorem mem_cutT (h : x ∈ cutT c L) : x ∈ L := by
  cases c with
  | none => exact h
  | some d => exact (List.mem_filter.mp h).1
/-- a sorted list: what began with x, then what began later -/
theorem cutT_two : ∀ (L : List Tw), sdT L → (∀ y ∈ L, x.1 ≤ y.1) → ∃ G : List Tw, L = cutT (some x) L ++ G ∧ ∀ y ∈ G, x.1 < y.1 := by
  intro L
  induction L with
  | nil => intro _ _; exact ⟨[], rfl, fun y hy => absurd hy List.not_mem_nil⟩
  | cons z t ih =>
    intro hs hx
    have hs1 := List.pairwise_cons.mp hs
    by_cases q : z.1 ≤ x.1
    · obtain ⟨G, g1, g2⟩ := ih hs1.2 (fun y hy => hx y (List.mem_cons_of_mem _ hy))
      refine ⟨G, ?_, g2⟩
      have e : cutT (some x) (z :: t) = z :: cutT (some x) t := List.filter_cons_of_pos (p := fun y : Tw => decide (y.1 ≤ x.1)) (decide_eq_true q)
      rw [e, List.cons_append, ← g1]
    · refine ⟨z :: t, ?_, fun y hy => ?_⟩
      · have e : cutT (some x) (z :: t) = [] := cutT_nil (fun y hy => by
          rcases List.mem_cons.mp hy with w | w
          · rw [w]; omega
          · have := hs1.1 y w; omega)
        rw [e]
        rfl
      · rcases List.mem_cons.mp hy with w | w
        · rw [w]; omega
        · have := hs1.1 y w; omega
end CutT
def mcT (c : Option Tw) (fo : Int) (SP : Int → Int) (wi : Int) : Prop := (c = none ∧ fo = 0) ∨ ∃ (st e : Int) (g : Gr), c = some (st, e, g) ∧ fo = 1 ∧ SP 0 = st ∧ SP 1 = e ∧ gA SP g wi
/-- W: the new row's ways; Y: what of the old row and of later begins is left; c: the match so far; S: what it comes to -/
def rwQ (fy hw n p : Int) (W Y : List Tw) (c S : Option Tw) : Prop := S = (slT fy hw n (W ++ cutT c Y)).or c ∧ (sdT W ∧ sdT Y ∧ ∀ w ∈ W, ∀ y ∈ Y, w.1 ≤ y.1) ∧ (∀ w ∈ W, p < w.2.1) ∧ ∀ d : Tw, c = some d → ∀ w ∈ W, w.1 ≤ d.1
section RwQ
variable {fy hw n p : Int} {W W2 Y T : List Tw} {c S : Option Tw} {x d : Tw}
theorem or_or_some {A : Option Tw} : (A.or (some x)).or c = A.or (some x) := by cases A <;> rfl
/-- an arrival that counts, where the first is taken -/
theorem cutT_cons (hc : ∀ d : Tw, c = some d → x.1 ≤ d.1) : cutT c (x :: Y) = x :: cutT c Y := by
  cases c with
  | none => rfl
  | some d => exact List.filter_cons_of_pos (p := fun y : Tw => decide (y.1 ≤ d.1)) (decide_eq_true (hc d rfl))
/-- the first that counts ends the row: nothing behind it is looked at -/
theorem rwQ.first (h : rwQ fy hw n p W (x :: Y) c S) (ha : acT hw n x = true) (hf : fy = 1) (hc : ∀ d : Tw, c = some d → x.1 ≤ d.1) (hT : ∀ y ∈ T, x.1 < y.1) (hs : sdT T) : rwQ fy hw n p W T (some x) S := by
  obtain ⟨h1, ⟨h2, h3, h4⟩, h5, h6⟩ := h
  have wx : ∀ w ∈ W, w.1 ≤ x.1 := fun w hw => h4 w hw x (List.mem_cons.mpr (Or.inl rfl))
  refine ⟨?_, ⟨h2, hs, fun w hw y hy => by have := wx w hw; have := hT y hy; omega⟩, h5, fun d hd w hw => by rw [← Option.some.inj hd]; exact wx w hw⟩
  rw [h1, cutT_cons hc, slT_hit1 ha hf, or_or_some, cutT_nil hT, List.append_nil]
/-- an arrival that counts, where the longest is taken -/
theorem rwQ.long (h : rwQ fy hw n p W (x :: Y) c S) (ha : acT hw n x = true) (hf : ¬ fy = 1) (hp : x.2.1 = p) (hc : ∀ d : Tw, c = some d → x.1 ≤ d.1) (hY : ∀ y ∈ Y, y.1 = x.1 → p < y.2.1) : rwQ fy hw n p W Y (some x) S := by
  obtain ⟨h1, ⟨h2, h3, h4⟩, h5, h6⟩ := h
  have h31 := List.pairwise_cons.mp h3
  have wx : ∀ w ∈ W, w.1 ≤ x.1 := fun w hw => h4 w hw x (List.mem_cons.mpr (Or.inl rfl))
  refine ⟨?_, ⟨h2, h31.2, fun w hw y hy => h4 w hw y (List.mem_cons_of_mem _ hy)⟩, h5, fun d hd w hw => by rw [← Option.some.inj hd]; exact wx w hw⟩
  obtain ⟨G, g1, g2⟩ := cutT_two (x := x) Y h31.2 h31.1
  have e : cutT c Y = cutT (some x) Y ++ cutT c G := by
    have e1 : cutT c Y = cutT c (cutT (some x) Y ++ G) := by rw [← g1]
    rw [e1, cutT_app]
    congr 1
    cases c with
    | none => rfl
    | some d =>
      refine cutT_all (fun y hy => ?_)
      have := of_decide_eq_true (List.mem_filter.mp hy).2
      have := hc d rfl
      omega
  rw [h1, cutT_cons hc, e, slT_hit ha h2 (fun w hw => ⟨wx w hw, by rw [hp]; exact h5 w hw⟩) (fun y hy => ?_) (fun y hy => g2 y (mem_cutT hy)) hf, or_or_some]
  have m := List.mem_filter.mp hy
  have t := of_decide_eq_true m.2
  have u := h31.1 y m.1
  have ey : y.1 = x.1 := by omega
  exact ⟨ey, by rw [hp]; exact hY y m.1 ey⟩
/-- an arrival that does not count -/
theorem rwQ.miss (h : rwQ fy hw n p W (x :: Y) c S) (ha : ¬ acT hw n x = true) : rwQ fy hw n p W Y c S := by
  obtain ⟨h1, ⟨h2, h3, h4⟩, h5, h6⟩ := h
  refine ⟨?_, ⟨h2, (List.pairwise_cons.mp h3).2, fun w hw y hy => h4 w hw y (List.mem_cons_of_mem _ hy)⟩, h5, h6⟩
  rw [h1]
  congr 1
  have key : cutT c (x :: Y) = x :: cutT c Y ∨ cutT c (x :: Y) = cutT c Y := by
    cases c with
    | none => exact Or.inl rfl
    | some d =>
      by_cases q : x.1 ≤ d.1
      · exact Or.inl (List.filter_cons_of_pos (p := fun y : Tw => decide (y.1 ≤ d.1)) (decide_eq_true q))
      · exact Or.inr (List.filter_cons_of_neg (p := fun y : Tw => decide (y.1 ≤ d.1)) (fun z => q (of_decide_eq_true z)))
  rcases key with k | k
  · rw [k, slT_miss ha]
  · rw [k]
/-- the rest began too late -/
theorem rwQ.late (h : rwQ fy hw n p W Y (some d) S) (hY : ∀ y ∈ Y, d.1 < y.1) (hT : ∀ y ∈ T, d.1 < y.1) (hs : sdT T) : rwQ fy hw n p W T (some d) S := by
  obtain ⟨h1, ⟨h2, h3, h4⟩, h5, h6⟩ := h
  refine ⟨?_, ⟨h2, hs, fun w hw y hy => by have := h6 d rfl w hw; have := hT y hy; omega⟩, h5, h6⟩
  rw [h1, cutT_nil hY, cutT_nil hT]
/-- a thread goes on: its ways go over into the new row -/
theorem rwQ.move {L : List (Int × Gr)} {st : Int} (h : rwQ fy hw n p W (tgT st L ++ Y) c S) (hc : ∀ d : Tw, c = some d → st ≤ d.1) (he : ∀ B : List Tw, slT fy hw n ((W ++ tgT st L) ++ B) = slT fy hw n (W2 ++ B)) (hs : sdT W2) (ht : ∀ w ∈ W2, w.1 ≤ st) (hp : ∀ w ∈ W2, p < w.2.1) (hy : ∀ y ∈ Y, st ≤ y.1) : rwQ fy hw n p W2 Y c S := by
  obtain ⟨h1, ⟨h2, h3, h4⟩, h5, h6⟩ := h
  refine ⟨?_, ⟨hs, (List.pairwise_append.mp h3).2.1, fun w hw y hy2 => by have := ht w hw; have := hy y hy2; omega⟩, hp, fun d hd w hw => by have := ht w hw; have := hc d hd; omega⟩
  rw [h1, cutT_app]
  have e : cutT c (tgT st L) = tgT st L := by
    cases c with
    | none => rfl
    | some d => exact cutT_all (fun y hy => by obtain ⟨z, _, z2⟩ := mem_tgT.mp hy; rw [z2]; exact hc d rfl)
  rw [e, ← List.append_assoc, he]
theorem rwQ.done (h : rwQ fy hw n p [] [] c S) : S = c := by
  rw [h.1]
  have e : cutT c [] = [] := by cases c <;> rfl
  rw [e]
  have z : slT fy hw n ([] ++ []) = none := slT_none.mpr (fun y hy => absurd hy List.not_mem_nil)
  rw [z]
  rfl
end RwQ
