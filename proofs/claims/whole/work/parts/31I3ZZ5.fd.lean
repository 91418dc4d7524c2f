/-! what find finds: the first place with a match, and the match there -/
def wyR (v : Sn) (f : Int → Int) (n : Int) : Int → List (Int × Gr) := fun p => if 0 ≤ p ∧ p ≤ n then v.1.1 f n p (fun _ => -1) else []
theorem wyR_p {v : Sn} {f : Int → Int} {n p : Int} (p0 : 0 ≤ p) (p1 : p ≤ n) : wyR v f n p = v.1.1 f n p (fun _ => -1) := if_pos ⟨p0, p1⟩
theorem wyR_in {v : Sn} {f : Int → Int} {n p : Int} (hb : bytes f n) (p0 : 0 ≤ p) (p1 : p ≤ n) : ∀ x ∈ wyR v f n p, p ≤ x.1 ∧ x.1 ≤ n := fun x hx => by
  rw [wyR_p p0 p1] at hx
  exact v.2 f n p (fun _ => -1) hb p0 p1 x hx
/-- the match from a place on: its place st, its end and its groups -/
def fnR (W : Int → List (Int × Gr)) (fy hw n fr la st : Int) (S : Option (Int × Gr)) : Prop := (S = none ∧ ∀ p : Int, fr ≤ p → p ≤ la → mtR fy hw n (W p) = none) ∨ (¬ S = none ∧ (fr ≤ st ∧ st ≤ la) ∧ mtR fy hw n (W st) = S ∧ ∀ p : Int, fr ≤ p → p < st → mtR fy hw n (W p) = none)
def laR (hw n fr : Int) : Int := if hw = 0 then n else fr
/-- what find finds -/
def fdC (v : Sn) (f : Int → Int) (n fy hw fr wi fo : Int) (SP : Int → Int) : Prop := ∃ (S : Option (Int × Gr)) (st : Int), fnR (wyR v f n) fy hw n fr (laR hw n fr) st S ∧ mch S fo SP wi st
theorem fnR_det {W : Int → List (Int × Gr)} {fy hw n fr la st st2 : Int} {S S2 : Option (Int × Gr)} (h : fnR W fy hw n fr la st S) (q : fnR W fy hw n fr la st2 S2) : S = S2 ∧ (¬ S = none → st = st2) := by
  rcases h with ⟨h1, h2⟩ | ⟨h1, h2, h3, h4⟩ <;> rcases q with ⟨q1, q2⟩ | ⟨q1, q2, q3, q4⟩
  · exact ⟨by rw [h1, q1], fun z => absurd h1 z⟩
  · exact absurd (q3.symm.trans (h2 st2 q2.1 q2.2)) q1
  · exact absurd (h3.symm.trans (q2 st h2.1 h2.2)) h1
  · have e : st = st2 := by
      rcases Int.lt_trichotomy st st2 with z | z | z
      · exact absurd (h3.symm.trans (q4 st h2.1 z)) h1
      · exact z
      · exact absurd (q3.symm.trans (h4 st2 q2.1 z)) q1
    rw [← e] at q3
    exact ⟨h3.symm.trans q3, fun _ => e⟩
/-- places that were tried in vain -/
def noR (W : Int → List (Int × Gr)) (fy hw n fr i : Int) : Prop := ∀ p : Int, fr ≤ p → p < i → mtR fy hw n (W p) = none
theorem noR_0 {W : Int → List (Int × Gr)} {fy hw n fr : Int} : noR W fy hw n fr fr := fun p a b => by omega
theorem noR_s {W : Int → List (Int × Gr)} {fy hw n fr i : Int} (h : noR W fy hw n fr i) (q : mtR fy hw n (W i) = none) : noR W fy hw n fr (i + 1) := fun p a b => by
  by_cases e : p = i
  · rw [e]; exact q
  · exact h p a (by omega)
theorem fdC_y {v : Sn} {f SP : Int → Int} {n fy hw fr wi fo i : Int} (h : noR (wyR v f n) fy hw n fr i) (hm : mch (mtR fy hw n (wyR v f n i)) fo SP wi i) (hf : fo = 1) (hi : fr ≤ i ∧ i ≤ laR hw n fr) : fdC v f n fy hw fr wi fo SP := by
  obtain ⟨y, hy, _⟩ := mch_s hm hf
  exact ⟨_, i, Or.inr ⟨(by rw [hy]; exact fun z => by cases z), hi, rfl, h⟩, hm⟩
theorem fdC_n {v : Sn} {f SP : Int → Int} {n fy hw fr wi fo i : Int} (h : noR (wyR v f n) fy hw n fr i) (hf : fo = 0) (hi : laR hw n fr < i) : fdC v f n fy hw fr wi fo SP := ⟨none, 0, Or.inl ⟨rfl, fun p a b => h p a (by omega)⟩, Or.inl ⟨rfl, hf⟩⟩
theorem bst_mem {hw n : Int} : ∀ (L : List (Int × Gr)) (s : Option (Int × Gr)) (x : Int × Gr), bst hw n s L = some x → s = some x ∨ x ∈ L := by
  intro L
  induction L with
  | nil => intro s x h; exact Or.inl h
  | cons y t ih =>
    intro s x h
    have h2 : bst hw n (upw hw n s y) t = some x := h
    rcases ih _ _ h2 with z | z
    · unfold upw at z
      split at z
      · cases s with
        | none => exact Or.inr (List.mem_cons.mpr (Or.inl (Option.some.inj z).symm))
        | some w =>
          have z2 : (if w.1 < y.1 then some y else some w) = some x := z
          split at z2
          · exact Or.inr (List.mem_cons.mpr (Or.inl (Option.some.inj z2).symm))
          · exact Or.inl z2
      · exact Or.inl z
    · exact Or.inr (List.mem_cons_of_mem _ z)
theorem mtR_mem {fy hw n : Int} {L : List (Int × Gr)} {x : Int × Gr} (h : mtR fy hw n L = some x) : x ∈ L := by
  unfold mtR at h
  split at h
  · exact List.mem_of_find?_eq_some h
  · rcases bst_mem L none x h with z | z
    · cases z
    · exact z
theorem laR_0 {hw n fr : Int} (h : hw = 0) : n = laR hw n fr := (if_pos h).symm
theorem laR_1 {hw n fr : Int} (h : ¬ hw = 0) : fr = laR hw n fr := (if_neg h).symm
