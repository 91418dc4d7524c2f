/-! sizes exactly, up to a cap; the frames of the open groups -/
def ceq (a b : Int) : Prop := a = b ∨ (1000000 ≤ a ∧ 1000000 ≤ b)
theorem ceq.rf {a : Int} : ceq a a := Or.inl rfl
theorem ceq.tr {a b c : Int} (h : ceq a b) (h2 : ceq b c) : ceq a c := by
  unfold ceq at *
  omega
theorem ceq.sm {a b : Int} (h : ceq a b) : ceq b a := by
  unfold ceq at *
  omega
theorem ceq.add {a b c d : Int} (h : ceq a b) (h2 : ceq c d) (ha : 0 ≤ a ∧ 0 ≤ b ∧ 0 ≤ c ∧ 0 ≤ d) : ceq (a + c) (b + d) := by
  unfold ceq at *
  omega
theorem ceq.cap {a b s : Int} (h : ceq a b) (hs : (1000000 ≤ a ∧ s = 1000000) ∨ (a < 1000000 ∧ s = a)) : ceq s b := by
  unfold ceq at *
  omega
theorem ceq.mul {a b t m : Int} (h : ceq a b) (ht : 0 ≤ t) (hm : 0 ≤ m) : ceq (t * a + m) (t * b + m) := by
  rcases h with h | ⟨h1, h2⟩
  · rw [h]; exact ceq.rf
  · by_cases e : t = 0
    · rw [e, Int.zero_mul, Int.zero_mul]; exact ceq.rf
    · have a1 : 1 * a ≤ t * a := Int.mul_le_mul_of_nonneg_right (by omega) (by omega)
      have b1 : 1 * b ≤ t * b := Int.mul_le_mul_of_nonneg_right (by omega) (by omega)
      exact Or.inr ⟨by omega, by omega⟩
theorem ceq.cl {a b : Int} (h : ceq b a) : cl9 a b := by
  unfold ceq cl9 at *
  omega
theorem ceq.big {a b : Int} (h : ceq a b) : 400 < a ↔ 400 < b := by
  unfold ceq at h
  omega
abbrev Fr := Int × Int × Int × Int × Int
def frm (G : ab_G) (ps : Nat → Nat) (cu : Nat → Int) : List Fr → Nat → Value → Prop
  | [], _, v => v = vN
  | (pl, fo, nu, al, rw) :: t, hi, v => ∃ g r : Nat, v = vR g ∧ (ps g = 90 ∧ g < hi) ∧ (ps r = 94 ∧ fv G g 6 = vR r) ∧ (fi G g 3 = pl ∧ fi G g 4 = fo ∧ fi G g 1 = nu) ∧ (ceq (fi G r 8) rw ∧ ceq (lvb cu (fv G r 7)) al) ∧ (0 ≤ fi G r 8 ∧ 0 ≤ rw ∧ 0 ≤ al) ∧ frm G ps cu t g (fv G g 5)
theorem frm.tr {G G2 : ab_G} {ps ps2 : Nat → Nat} {cu cu2 : Nat → Int} : ∀ (l : List Fr) (hi : Nat) (v : Value), frm G ps cu l hi v → (∀ g r, ps g = 90 → g < hi → ps r = 94 → fv G g 6 = vR r → (ps2 g = 90 ∧ ps2 r = 94) ∧ (fv G2 g 6 = fv G g 6 ∧ fv G2 g 5 = fv G g 5 ∧ fi G2 g 3 = fi G g 3 ∧ fi G2 g 4 = fi G g 4 ∧ fi G2 g 1 = fi G g 1) ∧ (fi G2 r 8 = fi G r 8 ∧ lvb cu2 (fv G2 r 7) = lvb cu (fv G r 7))) → frm G2 ps2 cu2 l hi v := by
  intro l
  induction l with
  | nil => intro hi v h _; exact h
  | cons x t ih =>
    intro hi v h q
    obtain ⟨pl, fo, nu, al, rw'⟩ := x
    obtain ⟨g, r, h1, ⟨h2, h3⟩, ⟨h4, h5⟩, ⟨f3, f4, f1⟩, ⟨c1, c2⟩, hz, h6⟩ := h
    obtain ⟨⟨q1, q2⟩, ⟨e6, e5, e3, e4, e1⟩, e8, e7⟩ := q g r h2 h3 h4 h5
    refine ⟨g, r, h1, ⟨q1, h3⟩, ⟨q2, by rw [e6]; exact h5⟩, ⟨by rw [e3]; exact f3, by rw [e4]; exact f4, by rw [e1]; exact f1⟩, ⟨by rw [e8]; exact c1, by rw [e7]; exact c2⟩, ⟨by rw [e8]; exact hz.1, hz.2⟩, ?_⟩
    rw [e5]
    exact ih g _ h6 (fun x y hx hl hy hv => q x y hx (by omega) hy hv)
theorem frm.up {G : ab_G} {ps : Nat → Nat} {cu : Nat → Int} {l : List Fr} {hi hi2 : Nat} {v : Value} (h : frm G ps cu l hi v) (hh : hi ≤ hi2) : frm G ps cu l hi2 v := by
  cases l with
  | nil => exact h
  | cons x t =>
    obtain ⟨pl, fo, nu, al, rw'⟩ := x
    obtain ⟨g, r, h1, ⟨h2, h3⟩, h4⟩ := h
    exact ⟨g, r, h1, ⟨h2, by omega⟩, h4⟩
theorem lvb_eq {cu cu2 : Nat → Int} {p : Nat} {v : Value} (h : ∀ x, ¬ x = p → cu2 x = cu x) (hv : ¬ v = vR p) : lvb cu2 v = lvb cu v := by
  cases v with
  | ref b =>
    show 1 + cu2 b = 1 + cu b
    rw [h b (fun t => hv (by rw [t]))]
  | _ => rfl
theorem lvb_eq2 {cu cu2 : Nat → Int} {p r : Nat} {v : Value} (h : ∀ x, ¬ x = p → ¬ x = r → cu2 x = cu x) (hv : ¬ v = vR p) (hr : ¬ v = vR r) : lvb cu2 v = lvb cu v := by
  cases v with
  | ref b =>
    show 1 + cu2 b = 1 + cu b
    rw [h b (fun t => hv (by rw [t])) (fun t => hr (by rw [t]))]
  | _ => rfl
/-- what is read: the open groups' frames, and the part that was just made with its size -/
def szJ (_o : Nat → Nat) (G : ab_G) (_z : Nat) (ps : Nat → Nat) (fr : List Fr) (hi : Nat) (v : Value) (wh pn : Nat) (psz : Int) : Prop := ∃ cu : Nat → Int, szX G ps cu ∧ sopn G ps wh fr.length hi v ∧ frm G ps cu fr hi v ∧ (pn = 0 ∨ (clp G ps cu pn ∧ ceq (fi G pn 8) psz ∧ 0 ≤ psz))
theorem szJ.same {o o2 : Nat → Nat} {G G2 : ab_G} {z : Nat} {ps : Nat → Nat} {fr : List Fr} {hi : Nat} {v : Value} {wh pn : Nat} {psz : Int} (h : szJ o G z ps fr hi v wh pn psz) (e : ∀ x, (ps x = 90 ∨ ps x = 94) → G2[x]? = G[x]?) : szJ o2 G2 z ps fr hi v wh pn psz := by
  obtain ⟨cu, hx, hs, hf, hp⟩ := h
  have ei : ∀ g, (ps g = 90 ∨ ps g = 94) → ∀ i, fi G2 g i = fi G g i := fun g hg i => fi_pf (pf_eq (e g hg))
  have ev : ∀ g, (ps g = 90 ∨ ps g = 94) → ∀ i, fv G2 g i = fv G g i := fun g hg i => fv_pf (pf_eq (e g hg))
  refine ⟨cu, hx.same (fun x hx i _ => pf_eq (e x hx)), sopn.tr _ hi v hs (fun g hg _ hu => ⟨⟨hg, hu.same e⟩, ei g (.inl hg) 0, ei g (.inl hg) 1, ei g (.inl hg) 8, ei g (.inl hg) 11, ei g (.inl hg) 12, ev g (.inl hg) 5⟩), frm.tr _ _ _ hf (fun g r hg _ hr _ => ⟨⟨hg, hr⟩, ⟨ev g (.inl hg) 6, ev g (.inl hg) 5, ei g (.inl hg) 3, ei g (.inl hg) 4, ei g (.inl hg) 1⟩, ei r (.inr hr) 8, by rw [ev r (.inr hr) 7]⟩), ?_⟩
  rcases hp with hp | ⟨⟨h1, h2, h3⟩, h4, h5⟩
  · exact Or.inl hp
  · refine Or.inr ⟨⟨h1, h2.same e, ?_⟩, ?_, h5⟩
    · rw [ei pn (.inl h1) 0, ei pn (.inl h1) 1, ei pn (.inl h1) 8, ev pn (.inl h1) 6]
      exact h3
    · rw [ei pn (.inl h1) 8]
      exact h4
theorem szJ.fzk {o o2 : Nat → Nat} {G G2 : ab_G} {z : Nat} {ps : Nat → Nat} {fr : List Fr} {hi : Nat} {v : Value} {wh pn : Nat} {psz : Int} (h : szJ o G z ps fr hi v wh pn psz) (hf : fz ps [] G G2) : szJ o2 G2 z ps fr hi v wh pn psz := h.same (fun x hx => hf x hx List.not_mem_nil)
theorem szJ.fr {o o2 : Nat → Nat} {S : List Nat} {G G2 : ab_G} {z : Nat} {ps wt : Nat → Nat} {bs : Nat} {gr : Int} {Pr : Int → Prop} {ph : Int} {fr : List Fr} {hi : Nat} {v : Value} {wh pn : Nat} {psz : Int} (hf : fx o o2 S G G2) (hp : paI o G z ps wt bs gr Pr ph) (h : szJ o G z ps fr hi v wh pn psz) (h90 : ¬ 90 ∈ S) (h94 : ¬ 94 ∈ S) : szJ o2 G2 z ps fr hi v wh pn psz := h.fzk (fz.fx hp hf h90 h94)
theorem szJ.up {o : Nat → Nat} {G : ab_G} {z : Nat} {ps : Nat → Nat} {fr : List Fr} {hi hi2 : Nat} {v : Value} {wh pn : Nat} {psz : Int} (h : szJ o G z ps fr hi v wh pn psz) (hh : hi ≤ hi2) : szJ o G z ps fr hi2 v wh pn psz := by
  obtain ⟨cu, hx, hs, hf, hp⟩ := h
  exact ⟨cu, hx, hs.up hh, hf.up hh, hp⟩
theorem szJ.drop {o : Nat → Nat} {G : ab_G} {z : Nat} {ps : Nat → Nat} {fr : List Fr} {hi : Nat} {v : Value} {wh pn : Nat} {psz : Int} (h : szJ o G z ps fr hi v wh pn psz) : szJ o G z ps fr hi v wh 0 0 := by
  obtain ⟨cu, hx, hs, hf, hp⟩ := h
  exact ⟨cu, hx, hs, hf, Or.inl rfl⟩
theorem szJ.wnp {o : Nat → Nat} {G G2 : ab_G} {z : Nat} {ps : Nat → Nat} {fr : List Fr} {hi a : Nat} {v : Value} {wh pn : Nat} {psz : Int} {E : ab_E} (h : szJ o G z ps fr hi v wh pn psz) (e : G2 = List.set G a E) (hp : ¬ ps a = 90 ∧ ¬ ps a = 94) : szJ o G2 z ps fr hi v wh pn psz :=
  h.same (fun x hq => by rw [e, List.getElem?_set_ne (fun t => by rw [← t] at hq; rcases hq with y | y; (exact hp.1 y); (exact hp.2 y))])
theorem szJ.leaf {o : Nat → Nat} {G : ab_G} {z : Nat} {ps ps2 : Nat → Nat} {fr : List Fr} {hi : Nat} {v : Value} {wh p : Nat} {s : Int} (h : szJ o G z ps fr hi v wh 0 0) (hl : leafp ps ps2 G p) (hs : ceq (fi G p 8) s) (h0 : 0 ≤ s) : szJ o G z ps2 fr hi v wh p s := by
  obtain ⟨cu, hx, hso, hf, _⟩ := h
  obtain ⟨cu2, ⟨a1, a2, a3⟩, a4⟩ := hx.leaf hso hl
  obtain ⟨hn, hp, l1, _⟩ := hl
  refine ⟨cu2, a1, a2, frm.tr _ _ _ hf (fun g r hg _ hr _ => ?_), Or.inr ⟨a3, hs, h0⟩⟩
  have e1 : ¬ g = p := fun t => hp.1 (t ▸ hg)
  have e2 : ¬ r = p := fun t => hp.2 (t ▸ hr)
  exact ⟨⟨by rw [l1 g e1]; exact hg, by rw [l1 r e2]; exact hr⟩, ⟨rfl, rfl, rfl, rfl, rfl⟩, rfl, lvb_eq a4 (hn.2 r hr).2⟩
