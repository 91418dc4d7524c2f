/-! sizes exactly, up to a cap; the frames of the open groups -/
def ceq (a b : Int) : Prop := a = b ∨ (1000000 ≤ a ∧ 1000000 ≤ b)
theorem ceq.rf {a : Int} : ceq a a := Or.inl rfl
theorem ceq.tr {a b c : Int} (h : ceq a b) (h2 : ceq b c) : ceq a c := by
  unfold ceq at *
  omega
theorem ceq.sm {a b : Int} (h : ceq a b) : ceq b a := by
  unfold ceq at *
  omega
theorem ceq.add {a b c d : Int} (h : ceq a b) (h2 : ceq c d) (ha : 0 ≤ a ∧ 0 ≤ b ∧ 0 ≤ c ∧ 0 ≤ d) : ceq (a + c) (b + d) := by
  unfold ceq at *
  omega
theorem ceq.cap {a b s : Int} (h : ceq a b) (hs : (1000000 ≤ a ∧ s = 1000000) ∨ (a < 1000000 ∧ s = a)) : ceq s b := by
  unfold ceq at *
  omega
theorem ceq.mul {a b t m : Int} (h : ceq a b) (ht : 0 ≤ t) (hm : 0 ≤ m) : ceq (t * a + m) (t * b + m) := by
  rcases h with h | ⟨h1, h2⟩
  · rw [h]; exact ceq.rf
  · by_cases e : t = 0
    · rw [e, Int.zero_mul, Int.zero_mul]; exact ceq.rf
    · have a1 : 1 * a ≤ t * a := Int.mul_le_mul_of_nonneg_right (by omega) (by omega)
      have b1 : 1 * b ≤ t * b := Int.mul_le_mul_of_nonneg_right (by omega) (by omega)
      exact Or.inr ⟨by omega, by omega⟩
theorem ceq.cl {a b : Int} (h : ceq b a) : cl9 a b := by
  unfold ceq cl9 at *
  omega
theorem ceq.big {a b : Int} (h : ceq a b) : 400 < a ↔ 400 < b := by
  unfold ceq at h
  omega
abbrev Fr := Int × Int × Int × Int × Int
def frm (G : ab_G) (ps : Nat → Nat) (cu : Nat → Int) : List Fr → Nat → Value → Prop
  | [], _, v => v = vN
  | (pl, fo, nu, al, rw) :: t, hi, v => ∃ g r : Nat, v = vR g ∧ (ps g = 90 ∧ g < hi) ∧ (ps r = 94 ∧ fv G g 6 = vR r) ∧ (fi G g 3 = pl ∧ fi G g 4 = fo ∧ fi G g 1 = nu) ∧ (ceq (fi G r 8) rw ∧ ceq (lvb cu (fv G r 7)) al) ∧ (0 ≤ fi G r 8 ∧ 0 ≤ rw ∧ 0 ≤ al) ∧ frm G ps cu t g (fv G g 5)
theorem frm.tr {G G2 : ab_G} {ps ps2 : Nat → Nat} {cu cu2 : Nat → Int} : ∀ (l : List Fr) (hi : Nat) (v : Value), frm G ps cu l hi v → (∀ g r, ps g = 90 → g < hi → ps r = 94 → fv G g 6 = vR r → (ps2 g = 90 ∧ ps2 r = 94) ∧ (fv G2 g 6 = fv G g 6 ∧ fv G2 g 5 = fv G g 5 ∧ fi G2 g 3 = fi G g 3 ∧ fi G2 g 4 = fi G g 4 ∧ fi G2 g 1 = fi G g 1) ∧ (fi G2 r 8 = fi G r 8 ∧ lvb cu2 (fv G2 r 7) = lvb cu (fv G r 7))) → frm G2 ps2 cu2 l hi v := by
  intro l
  induction l with
  | nil => intro hi v h _; exact h
  | cons x t ih =>
    intro hi v h q
    obtain ⟨pl, fo, nu, al, rw'⟩ := x
    obtain ⟨g, r, h1, ⟨h2, h3⟩, ⟨h4, h5⟩, ⟨f3, f4, f1⟩, ⟨c1, c2⟩, hz, h6⟩ := h
    obtain ⟨⟨q1, q2⟩, ⟨e6, e5, e3, e4, e1⟩, e8, e7⟩ := q g r h2 h3 h4 h5
    refine ⟨g, r, h1, ⟨q1, h3⟩, ⟨q2, by rw [e6]; exact h5⟩, ⟨by rw [e3]; exact f3, by rw [e4]; exact f4, by rw [e1]; exact f1⟩, ⟨by rw [e8]; exact c1, by rw [e7]; exact c2⟩, ⟨by rw [e8]; exact hz.1, hz.2⟩, ?_⟩
    rw [e5]
    exact ih g _ h6 (fun x y hx hl hy hv => q x y hx (by omega) hy hv)
theorem frm.up {G : ab_G} {ps : Nat → Nat} {cu : Nat → Int} {l : List Fr} {hi hi2 : Nat} {v : Value} (h : frm G ps cu l hi v) (hh : hi ≤ hi2) : frm G ps cu l hi2 v := by
  cases l with
  | nil => exact h
  | cons x t =>
    obtain ⟨pl, fo, nu, al, rw'⟩ := x
    obtain ⟨g, r, h1, ⟨h2, h3⟩, h4⟩ := h
    exact ⟨g, r, h1, ⟨h2, by omega⟩, h4⟩
theorem lvb_eq {cu cu2 : Nat → Int} {p : Nat} {v : Value} (h : ∀ x, ¬ x = p → cu2 x = cu x) (hv : ¬ v = vR p) : lvb cu2 v = lvb cu v := by
  cases v with
  | ref b =>
    show 1 + cu2 b = 1 + cu b
    rw [h b (fun t => hv (by rw [t]))]
  | _ => rfl
theorem lvb_eq2 {cu cu2 : Nat → Int} {p r : Nat} {v : Value} (h : ∀ x, ¬ x = p → ¬ x = r → cu2 x = cu x) (hv : ¬ v = vR p) (hr : ¬ v = vR r) : lvb cu2 v = lvb cu v := by
  cases v with
  | ref b =>
    show 1 + cu2 b = 1 + cu b
    rw [h b (fun t => hv (by rw [t])) (fun t => hr (by rw [t]))]
  | _ => rfl
/-- what is read: the open groups' frames, and the part that was just made with its size -/
def szJ (_o : Nat → Nat) (G : ab_G) (_z : Nat) (ps : Nat → Nat) (fr : List Fr) (hi : Nat) (v : Value) (wh pn : Nat) (psz : Int) : Prop := ∃ cu : Nat → Int, szX G ps cu ∧ sopn G ps wh fr.length hi v ∧ frm G ps cu fr hi v ∧ (pn = 0 ∨ (clp G ps cu pn ∧ ceq (fi G pn 8) psz ∧ 0 ≤ psz))
theorem szJ.same {o o2 : Nat → Nat} {G G2 : ab_G} {z : Nat} {ps : Nat → Nat} {fr : List Fr} {hi : Nat} {v : Value} {wh pn : Nat} {psz : Int} (h : szJ o G z ps fr hi v wh pn psz) (e : ∀ x, (ps x = 90 ∨ ps x = 94) → G2[x]? = G[x]?) : szJ o2 G2 z ps fr hi v wh pn psz := by
  obtain ⟨cu, hx, hs, hf, hp⟩ := h
  have ei : ∀ g, (ps g = 90 ∨ ps g = 94) → ∀ i, fi G2 g i = fi G g i := fun g hg i => fi_pf (pf_eq (e g hg))
  have ev : ∀ g, (ps g = 90 ∨ ps g = 94) → ∀ i, fv G2 g i = fv G g i := fun g hg i => fv_pf (pf_eq (e g hg))
  refine ⟨cu, hx.same (fun x hx i _ => pf_eq (e x hx)), sopn.tr _ hi v hs (fun g hg _ hu => ⟨⟨hg, hu.same e⟩, ei g (.inl hg) 0, ei g (.inl hg) 1, ei g (.inl hg) 8, ei g (.inl hg) 11, ei g (.inl hg) 12, ev g (.inl hg) 5⟩), frm.tr _ _ _ hf (fun g r hg _ hr _ => ⟨⟨hg, hr⟩, ⟨ev g (.inl hg) 6, ev g (.inl hg) 5, ei g (.inl hg) 3, ei g (.inl hg) 4, ei g (.inl hg) 1⟩, ei r (.inr hr) 8, by rw [ev r (.inr hr) 7]⟩), ?_⟩
  rcases hp with hp | ⟨⟨h1, h2, h3⟩, h4, h5⟩
  · exact Or.inl hp
  · refine Or.inr ⟨⟨h1, h2.same e, ?_⟩, ?_, h5⟩
    · rw [ei pn (.inl h1) 0, ei pn (.inl h1) 1, ei pn (.inl h1) 8, ev pn (.inl h1) 6]
      exact h3
    · rw [ei pn (.inl h1) 8]
      exact h4
theorem szJ.fzk {o o2 : Nat → Nat} {G G2 : ab_G} {z : Nat} {ps : Nat → Nat} {fr : List Fr} {hi : Nat} {v : Value} {wh pn : Nat} {psz : Int} (h : szJ o G z ps fr hi v wh pn psz) (hf : fz ps [] G G2) : szJ o2 G2 z ps fr hi v wh pn psz := h.same (fun x hx => hf x hx List.not_mem_nil)
theorem szJ.fr {o o2 : Nat → Nat} {S : List Nat} {G G2 : ab_G} {z : Nat} {ps : Nat → Nat} {wt : Nat → Wt} {bs : Nat} {gr : Int} {Pr : Int → Prop} {ph : Int} {fr : List Fr} {hi : Nat} {v : Value} {wh pn : Nat} {psz : Int} (hf : fx o o2 S G G2) (hp : paI o G z ps wt bs gr Pr ph) (h : szJ o G z ps fr hi v wh pn psz) (h90 : ¬ 90 ∈ S) (h94 : ¬ 94 ∈ S) : szJ o2 G2 z ps fr hi v wh pn psz := h.fzk (fz.fx hp hf h90 h94)
theorem szJ.up {o : Nat → Nat} {G : ab_G} {z : Nat} {ps : Nat → Nat} {fr : List Fr} {hi hi2 : Nat} {v : Value} {wh pn : Nat} {psz : Int} (h : szJ o G z ps fr hi v wh pn psz) (hh : hi ≤ hi2) : szJ o G z ps fr hi2 v wh pn psz := by
  obtain ⟨cu, hx, hs, hf, hp⟩ := h
  exact ⟨cu, hx, hs.up hh, hf.up hh, hp⟩
theorem szJ.drop {o : Nat → Nat} {G : ab_G} {z : Nat} {ps : Nat → Nat} {fr : List Fr} {hi : Nat} {v : Value} {wh pn : Nat} {psz : Int} (h : szJ o G z ps fr hi v wh pn psz) : szJ o G z ps fr hi v wh 0 0 := by
  obtain ⟨cu, hx, hs, hf, hp⟩ := h
  exact ⟨cu, hx, hs, hf, Or.inl rfl⟩
theorem szJ.wnp {o : Nat → Nat} {G G2 : ab_G} {z : Nat} {ps : Nat → Nat} {fr : List Fr} {hi a : Nat} {v : Value} {wh pn : Nat} {psz : Int} {E : ab_E} (h : szJ o G z ps fr hi v wh pn psz) (e : G2 = List.set G a E) (hp : ¬ ps a = 90 ∧ ¬ ps a = 94) : szJ o G2 z ps fr hi v wh pn psz :=
  h.same (fun x hq => by rw [e, List.getElem?_set_ne (fun t => by rw [← t] at hq; rcases hq with y | y; (exact hp.1 y); (exact hp.2 y))])
theorem szJ.leaf {o : Nat → Nat} {G : ab_G} {z : Nat} {ps ps2 : Nat → Nat} {fr : List Fr} {hi : Nat} {v : Value} {wh p : Nat} {s : Int} (h : szJ o G z ps fr hi v wh 0 0) (hl : leafp ps ps2 G p) (hs : ceq (fi G p 8) s) (h0 : 0 ≤ s) : szJ o G z ps2 fr hi v wh p s := by
  obtain ⟨cu, hx, hso, hf, _⟩ := h
  obtain ⟨cu2, ⟨a1, a2, a3⟩, a4⟩ := hx.leaf hso hl
  obtain ⟨hn, hp, l1, _⟩ := hl
  refine ⟨cu2, a1, a2, frm.tr _ _ _ hf (fun g r hg _ hr _ => ?_), Or.inr ⟨a3, hs, h0⟩⟩
  have e1 : ¬ g = p := fun t => hp.1 (t ▸ hg)
  have e2 : ¬ r = p := fun t => hp.2 (t ▸ hr)
  exact ⟨⟨by rw [l1 g e1]; exact hg, by rw [l1 r e2]; exact hr⟩, ⟨rfl, rfl, rfl, rfl, rfl⟩, rfl, lvb_eq a4 (hn.2 r hr).2⟩
theorem szJ.bar {o o2 : Nat → Nat} {G G2 : ab_G} {z : Nat} {ps ps2 : Nat → Nat} {hi g rn wh : Nat} {pl fo nu al rw' : Int} {t : List Fr} (h : szJ o G z ps ((pl, fo, nu, al, rw') :: t) hi (vR g) wh 0 0) (hf : ∀ x, (ps x = 90 ∨ ps x = 94) → ¬ x = g → G2[x]? = G[x]?) (hn : nref G ps rn) (hp : ¬ ps rn = 90 ∧ ¬ ps rn = 94) (l1 : ∀ x, ¬ x = rn → ps2 x = ps x) (l2 : ps2 rn = 94) (hg : ∀ i, i < 14 → ¬ i = 6 → pf G2 g i = pf G g i) (g6 : fv G2 g 6 = vR rn) (r6 : fv G2 rn 6 = vN) (r7 : fv G2 rn 7 = fv G g 6) (r8 : fi G2 rn 8 = 0) (h8 : 0 ≤ fi G g 8) : szJ o2 G2 z ps2 ((pl, fo, nu, al + rw' + 1, 0) :: t) hi (vR g) wh 0 0 := by
  obtain ⟨cu, hx, hs, hfr, _⟩ := h
  obtain ⟨cu2, ⟨a1, a2⟩, a3, a4⟩ := szX.bar (k := t.length) rfl hx hs hf hn hp l1 l2 hg g6 r6 r7 r8 h8
  obtain ⟨g', r, hv, ⟨hg2, hg3⟩, ⟨hr, hgr⟩, ⟨f3, f4, f1⟩, ⟨c1, c2⟩, hz, htl⟩ := hfr
  have hv := vRR hv
  subst hv
  have gr : ¬ g = rn := fun e => hp.1 (e ▸ hg2)
  have rr : ¬ r = rn := fun e => hp.2 (e ▸ hr)
  refine ⟨cu2, a1, a2, ⟨g, rn, rfl, ⟨by rw [l1 g gr]; exact hg2, hg3⟩, ⟨l2, g6⟩, ⟨(fi_pf (hg 3 (by decide) (by decide))).trans f3, (fi_pf (hg 4 (by decide) (by decide))).trans f4, (fi_pf (hg 1 (by decide) (by decide))).trans f1⟩, ⟨by rw [r8]; exact ceq.rf, ?_⟩, ⟨by omega, by omega, by omega⟩, ?_⟩, Or.inl rfl⟩
  · rw [r7, hgr]
    have e := (hx.2.1 r hr).2
    have n0 := lvb_0 hx.1 (fv G r 7)
    have q := c1.add c2 ⟨hz.1, hz.2.1, n0, hz.2.2⟩
    rw [← e, ← a4 r rr] at q
    show ceq (1 + cu2 r) (al + rw' + 1)
    unfold ceq at *
    omega
  · rw [fv_pf (hg 5 (by decide) (by decide))]
    refine frm.tr _ _ _ htl (fun x y hx' hl hy _ => ?_)
    have xg : ¬ x = g := by omega
    have xn : ¬ x = rn := fun e => hp.1 (e ▸ hx')
    have yn : ¬ y = rn := fun e => hp.2 (e ▸ hy)
    have yg : ¬ y = g := fun e => by rw [e, hg2] at hy; omega
    have ex := hf x (.inl hx') xg
    have ey := hf y (.inr hy) yg
    exact ⟨⟨by rw [l1 x xn]; exact hx', by rw [l1 y yn]; exact hy⟩, ⟨fv_pf (pf_eq ex), fv_pf (pf_eq ex), fi_pf (pf_eq ex), fi_pf (pf_eq ex), fi_pf (pf_eq ex)⟩, fi_pf (pf_eq ey), by rw [fv_pf (pf_eq ey)]; exact lvb_eq a4 (hn.2 y hy).2⟩
theorem szJ.ent {o o2 : Nat → Nat} {G G2 : ab_G} {z : Nat} {ps ps2 : Nat → Nat} {hi hi2 gn rn wh : Nat} {v : Value} {fr : List Fr} {pl fo nu : Int} (h : szJ o G z ps fr hi v wh 0 0) (hf : ∀ x, (ps x = 90 ∨ ps x = 94) → G2[x]? = G[x]?) (ng : nref G ps gn) (nr : nref G ps rn) (hpg : ¬ ps gn = 90 ∧ ¬ ps gn = 94) (hpr : ¬ ps rn = 90 ∧ ¬ ps rn = 94) (l1 : ∀ x, ¬ x = gn → ¬ x = rn → ps2 x = ps x) (lg : ps2 gn = 90) (lr : ps2 rn = 94) (hg : fi G2 gn 0 = 4 ∧ fi G2 gn 8 = pin 4 (fi G2 gn 1) ∧ fi G2 gn 11 = 0 ∧ fi G2 gn 12 = 0) (g5 : fv G2 gn 5 = v) (g6 : fv G2 gn 6 = vR rn) (g7 : fv G2 gn 7 = vN) (r6 : fv G2 rn 6 = vN) (r7 : fv G2 rn 7 = vN) (r8 : fi G2 rn 8 = 0) (h1 : hi ≤ gn) (h2 : gn < hi2) (hw : fr.length = 0 → gn = wh) (e3 : fi G2 gn 3 = pl ∧ fi G2 gn 4 = fo ∧ fi G2 gn 1 = nu) : szJ o2 G2 z ps2 ((pl, fo, nu, 0, 0) :: fr) hi2 (vR gn) wh 0 0 := by
  obtain ⟨cu, hx, hs, hfr, _⟩ := h
  obtain ⟨cu2, ⟨a1, a2⟩, a4⟩ := szX.ent hx hs hf ng nr hpg hpr l1 lg lr hg g5 g6 g7 r6 r7 r8 h1 h2 hw
  refine ⟨cu2, a1, a2, ⟨gn, rn, rfl, ⟨lg, h2⟩, ⟨lr, g6⟩, e3, ⟨by rw [r8]; exact ceq.rf, by rw [r7]; exact Or.inl rfl⟩, ⟨by omega, by omega, by omega⟩, ?_⟩, Or.inl rfl⟩
  rw [g5]
  refine frm.tr _ _ _ (hfr.up h1) (fun x y hx' _ hy _ => ?_)
  have x1 : ¬ x = gn := fun e => hpg.1 (e ▸ hx')
  have x2 : ¬ x = rn := fun e => hpr.1 (e ▸ hx')
  have y1 : ¬ y = gn := fun e => hpg.2 (e ▸ hy)
  have y2 : ¬ y = rn := fun e => hpr.2 (e ▸ hy)
  have ex := hf x (.inl hx')
  have ey := hf y (.inr hy)
  exact ⟨⟨by rw [l1 x x1 x2]; exact hx', by rw [l1 y y1 y2]; exact hy⟩, ⟨fv_pf (pf_eq ex), fv_pf (pf_eq ex), fi_pf (pf_eq ex), fi_pf (pf_eq ex), fi_pf (pf_eq ex)⟩, fi_pf (pf_eq ey), by rw [fv_pf (pf_eq ey)]; exact lvb_eq2 a4 (ng.2 y hy).2 (nr.2 y hy).2⟩
theorem szJ.none {o : Nat → Nat} {G : ab_G} {z : Nat} {ps : Nat → Nat} {hi wh : Nat} (h : ∀ x, ¬ ps x = 90 ∧ ¬ ps x = 94) : szJ o G z ps [] hi vN wh 0 0 := by
  obtain ⟨cu, hx, hs, _⟩ := szI.none (o := o) (G := G) (z := z) (hi := hi) (wh := wh) h
  exact ⟨cu, hx, hs, rfl, Or.inl rfl⟩
theorem szX.cloJ {o2 : Nat → Nat} {G G2 : ab_G} {z : Nat} {ps : Nat → Nat} {cu : Nat → Int} {hi g wh : Nat} {pl fo nu al rw' : Int} {t : List Fr} (hx : szX G ps cu) (hs : sopn G ps wh (t.length + 1) hi (vR g)) (hfr : frm G ps cu ((pl, fo, nu, al, rw') :: t) hi (vR g)) (ht : typ G ps) (hf : ∀ x, (ps x = 90 ∨ ps x = 94) → ¬ x = g → G2[x]? = G[x]?) (hg : ∀ i, i < 14 → ¬ i = 8 → ¬ i = 9 → pf G2 g i = pf G g i) (h8 : 0 ≤ fi G2 g 8) (hc : ceq (fi G2 g 8) (fi G g 8 + lvc cu (fv G g 6))) : szJ o2 G2 z ps t g (fv G g 5) wh g (pin 4 nu + rw' + al) := by
  obtain ⟨cu2, ⟨a1, a2, a3⟩, a4⟩ := szX.clo (o2 := o2) (z := z) hx hs ht hf hg h8 hc.cl
  obtain ⟨g', r, hv, ⟨hg2, hg3⟩, ⟨hr, hgr⟩, ⟨f3, f4, f1⟩, ⟨c1, c2⟩, hz, htl⟩ := hfr
  have hv := vRR hv
  subst hv
  obtain ⟨g', hv, _, ⟨_, f8, _, _⟩, _⟩ := hs
  have hv := vRR hv
  subst hv
  have n0 := lvb_0 hx.1 (fv G r 7)
  have p0 := pin_0 4 nu
  refine ⟨cu2, a1, a2, frm.tr _ _ _ htl (fun x y hx' hl hy _ => ?_), Or.inr ⟨a3, ?_, by omega⟩⟩
  · have xg : ¬ x = g := by omega
    have yg : ¬ y = g := fun e => by rw [e, hg2] at hy; omega
    have ex := hf x (.inl hx') xg
    have ey := hf y (.inr hy) yg
    exact ⟨⟨hx', hy⟩, ⟨fv_pf (pf_eq ex), fv_pf (pf_eq ex), fi_pf (pf_eq ex), fi_pf (pf_eq ex), fi_pf (pf_eq ex)⟩, fi_pf (pf_eq ey), by rw [fv_pf (pf_eq ey)]; exact lvb_eq a4 (fun e => by have := (ht.2 y g hy).2 e; omega)⟩
  · rw [f8, f1, hgr, lvc_r, (hx.2.1 r hr).2] at hc
    have q := c1.add c2 ⟨hz.1, hz.2.1, n0, hz.2.2⟩
    unfold ceq at *
    omega
theorem szJ.app {o o2 : Nat → Nat} {G G2 : ab_G} {z : Nat} {ps : Nat → Nat} {hi p g r wh : Nat} {pl fo nu al rw' psz : Int} {t : List Fr} (h : szJ o G z ps ((pl, fo, nu, al, rw') :: t) hi (vR g) wh p psz) (ht : typ G ps) (hhi : hi ≤ p ∧ 0 < p) (hf : ∀ x, (ps x = 90 ∨ ps x = 94) → ¬ x = r → ¬ x = p → G2[x]? = G[x]?) (hr : ps r = 94) (g6 : fv G g 6 = vR r) (p0 : fi G2 p 0 = fi G p 0) (p1 : fi G2 p 1 = fi G p 1) (p6 : fv G2 p 6 = fv G p 6) (p7 : fv G2 p 7 = fv G r 6) (p8 : ceq (fi G2 p 8) (tms (fi G2 p 11) (fi G2 p 12) * fi G p 8 + mre (fi G2 p 11) (fi G2 p 12))) (pn : 0 ≤ fi G2 p 8 ∧ 0 ≤ fi G2 p 11 ∧ fi G2 p 11 ≤ fi G2 p 12) (r6 : fv G2 r 6 = vR p) (r7 : fv G2 r 7 = fv G r 7) (r8 : ceq (fi G2 r 8) (fi G r 8 + fi G2 p 8)) (rn : 0 ≤ fi G2 r 8) : szJ o2 G2 z ps ((pl, fo, nu, al, rw' + (tms (fi G2 p 11) (fi G2 p 12) * psz + mre (fi G2 p 11) (fi G2 p 12))) :: t) hi (vR g) wh 0 0 := by
  obtain ⟨cu, hx, hs, hfr, hq⟩ := h
  rcases hq with hq | ⟨hq, hq2, hq3⟩
  · omega
  obtain ⟨cu2, ⟨a1, a2⟩, a4⟩ := szX.app (k := t.length) rfl hx hs hq ht hhi hf hr g6 p0 p1 p6 p7 p8.cl pn r6 r7 r8.cl rn
  obtain ⟨c0, d1, d2, c3, c4⟩ := hx
  obtain ⟨g', r', hv, ⟨hg2, hg3⟩, ⟨hr', hgr⟩, ⟨f3, f4, f1⟩, ⟨c1, c2⟩, hz, htl⟩ := hfr
  have hv := vRR hv
  subst hv
  have er : r' = r := vRR (hgr.symm.trans g6)
  subst er
  have gp : ¬ g = p := by omega
  have gr : ¬ g = r' := fun e => by rw [← e, hg2] at hr; omega
  have eg := hf g (.inl hg2) gr gp
  have h90 := hq.1
  have m0 : 0 ≤ mre (fi G2 p 11) (fi G2 p 12) := by unfold mre; split <;> omega
  have t0 : 0 ≤ tms (fi G2 p 11) (fi G2 p 12) := by unfold tms; split <;> omega
  have q8 := p8.tr (hq2.mul t0 m0)
  have n1 : 0 ≤ tms (fi G2 p 11) (fi G2 p 12) * psz := Int.mul_nonneg t0 hq3
  refine ⟨cu2, a1, a2, ⟨g, r', rfl, ⟨hg2, hg3⟩, ⟨hr, (fv_pf (pf_eq eg)).trans hgr⟩, ⟨(fi_pf (pf_eq eg)).trans f3, (fi_pf (pf_eq eg)).trans f4, (fi_pf (pf_eq eg)).trans f1⟩, ⟨r8.tr (c1.add q8 ⟨hz.1, hz.2.1, pn.1, by omega⟩), ?_⟩, ⟨rn, by omega, hz.2.2⟩, ?_⟩, Or.inl rfl⟩
  · rw [r7, lvb_eq2 a4 (fun e => by have := (ht.2 r' p hr).2 e; omega) (c3 g r' r' hg2 hr g6)]
    exact c2
  · rw [fv_pf (pf_eq eg)]
    refine frm.tr _ _ _ htl (fun x y hx' hl hy hv => ?_)
    have xp : ¬ x = p := by omega
    have xr : ¬ x = r' := fun e => by rw [e, hr] at hx'; omega
    have yr : ¬ y = r' := fun e => by
      have := c4 x g r' hx' hg2 (by rw [← e]; exact hv) g6
      omega
    have yp : ¬ y = p := fun e => by rw [e, h90] at hy; omega
    have ex := hf x (.inl hx') xr xp
    have ey := hf y (.inr hy) yr yp
    exact ⟨⟨hx', hy⟩, ⟨fv_pf (pf_eq ex), fv_pf (pf_eq ex), fi_pf (pf_eq ex), fi_pf (pf_eq ex), fi_pf (pf_eq ex)⟩, fi_pf (pf_eq ey), by rw [fv_pf (pf_eq ey)]; exact lvb_eq2 a4 (fun e => by have := (ht.2 y p hy).2 e; omega) (c3 g y r' hg2 hy g6)⟩
theorem rep_ql {l0 m0 sz v s2 : Int} (hm : ¬ m0 = 1000) (hv : v = m0 * sz) (h : (1000000 ≤ v + (m0 - l0) ∧ s2 = 1000000) ∨ (v + (m0 - l0) < 1000000 ∧ s2 = v + (m0 - l0))) : ceq s2 (tms l0 m0 * sz + mre l0 m0) := by
  unfold ceq tms mre
  rw [if_neg hm, if_neg hm, ← hv]
  omega
theorem rep_qe {l0 m0 sz v s2 : Int} (hm : m0 = 1000) (hv : v = (l0 + 1) * sz) (h : (1000000 ≤ v + 1 ∧ s2 = 1000000) ∨ (v + 1 < 1000000 ∧ s2 = v + 1)) : ceq s2 (tms l0 m0 * sz + mre l0 m0) := by
  unfold ceq tms mre
  rw [if_pos hm, if_pos hm, ← hv]
  omega
theorem cq_step {s9 a b : Int} (h : ceq a s9) (hb : a = b ∨ (1000000 ≤ a ∧ 1000000 ≤ b)) : ceq b s9 := by
  unfold ceq at *
  omega
theorem cq_end {s9 a : Int} {cu : Nat → Int} (h : ceq (a + lvc cu vN) s9) : ceq a s9 := by
  rw [lvc_n, Int.add_zero] at h
  exact h
/-- the size of a character's part: al 1 where both cases are meant -/
def chz (al c s : Int) : Prop := ∃ (q : Int → Int) (m : Int), (cs_can q m ∧ 0 ≤ m) ∧ (∀ x, cs_mem q m x ↔ one al c c x ∧ ¬ cs_gap x) ∧ ((m = 1 ∧ q 0 = q 1 ∧ s = 1) ∨ (¬ (m = 1 ∧ q 0 = q 1) ∧ s = 2 + 4 * m))
theorem chz_det {al c s s2 : Int} (h : chz al c s) (h2 : chz al c s2) : s = s2 := by
  obtain ⟨q, m, ⟨a1, a2⟩, a3, a4⟩ := h
  obtain ⟨q', m', ⟨b1, b2⟩, b3, b4⟩ := h2
  obtain ⟨e, k⟩ := can_one a1 b1 a2 b2 (fun x => (a3 x).trans (b3 x).symm)
  subst e
  by_cases c1 : m = 1
  · have k0 := k 0 (by omega) (by omega)
    have e0 : q 0 = q' 0 := k0.1
    have e1 : q 1 = q' 1 := k0.2
    omega
  · omega
theorem chz_0 {c : Int} (h : 0 ≤ c ∧ c ≤ 1114111) (hg : ¬ cs_gap c) : chz 0 c 1 := by
  refine ⟨fun _ => c, 1, ⟨fun i i0 i1 => ⟨h.1, Int.le_refl c, h.2, fun z => by omega⟩, by decide⟩, fun x => ?_, Or.inl ⟨rfl, rfl, rfl⟩⟩
  constructor
  · intro ⟨i, i0, i1, i2, i3⟩
    have e : x = c := by
      have a : c ≤ x := i2
      have b : x ≤ c := i3
      omega
    rw [e]
    exact ⟨Or.inr ⟨rfl, by omega, by omega⟩, hg⟩
  · intro ⟨z, _⟩
    rcases z with z | z
    · exact absurd z.1 (by decide)
    · exact ⟨0, by decide, by decide, z.2.1, z.2.2⟩
/-- the size of a kind's part -/
def kdz (k : Nat) (b s : Int) : Prop := ∃ (q : Int → Int) (m : Int), (cs_can q m ∧ 0 ≤ m) ∧ (∀ x, cs_mem q m x ↔ kmem k b x ∧ ¬ cs_gap x) ∧ s = 2 + 4 * m
theorem kdz_det {k : Nat} {b s s2 : Int} (h : kdz k b s) (h2 : kdz k b s2) : s = s2 := by
  obtain ⟨q, m, ⟨a1, a2⟩, a3, a4⟩ := h
  obtain ⟨q', m', ⟨b1, b2⟩, b3, b4⟩ := h2
  obtain ⟨e, k⟩ := can_one a1 b1 a2 b2 (fun x => (a3 x).trans (b3 x).symm)
  omega
/-- the size of a class -/
def clz (no : Int) (P : Int → Prop) (s : Int) : Prop := ∃ (q : Int → Int) (m : Int), (cs_can q m ∧ 0 ≤ m) ∧ (∀ x, cs_mem q m x ↔ clno no P x) ∧ s = 2 + 4 * m
theorem clz_det {no s s2 : Int} {P P2 : Int → Prop} (h : clz no P s) (h2 : clz no P2 s2) (hp : ∀ c, P c ↔ P2 c) : s = s2 := by
  obtain ⟨q, m, ⟨a1, a2⟩, a3, a4⟩ := h
  obtain ⟨q', m', ⟨b1, b2⟩, b3, b4⟩ := h2
  obtain ⟨e, k⟩ := can_one a1 b1 a2 b2 (fun x => (a3 x).trans (by unfold clno; rw [hp x]; exact (b3 x).symm))
  omega
theorem one_of {P : Int → Prop} {q : Int → Int} {m al c : Int} (hm : ∀ x, cs_mem q m x ↔ P x ∧ ¬ cs_gap x) (ha : ∀ x, P x ↔ False ∨ alike c c x) (h1 : al = 1) : ∀ x, cs_mem q m x ↔ one al c c x ∧ ¬ cs_gap x := fun x => by
  rw [hm x, ha x]
  unfold one
  exact and_congr ⟨fun z => z.elim False.elim (fun y => Or.inl ⟨h1, y⟩), fun z => z.elim (fun y => Or.inr y.2) (fun y => absurd (h1.symm.trans y.1) (by decide))⟩ Iff.rfl
theorem kd_of {P : Int → Prop} {q : Int → Int} {m : Int} {k : Nat} {b : Int} (hm : ∀ x, cs_mem q m x ↔ P x ∧ ¬ cs_gap x) (ha : ∀ x, P x ↔ False ∨ kmem k b x) : ∀ x, cs_mem q m x ↔ kmem k b x ∧ ¬ cs_gap x := fun x => by
  rw [hm x, ha x]
  exact and_congr ⟨fun z => z.elim False.elim id, Or.inr⟩ Iff.rfl
theorem fi_pl {o : Nat → Nat} {G : ab_G} {a l : Nat} {k v : Int} {rg : Value} {pl fl : Int} {ou ls bf : Value} {sz mb oe le mo la rc : Int} (hc : cc o G a l (paE k v rg pl fl ou ls bf sz mb oe le mo la rc)) (hp : -1 ≤ pl ∧ pl ≤ 2100 ∧ 0 ≤ fl ∧ fl ≤ 31) : fi G a 3 = pl ∧ fi G a 4 = fl := by
  unfold fi pf
  rw [hc.2.2]
  exact ⟨z_ti (by omega), z_ti (by omega)⟩
section SzJC
variable {o o2 : Nat → Nat} {G G2 : ab_G} {z : Nat} {ps ps2 : Nat → Nat} {wt : Nat → Wt} {bs : Nat} {gr : Int} {Pr : Int → Prop} {ph : Int} {hi hi2 p g r rn wh : Nat} {kg vg plg flg szg mbg oeg leg mog lag rcg : Int} {rgg oug lsg bfg : Value} {kp vp plp flp szp mbp oep lep mop lap rcp : Int} {rgp oup lsp bfp : Value} {lr br : Value} {sr mr sz2 mb2 oe2 l0 m0 z0 sr2 mr2 : Int} {pl fo nu al rw' psz : Int} {t fr : List Fr}
theorem szJ.appC (h : szJ o G z ps ((pl, fo, nu, al, rw') :: t) hi (vR g) wh p psz) (hpa : paI o G z ps wt bs gr Pr ph) (hf : fz ps [r, p] G G2) (cg : cc o G g 90 (paE kg vg rgg plg flg oug (vR r) bfg szg mbg oeg leg mog lag rcg)) (cp : cc o G p 90 (paE kp vp rgp plp flp oup lsp bfp szp mbp oep lep mop lap rcp)) (cr : cc o G r 94 (paE 5 0 vN (-1) 0 vN lr br sr mr 0 0 0 0 (-1))) (cp2 : cc o2 G2 p 90 (paE kp vp rgp plp flp oup lsp lr sz2 mb2 oe2 l0 m0 z0 rcp)) (cr2 : cc o2 G2 r 94 (paE 5 0 vN (-1) 0 vN (vR p) br sr2 mr2 0 0 0 0 (-1))) (hr : ps r = 94) (hhi : hi ≤ p ∧ 0 < p) (b1 : 0 ≤ kp ∧ kp ≤ 5 ∧ -1 ≤ vp ∧ vp ≤ 1114111) (b2 : 0 ≤ szp ∧ szp ≤ 1000000 ∧ 0 ≤ lep ∧ lep ≤ 1000 ∧ 0 ≤ mop ∧ mop ≤ 1000) (b3 : 0 ≤ sz2 ∧ sz2 ≤ 1000000 ∧ 0 ≤ l0 ∧ l0 ≤ m0 ∧ m0 ≤ 1000) (b4 : 0 ≤ sr ∧ sr ≤ 1000000 ∧ 0 ≤ sr2 ∧ sr2 ≤ 1000000) (h8 : ceq sz2 (tms l0 m0 * szp + mre l0 m0)) (h9 : ceq sr2 (sr + sz2)) : szJ o2 G2 z ps ((pl, fo, nu, al, rw' + (tms l0 m0 * psz + mre l0 m0)) :: t) hi (vR g) wh 0 0 := by
  obtain ⟨a0, a1, a8, _, _⟩ := fi_pa cp b1 b2
  obtain ⟨d0, d1, d8, d11, d12⟩ := fi_pa cp2 b1 (by omega)
  obtain ⟨_, _, r8, _, _⟩ := fi_pa cr (by omega) (by omega)
  obtain ⟨_, _, t8, _, _⟩ := fi_pa cr2 (by omega) (by omega)
  have q := szJ.app (o2 := o2) h hpa.typ hhi hf.ex2 hr (fv_pa cg).2.1 (by rw [a0, d0]) (by rw [a1, d1]) (by rw [(fv_pa cp).2.1, (fv_pa cp2).2.1]) (by rw [(fv_pa cp2).2.2, (fv_pa cr).2.1]) (by rw [d11, d12, a8, d8]; exact h8) (by omega) (fv_pa cr2).2.1 (by rw [(fv_pa cr2).2.2, (fv_pa cr).2.2]) (by rw [r8, d8, t8]; exact h9) (by omega)
  rw [d11, d12] at q
  exact q
theorem szJ.barC (h : szJ o G z ps ((pl, fo, nu, al, rw') :: t) hi (vR g) wh 0 0) (hn : nref G ps rn) (hp : ¬ ps rn = 90 ∧ ¬ ps rn = 94) (l1 : ∀ x, ¬ x = rn → ps2 x = ps x) (l2 : ps2 rn = 94) (hf : fz ps2 [g, rn] G G2) (cg : cc o G g 90 (paE kg vg rgg plg flg oug lsg bfg szg mbg oeg leg mog lag rcg)) (cg2 : cc o2 G2 g 90 (paE kg vg rgg plg flg oug (vR rn) bfg szg mbg oeg leg mog lag rcg)) (cr2 : cc o2 G2 rn 94 (paE 5 0 vN (-1) 0 vN vN lsg 0 mr 0 0 0 0 (-1))) (b1 : 0 ≤ kg ∧ kg ≤ 5 ∧ -1 ≤ vg ∧ vg ≤ 1114111) (b2 : 0 ≤ szg ∧ szg ≤ 1000000 ∧ 0 ≤ leg ∧ leg ≤ 1000 ∧ 0 ≤ mog ∧ mog ≤ 1000) : szJ o2 G2 z ps2 ((pl, fo, nu, al + rw' + 1, 0) :: t) hi (vR g) wh 0 0 := by
  obtain ⟨_, _, r8, _, _⟩ := fi_pa cr2 (by omega) (by omega)
  obtain ⟨_, _, a8, _, _⟩ := fi_pa cg b1 b2
  have gr : ∀ x, ps x = 90 ∨ ps x = 94 → ¬ x = rn := fun x hx t => by
    rw [t] at hx
    rcases hx with q | q
    · exact hp.1 q
    · exact hp.2 q
  refine szJ.bar h (fun x hx e => hf.ex2 x (by rw [l1 x (gr x hx)]; exact hx) e (gr x hx)) hn hp l1 l2 (fun i hi h6 => ?_) (fv_pa cg2).2.1 (fv_pa cr2).2.1 (by rw [(fv_pa cr2).2.2, (fv_pa cg).2.1]) r8 (by omega)
  unfold pf
  rw [cg.2.2, cg2.2.2]
  rcases (show i = 0 ∨ i = 1 ∨ i = 2 ∨ i = 3 ∨ i = 4 ∨ i = 5 ∨ i = 7 ∨ i = 8 ∨ i = 9 ∨ i = 10 ∨ i = 11 ∨ i = 12 ∨ i = 13 by omega) with e | e | e | e | e | e | e | e | e | e | e | e | e <;> (subst e; rfl)
theorem szJ.entC {v : Value} (h : szJ o G z ps fr hi v wh 0 0) (ng : nref G ps g) (nr : nref G ps rn) (hpg : ¬ ps g = 90 ∧ ¬ ps g = 94) (hpr : ¬ ps rn = 90 ∧ ¬ ps rn = 94) (l1 : ∀ x, ¬ x = g → ¬ x = rn → ps2 x = ps x) (lg : ps2 g = 90) (lr : ps2 rn = 94) (hf : fz ps2 [g, rn] G G2) (cg2 : cc o2 G2 g 90 (paE 4 vg rgg plg flg v (vR rn) vN szg mbg oeg 0 0 lag rcg)) (cr2 : cc o2 G2 rn 94 (paE 5 0 vN (-1) 0 vN vN vN 0 mr 0 0 0 0 (-1))) (b1 : 0 ≤ vg ∧ vg ≤ 1114111 ∧ -1 ≤ plg ∧ plg ≤ 2100 ∧ 0 ≤ flg ∧ flg ≤ 31) (b2 : szg = pin 4 vg) (h1 : hi ≤ g) (h2 : g < hi2) (hw : fr.length = 0 → g = wh) : szJ o2 G2 z ps2 ((plg, flg, vg, 0, 0) :: fr) hi2 (vR g) wh 0 0 := by
  have hp0 := pin_0 4 vg
  obtain ⟨_, _, r8, _, _⟩ := fi_pa cr2 (by omega) (by omega)
  obtain ⟨a0, a1, a8, a11, a12⟩ := fi_pa cg2 (by omega) (by omega)
  obtain ⟨a3, a4⟩ := fi_pl cg2 (by omega)
  have ne : ∀ x, ps x = 90 ∨ ps x = 94 → ¬ x = g ∧ ¬ x = rn := fun x hx => by
    refine ⟨fun t => ?_, fun t => ?_⟩
    · rw [t] at hx
      rcases hx with q | q
      · exact hpg.1 q
      · exact hpg.2 q
    · rw [t] at hx
      rcases hx with q | q
      · exact hpr.1 q
      · exact hpr.2 q
  exact szJ.ent h (fun x hx => hf.ex2 x (by rw [l1 x (ne x hx).1 (ne x hx).2]; exact hx) (ne x hx).1 (ne x hx).2) ng nr hpg hpr l1 lg lr ⟨a0, by rw [a8, a1]; exact b2, a11, a12⟩ (fv_pa cg2).1 (fv_pa cg2).2.1 (fv_pa cg2).2.2 (fv_pa cr2).2.1 (fv_pa cr2).2.2 r8 h1 h2 hw ⟨a3, a4, a1⟩
theorem szX.cloJC {cu : Nat → Int} (hx : szX G ps cu) (hs : sopn G ps wh (t.length + 1) hi (vR g)) (hfr : frm G ps cu ((pl, fo, nu, al, rw') :: t) hi (vR g)) (hpa : paI o G z ps wt bs gr Pr ph) (hf : fz ps [g] G G2) (cg : cc o G g 90 (paE kg vg rgg plg flg oug lsg bfg szg mbg oeg leg mog lag rcg)) (cg2 : cc o2 G2 g 90 (paE kg vg rgg plg flg oug lsg bfg sz2 mb2 oeg leg mog lag rcg)) (b1 : 0 ≤ kg ∧ kg ≤ 5 ∧ -1 ≤ vg ∧ vg ≤ 1114111) (b2 : 0 ≤ szg ∧ szg ≤ 1000000 ∧ 0 ≤ leg ∧ leg ≤ 1000 ∧ 0 ≤ mog ∧ mog ≤ 1000) (b3 : 0 ≤ sz2 ∧ sz2 ≤ 1000000) (hc : ceq sz2 (szg + lvc cu lsg)) : szJ o2 G2 z ps t g oug wh g (pin 4 nu + rw' + al) := by
  obtain ⟨_, _, a8, _, _⟩ := fi_pa cg b1 b2
  obtain ⟨_, _, d8, _, _⟩ := fi_pa cg2 b1 (by omega)
  have q := szX.cloJ (o2 := o2) (z := z) hx hs hfr hpa.typ hf.ex1 (fun i hi h8 h9 => by
    unfold pf
    rw [cg.2.2, cg2.2.2]
    rcases (show i = 0 ∨ i = 1 ∨ i = 2 ∨ i = 3 ∨ i = 4 ∨ i = 5 ∨ i = 6 ∨ i = 7 ∨ i = 10 ∨ i = 11 ∨ i = 12 ∨ i = 13 by omega) with e | e | e | e | e | e | e | e | e | e | e | e <;> (subst e; rfl)) (by omega) (by rw [a8, d8, (fv_pa cg).2.1]; exact hc)
  rw [(fv_pa cg).1] at q
  exact q
/-- an open group's frame stands on top -/
theorem szJ.hd {v : Value} {pn : Nat} {s : Int} (h : szJ o G z ps fr hi v wh pn s) (hk : 1 ≤ fr.length) : ∃ (a b c d e : Int) (t : List Fr), fr = (a, b, c, d, e) :: t := by
  cases fr with
  | nil => exact absurd hk (by decide)
  | cons x t =>
    obtain ⟨a, b, c, d, e⟩ := x
    exact ⟨a, b, c, d, e, t, rfl⟩
end SzJC
/-- a group that may not be opened: too deep, or one too many -/
def entF (dp grp nu at_ fa fp : Int) : Prop := (30 ≤ dp ∧ fa = 12 ∧ fp = at_) ∨ (dp < 30 ∧ nu = 1 ∧ 9 ≤ grp ∧ fa = 13 ∧ fp = at_)
theorem frm_fo {o : Nat → Nat} {G : ab_G} {ps : Nat → Nat} {cu : Nat → Int} {a b c d e : Int} {t : List Fr} {hi g l : Nat} {k v : Int} {rg : Value} {pl fl : Int} {ou ls bf : Value} {sz mb oe le mo la rc : Int} (h : frm G ps cu ((a, b, c, d, e) :: t) hi (vR g)) (hc : cc o G g l (paE k v rg pl fl ou ls bf sz mb oe le mo la rc)) (hp : -1 ≤ pl ∧ pl ≤ 2100 ∧ 0 ≤ fl ∧ fl ≤ 31) : fl = b := by
  obtain ⟨g', r, hv, _, _, ⟨_, f4, _⟩, _⟩ := h
  have hv := vRR hv
  subst hv
  exact (fi_pl hc hp).2.symm.trans f4
theorem opn_nul {o : Nat → Nat} {G : ab_G} {z : Nat} {ps : Nat → Nat} {k hi : Nat} (h : opI o G z ps k hi vN) : k = 0 := by
  cases k with
  | zero => rfl
  | succ k =>
    obtain ⟨g, r, w, lv, h1, _⟩ := h
    exact absurd h1 vNR
/-- more than a repeat may say -/
def tooR (l m : Int) : Prop := 100 < l ∨ (¬ m = 1000 ∧ (100 < m ∨ m < l))
/-- the ? behind a repeat -/
def askR (f : Int → Int) (n e p : Int) : Prop := (tpk f n e = 63 ∧ p = e + 1) ∨ (¬ tpk f n e = 63 ∧ p = e)
