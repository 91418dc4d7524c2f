/-! sizes: what the size of a part says of the states that are made of it -/
def fi (G : ab_G) (a i : Nat) : Int := match pf G a i with
  | some (.int x) => x.toInt
  | _ => 0
def fv (G : ab_G) (a i : Nat) : Value := (pf G a i).getD vN
theorem fi_pf {G G2 : ab_G} {a i : Nat} (h : pf G2 a i = pf G a i) : fi G2 a i = fi G a i := by unfold fi; rw [h]
theorem fv_pf {G G2 : ab_G} {a i : Nat} (h : pf G2 a i = pf G a i) : fv G2 a i = fv G a i := by unfold fv; rw [h]
def lvc (cu : Nat → Int) (v : Value) : Int := match v with
  | .ref b => cu b
  | _ => 0
def lvb (cu : Nat → Int) (v : Value) : Int := match v with
  | .ref b => 1 + cu b
  | _ => 0
theorem lvc_n {cu : Nat → Int} : lvc cu vN = 0 := rfl
theorem lvc_r {cu : Nat → Int} {b : Nat} : lvc cu (vR b) = cu b := rfl
theorem lvb_n {cu : Nat → Int} : lvb cu vN = 0 := rfl
theorem lvb_r {cu : Nat → Int} {b : Nat} : lvb cu (vR b) = 1 + cu b := rfl
theorem lvc_0 {cu : Nat → Int} (h : ∀ a, 0 ≤ cu a) (v : Value) : 0 ≤ lvc cu v := by
  unfold lvc
  split
  · exact h _
  · omega
theorem lvb_0 {cu : Nat → Int} (h : ∀ a, 0 ≤ cu a) (v : Value) : 0 ≤ lvb cu v := by
  unfold lvb
  split
  · rename_i b
    have := h b
    omega
  · omega
def cup (cu : Nat → Int) (a : Nat) (x : Int) : Nat → Int := fun b => if b = a then x else cu b
theorem cup_s {cu : Nat → Int} {a : Nat} {x : Int} : cup cu a x a = x := if_pos rfl
theorem cup_ne {cu : Nat → Int} {a b : Nat} {x : Int} (h : ¬ b = a) : cup cu a x b = cu b := if_neg h
theorem cup_0 {cu : Nat → Int} {a : Nat} {x : Int} (h : ∀ a, 0 ≤ cu a) (hx : 0 ≤ x) : ∀ b, 0 ≤ cup cu a x b := fun b => by
  by_cases e : b = a
  · rw [e, cup_s]; exact hx
  · rw [cup_ne e]; exact h b
theorem lvc_up {cu : Nat → Int} {a : Nat} {x : Int} {v : Value} (h : ¬ v = vR a) : lvc (cup cu a x) v = lvc cu v := by
  cases v with
  | ref b => exact cup_ne (fun t => h (by rw [t]))
  | _ => rfl
theorem lvb_up {cu : Nat → Int} {a : Nat} {x : Int} {v : Value} (h : ¬ v = vR a) : lvb (cup cu a x) v = lvb cu v := by
  cases v with
  | ref b =>
    show 1 + cup cu a x b = 1 + cu b
    rw [cup_ne (fun t => h (by rw [t]))]
  | _ => rfl
theorem vNR {b : Nat} : ¬ vN = vR b := fun t => by cases t
theorem vRR {a b : Nat} (h : vR a = vR b) : a = b := Value.ref.inj h
/-- what is at least a, or so much that it is beyond every limit -/
def cl9 (a b : Int) : Prop := a ≤ b ∨ 404 ≤ b
def pin (k v : Int) : Int := if k = 4 then (if v = 0 then 0 else 2) else 1
def tms (le mo : Int) : Int := if mo = 1000 then le + 1 else mo
def mre (le mo : Int) : Int := if mo = 1000 then 1 else mo - le
def prq (k v le mo c sz : Int) : Prop := cl9 (tms le mo * (pin k v + c) + mre le mo) sz ∧ le ≤ mo
theorem pin_0 (k v : Int) : 0 ≤ pin k v ∧ pin k v ≤ 2 := by
  unfold pin
  split
  · split <;> omega
  · omega
theorem prq_0 {k v c sz : Int} (h : 0 ≤ sz) : prq k v 0 0 c sz := by
  refine ⟨Or.inl ?_, Int.le_refl _⟩
  rw [show tms 0 0 = 0 from rfl, show mre 0 0 = 0 from rfl, Int.zero_mul]
  omega
theorem prq_rep {k v le mo c s s2 : Int} (h : cl9 (pin k v + c) s) (hs : cl9 (tms le mo * s + mre le mo) s2) (hl : 0 ≤ le ∧ le ≤ mo) (hc : 0 ≤ c) : prq k v le mo c s2 := by
  refine ⟨?_, hl.2⟩
  rcases hs with hs | hs
  · have ht : 0 ≤ tms le mo := by unfold tms; split <;> omega
    rcases h with h | h
    · refine Or.inl (Int.le_trans ?_ hs)
      have := Int.mul_le_mul_of_nonneg_left h ht
      omega
    · by_cases e : tms le mo = 0
      · refine Or.inl ?_
        rw [e, Int.zero_mul] at hs ⊢
        exact hs
      · refine Or.inr ?_
        have h1 : 1 * s ≤ tms le mo * s := Int.mul_le_mul_of_nonneg_right (by omega) (by omega)
        have h2 : 0 ≤ mre le mo := by unfold mre; split <;> omega
        omega
  · exact Or.inr hs
/-- sizes are sums: of parts in a row, of rows in a group, of repeats -/
def szX (G : ab_G) (ps : Nat → Nat) (cu : Nat → Int) : Prop :=
  (∀ a, 0 ≤ cu a) ∧
  (∀ r, ps r = 94 → cl9 (lvc cu (fv G r 6)) (fi G r 8) ∧ cu r = fi G r 8 + lvb cu (fv G r 7)) ∧
  (∀ p, ps p = 90 → cu p = fi G p 8 + lvc cu (fv G p 7) ∧ prq (fi G p 0) (fi G p 1) (fi G p 11) (fi G p 12) (lvc cu (fv G p 6)) (fi G p 8)) ∧
  (∀ x y b, ps x = 90 → ps y = 94 → fv G x 6 = vR b → ¬ fv G y 7 = vR b) ∧
  (∀ x y b, ps x = 90 → ps y = 90 → fv G x 6 = vR b → fv G y 6 = vR b → x = y)
/-- nothing stands behind it in a row, and it is in none -/
def unrf (G : ab_G) (ps : Nat → Nat) (g : Nat) : Prop := (∀ x, ps x = 90 → ¬ fv G x 7 = vR g) ∧ (∀ x, ps x = 94 → ¬ fv G x 6 = vR g)
def sopn (G : ab_G) (ps : Nat → Nat) (wh : Nat) : Nat → Nat → Value → Prop
  | 0, _, v => v = vN
  | k + 1, hi, v => ∃ g : Nat, v = vR g ∧ (ps g = 90 ∧ g < hi) ∧ (fi G g 0 = 4 ∧ fi G g 8 = pin 4 (fi G g 1) ∧ fi G g 11 = 0 ∧ fi G g 12 = 0) ∧ unrf G ps g ∧ (k = 0 → g = wh) ∧ sopn G ps wh k g (fv G g 5)
def clp (G : ab_G) (ps : Nat → Nat) (cu : Nat → Int) (p : Nat) : Prop := ps p = 90 ∧ unrf G ps p ∧ cl9 (pin (fi G p 0) (fi G p 1) + lvc cu (fv G p 6)) (fi G p 8)
def szI (_o : Nat → Nat) (G : ab_G) (_z : Nat) (ps : Nat → Nat) (k hi : Nat) (v : Value) (wh pn : Nat) : Prop := ∃ cu : Nat → Int, szX G ps cu ∧ sopn G ps wh k hi v ∧ (pn = 0 ∨ clp G ps cu pn)
theorem szX.same {G G2 : ab_G} {ps : Nat → Nat} {cu : Nat → Int} (h : szX G ps cu) (e : ∀ x, (ps x = 90 ∨ ps x = 94) → ∀ i, i < 14 → pf G2 x i = pf G x i) : szX G2 ps cu := by
  obtain ⟨c0, c1, c2, c3, c4⟩ := h
  have ei : ∀ x, (ps x = 90 ∨ ps x = 94) → ∀ i, i < 14 → fi G2 x i = fi G x i := fun x hx i hi => fi_pf (e x hx i hi)
  have ev : ∀ x, (ps x = 90 ∨ ps x = 94) → ∀ i, i < 14 → fv G2 x i = fv G x i := fun x hx i hi => fv_pf (e x hx i hi)
  refine ⟨c0, fun r hr => ?_, fun p hp => ?_, fun x y b hx hy => ?_, fun x y b hx hy => ?_⟩
  · rw [ev r (.inr hr) 6 (by decide), ev r (.inr hr) 7 (by decide), ei r (.inr hr) 8 (by decide)]
    exact c1 r hr
  · rw [ei p (.inl hp) 0 (by decide), ei p (.inl hp) 1 (by decide), ev p (.inl hp) 6 (by decide), ev p (.inl hp) 7 (by decide), ei p (.inl hp) 8 (by decide), ei p (.inl hp) 11 (by decide), ei p (.inl hp) 12 (by decide)]
    exact c2 p hp
  · rw [ev x (.inl hx) 6 (by decide), ev y (.inr hy) 7 (by decide)]
    exact c3 x y b hx hy
  · rw [ev x (.inl hx) 6 (by decide), ev y (.inl hy) 6 (by decide)]
    exact c4 x y b hx hy
theorem sopn.tr {G G2 : ab_G} {ps ps2 : Nat → Nat} {wh : Nat} : ∀ k hi v, sopn G ps wh k hi v → (∀ g, ps g = 90 → g < hi → unrf G ps g → (ps2 g = 90 ∧ unrf G2 ps2 g) ∧ (fi G2 g 0 = fi G g 0 ∧ fi G2 g 1 = fi G g 1 ∧ fi G2 g 8 = fi G g 8 ∧ fi G2 g 11 = fi G g 11 ∧ fi G2 g 12 = fi G g 12 ∧ fv G2 g 5 = fv G g 5)) → sopn G2 ps2 wh k hi v := by
  intro k
  induction k with
  | zero => intro hi v h _; exact h
  | succ k ih =>
    intro hi v h q
    obtain ⟨g, h1, ⟨h2, h3⟩, ⟨f0, f8, f11, f12⟩, h4, h5, h6⟩ := h
    obtain ⟨⟨q1, q2⟩, e0, e1, e8, e11, e12, e5⟩ := q g h2 h3 h4
    refine ⟨g, h1, ⟨q1, h3⟩, ⟨by rw [e0]; exact f0, by rw [e8, e1]; exact f8, by rw [e11]; exact f11, by rw [e12]; exact f12⟩, q2, h5, ?_⟩
    rw [e5]
    exact ih g _ h6 (fun x hx hl hu => q x hx (by omega) hu)
theorem sopn.up {G : ab_G} {ps : Nat → Nat} {wh k hi hi2 : Nat} {v : Value} (h : sopn G ps wh k hi v) (hh : hi ≤ hi2) : sopn G ps wh k hi2 v := by
  cases k with
  | zero => exact h
  | succ k =>
    obtain ⟨g, h1, ⟨h2, h3⟩, h4⟩ := h
    exact ⟨g, h1, ⟨h2, by omega⟩, h4⟩
theorem unrf.same {G G2 : ab_G} {ps : Nat → Nat} {g : Nat} (h : unrf G ps g) (e : ∀ x, (ps x = 90 ∨ ps x = 94) → G2[x]? = G[x]?) : unrf G2 ps g :=
  ⟨fun x hx => by rw [fv_pf (pf_eq (e x (.inl hx)))]; exact h.1 x hx, fun x hx => by rw [fv_pf (pf_eq (e x (.inr hx)))]; exact h.2 x hx⟩
theorem szI.same {o o2 : Nat → Nat} {G G2 : ab_G} {z : Nat} {ps : Nat → Nat} {k hi : Nat} {v : Value} {wh pn : Nat} (h : szI o G z ps k hi v wh pn) (e : ∀ x, (ps x = 90 ∨ ps x = 94) → G2[x]? = G[x]?) : szI o2 G2 z ps k hi v wh pn := by
  obtain ⟨cu, hx, hs, hp⟩ := h
  have ei : ∀ g, ps g = 90 → ∀ i, fi G2 g i = fi G g i := fun g hg i => fi_pf (pf_eq (e g (.inl hg)))
  have ev : ∀ g, ps g = 90 → ∀ i, fv G2 g i = fv G g i := fun g hg i => fv_pf (pf_eq (e g (.inl hg)))
  refine ⟨cu, hx.same (fun x hx i _ => pf_eq (e x hx)), sopn.tr k hi v hs (fun g hg _ hu => ⟨⟨hg, hu.same e⟩, ei g hg 0, ei g hg 1, ei g hg 8, ei g hg 11, ei g hg 12, ev g hg 5⟩), ?_⟩
  rcases hp with hp | ⟨h1, h2, h3⟩
  · exact Or.inl hp
  · refine Or.inr ⟨h1, h2.same e, ?_⟩
    rw [ei pn h1 0, ei pn h1 1, ei pn h1 8, ev pn h1 6]
    exact h3
theorem szI.fzk {o o2 : Nat → Nat} {G G2 : ab_G} {z : Nat} {ps : Nat → Nat} {k hi : Nat} {v : Value} {wh pn : Nat} (h : szI o G z ps k hi v wh pn) (hf : fz ps [] G G2) : szI o2 G2 z ps k hi v wh pn := h.same (fun x hx => hf x hx List.not_mem_nil)
theorem szI.fr {o o2 : Nat → Nat} {S : List Nat} {G G2 : ab_G} {z : Nat} {ps : Nat → Nat} {wt : Nat → Wt} {bs : Nat} {gr : Int} {Pr : Int → Prop} {ph : Int} {k hi : Nat} {v : Value} {wh pn : Nat} (hf : fx o o2 S G G2) (hp : paI o G z ps wt bs gr Pr ph) (h : szI o G z ps k hi v wh pn) (h90 : ¬ 90 ∈ S) (h94 : ¬ 94 ∈ S) : szI o2 G2 z ps k hi v wh pn := h.fzk (fz.fx hp hf h90 h94)
theorem szI.up {o : Nat → Nat} {G : ab_G} {z : Nat} {ps : Nat → Nat} {k hi hi2 : Nat} {v : Value} {wh pn : Nat} (h : szI o G z ps k hi v wh pn) (hh : hi ≤ hi2) : szI o G z ps k hi2 v wh pn := by
  obtain ⟨cu, hx, hs, hp⟩ := h
  exact ⟨cu, hx, hs.up hh, hp⟩
theorem szI.drop {o : Nat → Nat} {G : ab_G} {z : Nat} {ps : Nat → Nat} {k hi : Nat} {v : Value} {wh pn : Nat} (h : szI o G z ps k hi v wh pn) : szI o G z ps k hi v wh 0 := by
  obtain ⟨cu, hx, hs, hp⟩ := h
  exact ⟨cu, hx, hs, Or.inl rfl⟩
theorem szI.wnp {o : Nat → Nat} {G G2 : ab_G} {z : Nat} {ps : Nat → Nat} {k hi a : Nat} {v : Value} {wh pn : Nat} {E : ab_E} (h : szI o G z ps k hi v wh pn) (e : G2 = List.set G a E) (hp : ¬ ps a = 90 ∧ ¬ ps a = 94) : szI o G2 z ps k hi v wh pn :=
  h.same (fun x hq => by rw [e, List.getElem?_set_ne (fun t => by rw [← t] at hq; rcases hq with y | y; (exact hp.1 y); (exact hp.2 y))])
/-- nothing at all is linked to it -/
def nref (G : ab_G) (ps : Nat → Nat) (a : Nat) : Prop := (∀ x, ps x = 90 → ¬ fv G x 6 = vR a ∧ ¬ fv G x 7 = vR a) ∧ (∀ x, ps x = 94 → ¬ fv G x 6 = vR a ∧ ¬ fv G x 7 = vR a)
theorem fv_pa {o : Nat → Nat} {G : ab_G} {a l : Nat} {k v : Int} {rg : Value} {pl fl : Int} {ou ls bf : Value} {sz mb oe le mo la rc : Int} (hc : cc o G a l (paE k v rg pl fl ou ls bf sz mb oe le mo la rc)) : fv G a 5 = ou ∧ fv G a 6 = ls ∧ fv G a 7 = bf := by
  unfold fv pf
  rw [hc.2.2]
  exact ⟨rfl, rfl, rfl⟩
theorem fi_pa {o : Nat → Nat} {G : ab_G} {a l : Nat} {k v : Int} {rg : Value} {pl fl : Int} {ou ls bf : Value} {sz mb oe le mo la rc : Int} (hc : cc o G a l (paE k v rg pl fl ou ls bf sz mb oe le mo la rc)) (hk : 0 ≤ k ∧ k ≤ 5 ∧ -1 ≤ v ∧ v ≤ 1114111) (hn : 0 ≤ sz ∧ sz ≤ 1000000 ∧ 0 ≤ le ∧ le ≤ 1000 ∧ 0 ≤ mo ∧ mo ≤ 1000) : fi G a 0 = k ∧ fi G a 1 = v ∧ fi G a 8 = sz ∧ fi G a 11 = le ∧ fi G a 12 = mo := by
  unfold fi pf
  rw [hc.2.2]
  exact ⟨z_ti (by omega), z_ti (by omega), z_ti (by omega), z_ti (by omega), z_ti (by omega)⟩
theorem plk_ref {ps : Nat → Nat} {l hi b : Nat} {v : Value} (h : plk ps l hi v) (e : v = vR b) : ps b = l := by
  rcases h with h | ⟨c, h1, h2, h3⟩
  · rw [h] at e; exact absurd e vNR
  · rw [h1] at e; rw [← vRR e]; exact h2
theorem paI.nref {o : Nat → Nat} {G : ab_G} {z : Nat} {ps : Nat → Nat} {wt : Nat → Wt} {bs : Nat} {gr : Int} {Pr : Int → Prop} {ph : Int} {a : Nat} (h : paI o G z ps wt bs gr Pr ph) (hn : ¬ ps a = 90 ∧ ¬ ps a = 94) : nref G ps a := by
  refine ⟨fun x hx => ?_, fun x hx => ?_⟩
  · obtain ⟨k, v, rg, pl, fl, ou, ls, bf, sz, mb, oe, le, mo, la, rc, c1, c2, c3, c4, c5, c6, c7⟩ := h.1 x hx
    obtain ⟨_, e6, e7⟩ := fv_pa c1
    rw [e6, e7]
    exact ⟨fun t => hn.2 (plk_ref c6 t), fun t => hn.1 (plk_ref c7 t)⟩
  · obtain ⟨ls, bf, sz, mb, c1, c2, c3, c4⟩ := h.2.1 x hx
    obtain ⟨_, e6, e7⟩ := fv_pa c1
    rw [e6, e7]
    exact ⟨fun t => hn.1 (plk_ref c3 t), fun t => hn.2 (plk_ref c4 t)⟩
/-- a part that holds no others, new -/
def leafp (ps ps2 : Nat → Nat) (G : ab_G) (p : Nat) : Prop := nref G ps p ∧ (¬ ps p = 90 ∧ ¬ ps p = 94) ∧ (∀ x, ¬ x = p → ps2 x = ps x) ∧ ps2 p = 90 ∧ (¬ fi G p 0 = 4 ∧ 1 ≤ fi G p 8 ∧ fi G p 11 = 0 ∧ fi G p 12 = 0) ∧ fv G p 6 = vN ∧ fv G p 7 = vN
theorem leafp.mk {o ps ps2 : Nat → Nat} {G : ab_G} {p l : Nat} {k v : Int} {rg : Value} {pl fl : Int} {ou : Value} {sz mb oe la rc : Int} (hn : nref G ps p) (hp : ¬ ps p = 90 ∧ ¬ ps p = 94) (h1 : ∀ x, ¬ x = p → ps2 x = ps x) (h2 : ps2 p = 90) (hc : cc o G p l (paE k v rg pl fl ou vN vN sz mb oe 0 0 la rc)) (hk : 0 ≤ k ∧ k ≤ 3 ∧ -1 ≤ v ∧ v ≤ 1114111 ∧ 1 ≤ sz ∧ sz ≤ 1000000) : leafp ps ps2 G p := by
  obtain ⟨f0, f1, f8, f11, f12⟩ := fi_pa hc (by omega) (by omega)
  obtain ⟨_, e6, e7⟩ := fv_pa hc
  exact ⟨hn, hp, h1, h2, ⟨by omega, by omega, f11, f12⟩, e6, e7⟩
theorem szX.leaf {G : ab_G} {ps ps2 : Nat → Nat} {cu : Nat → Int} {k hi : Nat} {v : Value} {wh p : Nat} (h : szX G ps cu) (hs : sopn G ps wh k hi v) (hl : leafp ps ps2 G p) : ∃ cu2 : Nat → Int, (szX G ps2 cu2 ∧ sopn G ps2 wh k hi v ∧ clp G ps2 cu2 p) ∧ ∀ x, ¬ x = p → cu2 x = cu x := by
  obtain ⟨c0, c1, c2, c3, c4⟩ := h
  obtain ⟨hn, hp, l1, l2, ⟨l0, l8, l11, l12⟩, l6, l7⟩ := hl
  have q90 : ∀ x, ps2 x = 90 → ¬ x = p → ps x = 90 := fun x h1 h2 => by rw [← l1 x h2]; exact h1
  have q94 : ∀ x, ps2 x = 94 → ps x = 94 ∧ ¬ x = p := fun x h1 => by
    have h2 : ¬ x = p := fun t => by rw [t, l2] at h1; omega
    exact ⟨by rw [← l1 x h2]; exact h1, h2⟩
  refine ⟨cup cu p (fi G p 8), ⟨⟨cup_0 c0 (by omega), fun r hr => ?_, fun x hx => ?_, fun x y b hx hy => ?_, fun x y b hx hy => ?_⟩, ?_, l2, ⟨fun x hx => ?_, fun x hx => ?_⟩, ?_⟩, fun x e => cup_ne e⟩
  · obtain ⟨hr1, hr2⟩ := q94 r hr
    rw [lvc_up (hn.2 r hr1).1, lvb_up (hn.2 r hr1).2, cup_ne hr2]
    exact c1 r hr1
  · by_cases e : x = p
    · rw [e, cup_s, l7, l6, l11, l12]
      exact ⟨by rw [lvc_n, Int.add_zero], prq_0 (by omega)⟩
    · have hx1 := q90 x hx e
      rw [lvc_up (hn.1 x hx1).1, lvc_up (hn.1 x hx1).2, cup_ne e]
      exact c2 x hx1
  · obtain ⟨hy1, hy2⟩ := q94 y hy
    by_cases e : x = p
    · rw [e, l6]; exact fun t => absurd t vNR
    · exact c3 x y b (q90 x hx e) hy1
  · by_cases e : x = p
    · rw [e, l6]; exact fun t => absurd t vNR
    · by_cases e2 : y = p
      · rw [e2, l6]; exact fun _ t => absurd t vNR
      · exact c4 x y b (q90 x hx e) (q90 y hy e2)
  · refine sopn.tr k hi v hs (fun g hg _ hu => ?_)
    have hgp : ¬ g = p := fun t => hp.1 (t ▸ hg)
    refine ⟨⟨by rw [l1 g hgp]; exact hg, ⟨fun x hx => ?_, fun x hx => ?_⟩⟩, rfl, rfl, rfl, rfl, rfl, rfl⟩
    · by_cases e : x = p
      · rw [e, l7]; exact vNR
      · exact hu.1 x (q90 x hx e)
    · obtain ⟨hx1, hx2⟩ := q94 x hx
      exact hu.2 x hx1
  · by_cases e : x = p
    · rw [e, l7]; exact vNR
    · exact (hn.1 x (q90 x hx e)).2
  · obtain ⟨hx1, hx2⟩ := q94 x hx
    exact (hn.2 x hx1).1
  · rw [l6, lvc_n]
    refine Or.inl ?_
    unfold pin
    rw [if_neg l0]
    omega
theorem szI.leaf {o : Nat → Nat} {G : ab_G} {z : Nat} {ps ps2 : Nat → Nat} {k hi : Nat} {v : Value} {wh p : Nat} (h : szI o G z ps k hi v wh 0) (hl : leafp ps ps2 G p) : szI o G z ps2 k hi v wh p := by
  obtain ⟨cu, hx, hs, _⟩ := h
  obtain ⟨cu2, ⟨a1, a2, a3⟩, _⟩ := hx.leaf hs hl
  exact ⟨cu2, a1, a2, Or.inr a3⟩
/-- a new row in the inner group -/
theorem szX.bar {G G2 : ab_G} {ps ps2 : Nat → Nat} {cu : Nat → Int} {kk k hi g rn : Nat} {wh : Nat} (hkk : kk = k + 1) (h : szX G ps cu) (hs : sopn G ps wh kk hi (vR g)) (hf : ∀ x, (ps x = 90 ∨ ps x = 94) → ¬ x = g → G2[x]? = G[x]?) (hn : nref G ps rn) (hp : ¬ ps rn = 90 ∧ ¬ ps rn = 94) (l1 : ∀ x, ¬ x = rn → ps2 x = ps x) (l2 : ps2 rn = 94) (hg : ∀ i, i < 14 → ¬ i = 6 → pf G2 g i = pf G g i) (g6 : fv G2 g 6 = vR rn) (r6 : fv G2 rn 6 = vN) (r7 : fv G2 rn 7 = fv G g 6) (r8 : fi G2 rn 8 = 0) (h8 : 0 ≤ fi G g 8) : ∃ cu2 : Nat → Int, (szX G2 ps2 cu2 ∧ sopn G2 ps2 wh kk hi (vR g)) ∧ cu2 rn = lvb cu (fv G g 6) ∧ ∀ x, ¬ x = rn → cu2 x = cu x := by
  subst hkk
  obtain ⟨c0, c1, c2, c3, c4⟩ := h
  obtain ⟨g', hv, ⟨hg2, hg3⟩, ⟨f0, f8, f11, f12⟩, hu, hk, hso⟩ := id hs
  have hv := vRR hv
  subst hv
  have ev : ∀ x, (ps x = 90 ∨ ps x = 94) → ∀ i, i < 14 → ¬ i = 6 → fv G2 x i = fv G x i := fun x hx i h1 h2 => by
    by_cases e : x = g
    · rw [e]; exact fv_pf (hg i h1 h2)
    · exact fv_pf (pf_eq (hf x hx e))
  have ei : ∀ x, (ps x = 90 ∨ ps x = 94) → ∀ i, i < 14 → ¬ i = 6 → fi G2 x i = fi G x i := fun x hx i h1 h2 => by
    by_cases e : x = g
    · rw [e]; exact fi_pf (hg i h1 h2)
    · exact fi_pf (pf_eq (hf x hx e))
  have e6 : ∀ x, (ps x = 90 ∨ ps x = 94) → ¬ x = g → fv G2 x 6 = fv G x 6 := fun x hx e => fv_pf (pf_eq (hf x hx e))
  have gr : ¬ g = rn := fun t => hp.1 (t ▸ hg2)
  have q90 : ∀ x, ps2 x = 90 → ps x = 90 ∧ ¬ x = rn := fun x h1 => by
    have h2 : ¬ x = rn := fun t => by rw [t, l2] at h1; omega
    exact ⟨by rw [← l1 x h2]; exact h1, h2⟩
  have q94 : ∀ x, ps2 x = 94 → ¬ x = rn → ps x = 94 := fun x h1 h2 => by rw [← l1 x h2]; exact h1
  have n94 : ∀ x, ps x = 94 → ¬ x = g := fun x hx t => by rw [t, hg2] at hx; omega
  have tr : ∀ k' hi' v', sopn G ps wh k' hi' v' → sopn G2 ps2 wh k' hi' v' := fun k' hi' v' hs' => by
    refine sopn.tr k' hi' v' hs' (fun x hx _ hux => ?_)
    have hxp : ¬ x = rn := fun t => hp.1 (t ▸ hx)
    refine ⟨⟨by rw [l1 x hxp]; exact hx, ⟨fun y hy => ?_, fun y hy => ?_⟩⟩, ei x (.inl hx) 0 (by decide) (by decide), ei x (.inl hx) 1 (by decide) (by decide), ei x (.inl hx) 8 (by decide) (by decide), ei x (.inl hx) 11 (by decide) (by decide), ei x (.inl hx) 12 (by decide) (by decide), ev x (.inl hx) 5 (by decide) (by decide)⟩
    · obtain ⟨hy1, hy2⟩ := q90 y hy
      rw [ev y (.inl hy1) 7 (by decide) (by decide)]; exact hux.1 y hy1
    · by_cases e : y = rn
      · rw [e, r6]; exact vNR
      · have hy1 := q94 y hy e
        rw [e6 y (.inr hy1) (n94 y hy1)]; exact hux.2 y hy1
  refine ⟨cup cu rn (lvb cu (fv G g 6)), ⟨⟨cup_0 c0 (lvb_0 c0 _), fun r hr => ?_, fun x hx => ?_, fun x y b hx hy => ?_, fun x y b hx hy => ?_⟩, tr _ _ _ hs⟩, cup_s, fun x e => cup_ne e⟩
  · by_cases e : r = rn
    · rw [e, r6, r7, r8, cup_s, lvb_up (hn.1 g hg2).1]
      exact ⟨Or.inl (Int.le_of_eq lvc_n), (Int.zero_add _).symm⟩
    · have hr1 := q94 r hr e
      rw [e6 r (.inr hr1) (n94 r hr1), ev r (.inr hr1) 7 (by decide) (by decide), ei r (.inr hr1) 8 (by decide) (by decide), lvc_up (hn.2 r hr1).1, lvb_up (hn.2 r hr1).2, cup_ne e]
      exact c1 r hr1
  · obtain ⟨hx1, hx2⟩ := q90 x hx
    rw [ei x (.inl hx1) 0 (by decide) (by decide), ei x (.inl hx1) 1 (by decide) (by decide), ei x (.inl hx1) 8 (by decide) (by decide), ei x (.inl hx1) 11 (by decide) (by decide), ei x (.inl hx1) 12 (by decide) (by decide), ev x (.inl hx1) 7 (by decide) (by decide), lvc_up (hn.1 x hx1).2, cup_ne hx2]
    refine ⟨(c2 x hx1).1, ?_⟩
    by_cases e : x = g
    · rw [e, f11, f12]; exact prq_0 h8
    · rw [e6 x (.inl hx1) e, lvc_up (hn.1 x hx1).1]; exact (c2 x hx1).2
  · obtain ⟨hx1, hx2⟩ := q90 x hx
    by_cases ey : y = rn
    · rw [ey, r7]
      by_cases ex : x = g
      · rw [ex, g6]
        intro t t2
        rw [← vRR t] at t2
        exact (hn.1 g hg2).1 t2
      · rw [e6 x (.inl hx1) ex]
        intro t t2
        exact ex (c4 x g b hx1 hg2 t t2)
    · have hy1 := q94 y hy ey
      rw [ev y (.inr hy1) 7 (by decide) (by decide)]
      by_cases ex : x = g
      · rw [ex, g6]
        intro t
        rw [← vRR t]
        exact (hn.2 y hy1).2
      · rw [e6 x (.inl hx1) ex]
        exact c3 x y b hx1 hy1
  · obtain ⟨hx1, hx2⟩ := q90 x hx
    obtain ⟨hy1, hy2⟩ := q90 y hy
    by_cases ex : x = g
    · by_cases ey : y = g
      · intro _ _; rw [ex, ey]
      · rw [ex, g6, e6 y (.inl hy1) ey]
        intro t t2
        rw [← vRR t] at t2
        exact absurd t2 (hn.1 y hy1).1
    · by_cases ey : y = g
      · rw [ey, g6, e6 x (.inl hx1) ex]
        intro t t2
        rw [← vRR t2] at t
        exact absurd t (hn.1 x hx1).1
      · rw [e6 x (.inl hx1) ex, e6 y (.inl hy1) ey]
        exact c4 x y b hx1 hy1
theorem szI.bar {o o2 : Nat → Nat} {G G2 : ab_G} {z : Nat} {ps ps2 : Nat → Nat} {kk k hi g rn : Nat} {wh : Nat} (hkk : kk = k + 1) (h : szI o G z ps kk hi (vR g) wh 0) (hf : ∀ x, (ps x = 90 ∨ ps x = 94) → ¬ x = g → G2[x]? = G[x]?) (hn : nref G ps rn) (hp : ¬ ps rn = 90 ∧ ¬ ps rn = 94) (l1 : ∀ x, ¬ x = rn → ps2 x = ps x) (l2 : ps2 rn = 94) (hg : ∀ i, i < 14 → ¬ i = 6 → pf G2 g i = pf G g i) (g6 : fv G2 g 6 = vR rn) (r6 : fv G2 rn 6 = vN) (r7 : fv G2 rn 7 = fv G g 6) (r8 : fi G2 rn 8 = 0) (h8 : 0 ≤ fi G g 8) : szI o2 G2 z ps2 kk hi (vR g) wh 0 := by
  obtain ⟨cu, hx, hs, _⟩ := h
  obtain ⟨cu2, ⟨a1, a2⟩, _⟩ := hx.bar hkk hs hf hn hp l1 l2 hg g6 r6 r7 r8 h8
  exact ⟨cu2, a1, a2, Or.inl rfl⟩
/-- a new group, with its first row -/
theorem szX.ent {G G2 : ab_G} {ps ps2 : Nat → Nat} {cu : Nat → Int} {k hi hi2 gn rn : Nat} {v : Value} {wh : Nat} (h : szX G ps cu) (hs : sopn G ps wh k hi v) (hf : ∀ x, (ps x = 90 ∨ ps x = 94) → G2[x]? = G[x]?) (ng : nref G ps gn) (nr : nref G ps rn) (hpg : ¬ ps gn = 90 ∧ ¬ ps gn = 94) (hpr : ¬ ps rn = 90 ∧ ¬ ps rn = 94) (l1 : ∀ x, ¬ x = gn → ¬ x = rn → ps2 x = ps x) (lg : ps2 gn = 90) (lr : ps2 rn = 94) (hg : fi G2 gn 0 = 4 ∧ fi G2 gn 8 = pin 4 (fi G2 gn 1) ∧ fi G2 gn 11 = 0 ∧ fi G2 gn 12 = 0) (g5 : fv G2 gn 5 = v) (g6 : fv G2 gn 6 = vR rn) (g7 : fv G2 gn 7 = vN) (r6 : fv G2 rn 6 = vN) (r7 : fv G2 rn 7 = vN) (r8 : fi G2 rn 8 = 0) (h1 : hi ≤ gn) (h2 : gn < hi2) (hw : k = 0 → gn = wh) : ∃ cu2 : Nat → Int, (szX G2 ps2 cu2 ∧ sopn G2 ps2 wh (k + 1) hi2 (vR gn)) ∧ ∀ x, ¬ x = gn → ¬ x = rn → cu2 x = cu x := by
  obtain ⟨c0, c1, c2, c3, c4⟩ := h
  have ev : ∀ x, (ps x = 90 ∨ ps x = 94) → ∀ i, fv G2 x i = fv G x i := fun x hx i => fv_pf (pf_eq (hf x hx))
  have ei : ∀ x, (ps x = 90 ∨ ps x = 94) → ∀ i, fi G2 x i = fi G x i := fun x hx i => fi_pf (pf_eq (hf x hx))
  have gr : ¬ gn = rn := fun t => by rw [t, lr] at lg; omega
  have q90 : ∀ x, ps2 x = 90 → ¬ x = gn → ps x = 90 ∧ ¬ x = rn := fun x e1 e2 => by
    have e3 : ¬ x = rn := fun t => by rw [t, lr] at e1; omega
    exact ⟨by rw [← l1 x e2 e3]; exact e1, e3⟩
  have q94 : ∀ x, ps2 x = 94 → ¬ x = rn → ps x = 94 ∧ ¬ x = gn := fun x e1 e2 => by
    have e3 : ¬ x = gn := fun t => by rw [t, lg] at e1; omega
    exact ⟨by rw [← l1 x e3 e2]; exact e1, e3⟩
  have hp0 := pin_0 4 (fi G2 gn 1)
  have un : ∀ x, unrf G ps x → unrf G2 ps2 x := fun x hux => by
    refine ⟨fun y hy => ?_, fun y hy => ?_⟩
    · by_cases e : y = gn
      · rw [e, g7]; exact vNR
      · rw [ev y (.inl (q90 y hy e).1) 7]; exact hux.1 y (q90 y hy e).1
    · by_cases e : y = rn
      · rw [e, r6]; exact vNR
      · rw [ev y (.inr (q94 y hy e).1) 6]; exact hux.2 y (q94 y hy e).1
  refine ⟨cup (cup cu gn (fi G2 gn 8)) rn 0, ⟨⟨cup_0 (cup_0 c0 (by omega)) (by omega), fun r hr => ?_, fun x hx => ?_, fun x y b hx hy => ?_, fun x y b hx hy => ?_⟩, ⟨gn, rfl, ⟨lg, h2⟩, hg, ?_, hw, ?_⟩⟩, fun x e1 e2 => (cup_ne e2).trans (cup_ne e1)⟩
  · by_cases e : r = rn
    · rw [e, r6, r7, r8, cup_s]
      exact ⟨Or.inl (Int.le_of_eq lvc_n), by simp only [lvb_n, Int.add_zero]⟩
    · obtain ⟨hr1, hr2⟩ := q94 r hr e
      rw [ev r (.inr hr1) 6, ev r (.inr hr1) 7, ei r (.inr hr1) 8, lvc_up (nr.2 r hr1).1, lvc_up (ng.2 r hr1).1, lvb_up (nr.2 r hr1).2, lvb_up (ng.2 r hr1).2, cup_ne e, cup_ne hr2]
      exact c1 r hr1
  · by_cases e : x = gn
    · rw [e, cup_ne gr, cup_s, g7, hg.2.2.1, hg.2.2.2]
      exact ⟨by rw [lvc_n, Int.add_zero], prq_0 (by omega)⟩
    · obtain ⟨hx1, hx2⟩ := q90 x hx e
      rw [ei x (.inl hx1) 0, ei x (.inl hx1) 1, ei x (.inl hx1) 8, ei x (.inl hx1) 11, ei x (.inl hx1) 12, ev x (.inl hx1) 6, ev x (.inl hx1) 7, lvc_up (nr.1 x hx1).1, lvc_up (ng.1 x hx1).1, lvc_up (nr.1 x hx1).2, lvc_up (ng.1 x hx1).2, cup_ne hx2, cup_ne e]
      exact c2 x hx1
  · by_cases ey : y = rn
    · rw [ey, r7]; exact fun _ => vNR
    · obtain ⟨hy1, hy2⟩ := q94 y hy ey
      rw [ev y (.inr hy1) 7]
      by_cases ex : x = gn
      · rw [ex, g6]
        intro t
        rw [← vRR t]
        exact (nr.2 y hy1).2
      · rw [ev x (.inl (q90 x hx ex).1) 6]
        exact c3 x y b (q90 x hx ex).1 hy1
  · by_cases ex : x = gn
    · by_cases ey : y = gn
      · intro _ _; rw [ex, ey]
      · rw [ex, g6, ev y (.inl (q90 y hy ey).1) 6]
        intro t t2
        rw [← vRR t] at t2
        exact absurd t2 (nr.1 y (q90 y hy ey).1).1
    · by_cases ey : y = gn
      · rw [ey, g6, ev x (.inl (q90 x hx ex).1) 6]
        intro t t2
        rw [← vRR t2] at t
        exact absurd t (nr.1 x (q90 x hx ex).1).1
      · rw [ev x (.inl (q90 x hx ex).1) 6, ev y (.inl (q90 y hy ey).1) 6]
        exact c4 x y b (q90 x hx ex).1 (q90 y hy ey).1
  · refine ⟨fun y hy => ?_, fun y hy => ?_⟩
    · by_cases e : y = gn
      · rw [e, g7]; exact vNR
      · rw [ev y (.inl (q90 y hy e).1) 7]; exact (ng.1 y (q90 y hy e).1).2
    · by_cases e : y = rn
      · rw [e, r6]; exact vNR
      · rw [ev y (.inr (q94 y hy e).1) 6]; exact (ng.2 y (q94 y hy e).1).1
  · rw [g5]
    refine sopn.tr k gn v (hs.up h1) (fun x hx _ hux => ?_)
    have x1 : ¬ x = gn := fun t => hpg.1 (t ▸ hx)
    have x2 : ¬ x = rn := fun t => hpr.1 (t ▸ hx)
    exact ⟨⟨by rw [l1 x x1 x2]; exact hx, un x hux⟩, ei x (.inl hx) 0, ei x (.inl hx) 1, ei x (.inl hx) 8, ei x (.inl hx) 11, ei x (.inl hx) 12, ev x (.inl hx) 5⟩
theorem szI.ent {o o2 : Nat → Nat} {G G2 : ab_G} {z : Nat} {ps ps2 : Nat → Nat} {k hi hi2 gn rn : Nat} {v : Value} {wh : Nat} (h : szI o G z ps k hi v wh 0) (hf : ∀ x, (ps x = 90 ∨ ps x = 94) → G2[x]? = G[x]?) (ng : nref G ps gn) (nr : nref G ps rn) (hpg : ¬ ps gn = 90 ∧ ¬ ps gn = 94) (hpr : ¬ ps rn = 90 ∧ ¬ ps rn = 94) (l1 : ∀ x, ¬ x = gn → ¬ x = rn → ps2 x = ps x) (lg : ps2 gn = 90) (lr : ps2 rn = 94) (hg : fi G2 gn 0 = 4 ∧ fi G2 gn 8 = pin 4 (fi G2 gn 1) ∧ fi G2 gn 11 = 0 ∧ fi G2 gn 12 = 0) (g5 : fv G2 gn 5 = v) (g6 : fv G2 gn 6 = vR rn) (g7 : fv G2 gn 7 = vN) (r6 : fv G2 rn 6 = vN) (r7 : fv G2 rn 7 = vN) (r8 : fi G2 rn 8 = 0) (h1 : hi ≤ gn) (h2 : gn < hi2) (hw : k = 0 → gn = wh) : szI o2 G2 z ps2 (k + 1) hi2 (vR gn) wh 0 := by
  obtain ⟨cu, hx, hs, _⟩ := h
  obtain ⟨cu2, ⟨a1, a2⟩, _⟩ := hx.ent hs hf ng nr hpg hpr l1 lg lr hg g5 g6 g7 r6 r7 r8 h1 h2 hw
  exact ⟨cu2, a1, a2, Or.inl rfl⟩
theorem szI.none {o : Nat → Nat} {G : ab_G} {z : Nat} {ps : Nat → Nat} {hi wh : Nat} (h : ∀ x, ¬ ps x = 90 ∧ ¬ ps x = 94) : szI o G z ps 0 hi vN wh 0 :=
  ⟨fun _ => 0, ⟨fun _ => Int.le_refl _, fun r hr => absurd hr (h r).2, fun p hp => absurd hp (h p).1, fun x _ _ hx _ => absurd hx (h x).1, fun x _ _ hx _ => absurd hx (h x).1⟩, rfl, Or.inl rfl⟩
/-- links go to rows and to parts -/
def typ (G : ab_G) (ps : Nat → Nat) : Prop := (∀ x b, ps x = 90 → (fv G x 6 = vR b → ps b = 94) ∧ (fv G x 7 = vR b → ps b = 90)) ∧ (∀ x b, ps x = 94 → (fv G x 6 = vR b → ps b = 90) ∧ (fv G x 7 = vR b → ps b = 94))
theorem paI.typ {o : Nat → Nat} {G : ab_G} {z : Nat} {ps : Nat → Nat} {wt : Nat → Wt} {bs : Nat} {gr : Int} {Pr : Int → Prop} {ph : Int} (h : paI o G z ps wt bs gr Pr ph) : typ G ps := by
  refine ⟨fun x b hx => ?_, fun x b hx => ?_⟩
  · obtain ⟨k, v, rg, pl, fl, ou, ls, bf, sz, mb, oe, le, mo, la, rc, c1, c2, c3, c4, c5, c6, c7⟩ := h.1 x hx
    obtain ⟨_, e6, e7⟩ := fv_pa c1
    rw [e6, e7]
    exact ⟨fun t => plk_ref c6 t, fun t => plk_ref c7 t⟩
  · obtain ⟨ls, bf, sz, mb, c1, c2, c3, c4⟩ := h.2.1 x hx
    obtain ⟨_, e6, e7⟩ := fv_pa c1
    rw [e6, e7]
    exact ⟨fun t => plk_ref c3 t, fun t => plk_ref c4 t⟩
/-- the inner group is closed: its size is summed up -/
theorem szX.clo {o2 : Nat → Nat} {G G2 : ab_G} {z : Nat} {ps : Nat → Nat} {cu : Nat → Int} {k hi g wh : Nat} (h : szX G ps cu) (hs : sopn G ps wh (k + 1) hi (vR g)) (ht : typ G ps) (hf : ∀ x, (ps x = 90 ∨ ps x = 94) → ¬ x = g → G2[x]? = G[x]?) (hg : ∀ i, i < 14 → ¬ i = 8 → ¬ i = 9 → pf G2 g i = pf G g i) (h8 : 0 ≤ fi G2 g 8) (hc : cl9 (fi G g 8 + lvc cu (fv G g 6)) (fi G2 g 8)) : ∃ cu2 : Nat → Int, (szX G2 ps cu2 ∧ sopn G2 ps wh k g (fv G g 5) ∧ clp G2 ps cu2 g) ∧ ∀ x, ¬ x = g → cu2 x = cu x := by
  obtain ⟨c0, c1, c2, c3, c4⟩ := h
  obtain ⟨g', hv, ⟨hg2, hg3⟩, ⟨f0, f8, f11, f12⟩, hu, hk, hso⟩ := hs
  have hv := vRR hv
  subst hv
  have ev : ∀ x, (ps x = 90 ∨ ps x = 94) → ∀ i, i < 14 → ¬ i = 8 → ¬ i = 9 → fv G2 x i = fv G x i := fun x hx i h1 h2 h3 => by
    by_cases e : x = g
    · rw [e]; exact fv_pf (hg i h1 h2 h3)
    · exact fv_pf (pf_eq (hf x hx e))
  have ei : ∀ x, (ps x = 90 ∨ ps x = 94) → ∀ i, i < 14 → ¬ i = 8 → ¬ i = 9 → fi G2 x i = fi G x i := fun x hx i h1 h2 h3 => by
    by_cases e : x = g
    · rw [e]; exact fi_pf (hg i h1 h2 h3)
    · exact fi_pf (pf_eq (hf x hx e))
  have e8 : ∀ x, (ps x = 90 ∨ ps x = 94) → ¬ x = g → fi G2 x 8 = fi G x 8 := fun x hx e => fi_pf (pf_eq (hf x hx e))
  have n94 : ∀ x, ps x = 94 → ¬ x = g := fun x hx t => by rw [t, hg2] at hx; omega
  have un : ∀ x, unrf G ps x → unrf G2 ps x := fun x hux => ⟨fun y hy => by rw [ev y (.inl hy) 7 (by decide) (by decide) (by decide)]; exact hux.1 y hy, fun y hy => by rw [ev y (.inr hy) 6 (by decide) (by decide) (by decide)]; exact hux.2 y hy⟩
  have a7 : ∀ r, ps r = 94 → ¬ fv G r 7 = vR g := fun r hr t => by have := (ht.2 r g hr).2 t; omega
  have a6 : ∀ x, ps x = 90 → ¬ fv G x 6 = vR g := fun x hx t => by have := (ht.1 x g hx).1 t; omega
  refine ⟨cup cu g (fi G2 g 8 + lvc cu (fv G g 7)), ⟨⟨cup_0 c0 (by have := lvc_0 c0 (fv G g 7); omega), fun r hr => ?_, fun x hx => ?_, fun x y b hx hy => ?_, fun x y b hx hy => ?_⟩, ?_, hg2, un g hu, ?_⟩, fun x e => cup_ne e⟩
  · rw [ev r (.inr hr) 6 (by decide) (by decide) (by decide), ev r (.inr hr) 7 (by decide) (by decide) (by decide), e8 r (.inr hr) (n94 r hr), lvc_up (hu.2 r hr), lvb_up (a7 r hr), cup_ne (n94 r hr)]
    exact c1 r hr
  · rw [ei x (.inl hx) 0 (by decide) (by decide) (by decide), ei x (.inl hx) 1 (by decide) (by decide) (by decide), ei x (.inl hx) 11 (by decide) (by decide) (by decide), ei x (.inl hx) 12 (by decide) (by decide) (by decide), ev x (.inl hx) 6 (by decide) (by decide) (by decide), ev x (.inl hx) 7 (by decide) (by decide) (by decide), lvc_up (a6 x hx), lvc_up (hu.1 x hx)]
    by_cases e : x = g
    · rw [e, cup_s, f11, f12]
      exact ⟨rfl, prq_0 h8⟩
    · rw [cup_ne e, e8 x (.inl hx) e]
      exact c2 x hx
  · rw [ev x (.inl hx) 6 (by decide) (by decide) (by decide), ev y (.inr hy) 7 (by decide) (by decide) (by decide)]
    exact c3 x y b hx hy
  · rw [ev x (.inl hx) 6 (by decide) (by decide) (by decide), ev y (.inl hy) 6 (by decide) (by decide) (by decide)]
    exact c4 x y b hx hy
  · refine sopn.tr k g _ hso (fun x hx hl hux => ?_)
    have xg : ¬ x = g := by omega
    exact ⟨⟨hx, un x hux⟩, ei x (.inl hx) 0 (by decide) (by decide) (by decide), ei x (.inl hx) 1 (by decide) (by decide) (by decide), e8 x (.inl hx) xg, ei x (.inl hx) 11 (by decide) (by decide) (by decide), ei x (.inl hx) 12 (by decide) (by decide) (by decide), ev x (.inl hx) 5 (by decide) (by decide) (by decide)⟩
  · rw [ei g (.inl hg2) 0 (by decide) (by decide) (by decide), ei g (.inl hg2) 1 (by decide) (by decide) (by decide), ev g (.inl hg2) 6 (by decide) (by decide) (by decide), lvc_up (a6 g hg2), f0, ← f8]
    exact hc
/-- a part is put into the inner group's last row, with its repeat -/
theorem szX.app {G G2 : ab_G} {ps : Nat → Nat} {cu : Nat → Int} {kk k hi p g r wh : Nat} (hkk : kk = k + 1) (h : szX G ps cu) (hs : sopn G ps wh kk hi (vR g)) (hq : clp G ps cu p) (ht : typ G ps) (hhi : hi ≤ p ∧ 0 < p) (hf : ∀ x, (ps x = 90 ∨ ps x = 94) → ¬ x = r → ¬ x = p → G2[x]? = G[x]?) (hr : ps r = 94) (g6 : fv G g 6 = vR r) (p0 : fi G2 p 0 = fi G p 0) (p1 : fi G2 p 1 = fi G p 1) (p6 : fv G2 p 6 = fv G p 6) (p7 : fv G2 p 7 = fv G r 6) (p8 : cl9 (tms (fi G2 p 11) (fi G2 p 12) * fi G p 8 + mre (fi G2 p 11) (fi G2 p 12)) (fi G2 p 8)) (pn : 0 ≤ fi G2 p 8 ∧ 0 ≤ fi G2 p 11 ∧ fi G2 p 11 ≤ fi G2 p 12) (r6 : fv G2 r 6 = vR p) (r7 : fv G2 r 7 = fv G r 7) (r8 : cl9 (fi G r 8 + fi G2 p 8) (fi G2 r 8)) (rn : 0 ≤ fi G2 r 8) : ∃ cu2 : Nat → Int, (szX G2 ps cu2 ∧ sopn G2 ps wh kk hi (vR g)) ∧ ∀ x, ¬ x = p → ¬ x = r → cu2 x = cu x := by
  subst hkk
  obtain ⟨c0, c1, c2, c3, c4⟩ := h
  obtain ⟨hp2, hu, hcl⟩ := hq
  obtain ⟨g', hv, ⟨hg2, hg3⟩, ⟨f0, f8, f11, f12⟩, hug, hk, hso⟩ := id hs
  have hv := vRR hv
  subst hv
  have gp : ¬ p = g := by omega
  have rp : ¬ p = r := fun t => by rw [← t, hp2] at hr; omega
  have np90 : ∀ x, ps x = 90 → ¬ fv G x 6 = vR p := fun x hx t => by have := (ht.1 x p hx).1 t; omega
  have np94 : ∀ x, ps x = 94 → ¬ fv G x 7 = vR p := fun x hx t => by have := (ht.2 x p hx).2 t; omega
  have nr90 : ∀ x, ps x = 90 → ¬ fv G x 7 = vR r := fun x hx t => by have := (ht.1 x r hx).2 t; omega
  have nr94 : ∀ x, ps x = 94 → ¬ fv G x 6 = vR r := fun x hx t => by have := (ht.2 x r hx).1 t; omega
  have nr7 : ∀ x, ps x = 94 → ¬ fv G x 7 = vR r := fun x hx => c3 g x r hg2 hx g6
  have nr6 : ∀ x, ps x = 90 → ¬ x = g → ¬ fv G x 6 = vR r := fun x hx e t => e (c4 x g r hx hg2 t g6)
  have n94 : ∀ x, ps x = 94 → ¬ x = p := fun x hx t => by rw [t, hp2] at hx; omega
  have n90 : ∀ x, ps x = 90 → ¬ x = r := fun x hx t => by rw [t, hr] at hx; omega
  have ev : ∀ x, (ps x = 90 ∨ ps x = 94) → ¬ x = r → ¬ x = p → ∀ i, fv G2 x i = fv G x i := fun x hx e1 e2 i => fv_pf (pf_eq (hf x hx e1 e2))
  have ei : ∀ x, (ps x = 90 ∨ ps x = 94) → ¬ x = r → ¬ x = p → ∀ i, fi G2 x i = fi G x i := fun x hx e1 e2 i => fi_pf (pf_eq (hf x hx e1 e2))
  have v6 : ∀ x, ps x = 90 → fv G2 x 6 = fv G x 6 := fun x hx => by
    by_cases e : x = p
    · rw [e]; exact p6
    · exact ev x (.inl hx) (n90 x hx) e 6
  have v7 : ∀ x, ps x = 94 → fv G2 x 7 = fv G x 7 := fun x hx => by
    by_cases e : x = r
    · rw [e]; exact r7
    · exact ev x (.inr hx) e (n94 x hx) 7
  have z6 := lvc_0 c0 (fv G r 6)
  have z7 := lvb_0 c0 (fv G r 7)
  refine ⟨cup (cup cu p (fi G2 p 8 + lvc cu (fv G r 6))) r (fi G2 r 8 + lvb cu (fv G r 7)), ⟨⟨cup_0 (cup_0 c0 (by omega)) (by omega), fun x hx => ?_, fun x hx => ?_, fun x y b hx hy => ?_, fun x y b hx hy => ?_⟩, ?_⟩, fun x e1 e2 => (cup_ne e2).trans (cup_ne e1)⟩
  · by_cases e : x = r
    · rw [e, cup_s, r6, r7, lvb_up (nr7 r hr), lvb_up (np94 r hr)]
      refine ⟨?_, rfl⟩
      rw [lvc_r, cup_ne rp, cup_s]
      rcases r8 with t | t
      · rcases (c1 r hr).1 with s | s
        · exact Or.inl (by omega)
        · exact Or.inr (by omega)
      · exact Or.inr t
    · rw [ev x (.inr hx) e (n94 x hx) 6, v7 x hx, ei x (.inr hx) e (n94 x hx) 8, lvc_up (nr94 x hx), lvc_up (hu.2 x hx), lvb_up (nr7 x hx), lvb_up (np94 x hx), cup_ne e, cup_ne (n94 x hx)]
      exact c1 x hx
  · rw [cup_ne (n90 x hx)]
    by_cases ep : x = p
    · rw [ep, cup_s, p7, lvc_up (nr94 r hr), lvc_up (hu.2 r hr)]
      refine ⟨rfl, ?_⟩
      rw [p0, p1, p6, lvc_up (nr6 p hp2 gp), lvc_up (np90 p hp2)]
      exact prq_rep hcl p8 pn.2 (lvc_0 c0 _)
    · have e := n90 x hx
      rw [ei x (.inl hx) e ep 0, ei x (.inl hx) e ep 1, ei x (.inl hx) e ep 8, ei x (.inl hx) e ep 11, ei x (.inl hx) e ep 12, v6 x hx, ev x (.inl hx) e ep 7, lvc_up (nr90 x hx), lvc_up (hu.1 x hx), cup_ne ep]
      refine ⟨(c2 x hx).1, ?_⟩
      by_cases eg : x = g
      · rw [eg, f11, f12]
        exact prq_0 (by have := pin_0 4 (fi G g 1); omega)
      · rw [lvc_up (nr6 x hx eg), lvc_up (np90 x hx)]
        exact (c2 x hx).2
  · rw [v6 x hx, v7 y hy]
    exact c3 x y b hx hy
  · rw [v6 x hx, v6 y hy]
    exact c4 x y b hx hy
  · refine sopn.tr (k + 1) hi (vR g) hs (fun x hx hl hux => ?_)
    have xp : ¬ x = p := by omega
    have e := n90 x hx
    refine ⟨⟨hx, ⟨fun y hy => ?_, fun y hy => ?_⟩⟩, ei x (.inl hx) e xp 0, ei x (.inl hx) e xp 1, ei x (.inl hx) e xp 8, ei x (.inl hx) e xp 11, ei x (.inl hx) e xp 12, ev x (.inl hx) e xp 5⟩
    · by_cases q : y = p
      · rw [q, p7]; exact hux.2 r hr
      · rw [ev y (.inl hy) (n90 y hy) q 7]; exact hux.1 y hy
    · by_cases q : y = r
      · rw [q, r6]; exact fun t => xp (vRR t).symm
      · rw [ev y (.inr hy) q (n94 y hy) 6]; exact hux.2 y hy
theorem szI.app {o o2 : Nat → Nat} {G G2 : ab_G} {z : Nat} {ps : Nat → Nat} {kk k hi p g r wh : Nat} (hkk : kk = k + 1) (h : szI o G z ps kk hi (vR g) wh p) (ht : typ G ps) (hhi : hi ≤ p ∧ 0 < p) (hf : ∀ x, (ps x = 90 ∨ ps x = 94) → ¬ x = r → ¬ x = p → G2[x]? = G[x]?) (hr : ps r = 94) (g6 : fv G g 6 = vR r) (p0 : fi G2 p 0 = fi G p 0) (p1 : fi G2 p 1 = fi G p 1) (p6 : fv G2 p 6 = fv G p 6) (p7 : fv G2 p 7 = fv G r 6) (p8 : cl9 (tms (fi G2 p 11) (fi G2 p 12) * fi G p 8 + mre (fi G2 p 11) (fi G2 p 12)) (fi G2 p 8)) (pn : 0 ≤ fi G2 p 8 ∧ 0 ≤ fi G2 p 11 ∧ fi G2 p 11 ≤ fi G2 p 12) (r6 : fv G2 r 6 = vR p) (r7 : fv G2 r 7 = fv G r 7) (r8 : cl9 (fi G r 8 + fi G2 p 8) (fi G2 r 8)) (rn : 0 ≤ fi G2 r 8) : szI o2 G2 z ps kk hi (vR g) wh 0 := by
  obtain ⟨cu, hx, hs, hq⟩ := h
  rcases hq with hq | hq
  · omega
  obtain ⟨cu2, ⟨a1, a2⟩, _⟩ := hx.app hkk hs hq ht hhi hf hr g6 p0 p1 p6 p7 p8 pn r6 r7 r8 rn
  exact ⟨cu2, a1, a2, Or.inl rfl⟩
theorem fz.ex1 {ps : Nat → Nat} {a : Nat} {G G2 : ab_G} (h : fz ps [a] G G2) : ∀ x, (ps x = 90 ∨ ps x = 94) → ¬ x = a → G2[x]? = G[x]? := fun x hx e => h x hx (fun t => e (List.mem_singleton.mp t))
theorem fz.ex2 {ps : Nat → Nat} {a b : Nat} {G G2 : ab_G} (h : fz ps [a, b] G G2) : ∀ x, (ps x = 90 ∨ ps x = 94) → ¬ x = a → ¬ x = b → G2[x]? = G[x]? := fun x hx e1 e2 => h x hx (fun t => by
  rcases List.mem_cons.mp t with t | t
  · exact e1 t
  · exact e2 (List.mem_singleton.mp t))
/-! the same, by cells -/
section SzC
variable {o o2 : Nat → Nat} {G G2 : ab_G} {z : Nat} {ps ps2 : Nat → Nat} {wt : Nat → Wt} {bs : Nat} {gr : Int} {Pr : Int → Prop} {ph : Int} {kk k hi hi2 p g r rn wh : Nat} {kg vg plg flg szg mbg oeg leg mog lag rcg : Int} {rgg oug lsg bfg : Value} {kp vp plp flp szp mbp oep lep mop lap rcp : Int} {rgp oup lsp bfp : Value} {lr br : Value} {sr mr sz2 mb2 oe2 l0 m0 z0 sr2 mr2 : Int}
theorem szI.appC (hkk : kk = k + 1) (h : szI o G z ps kk hi (vR g) wh p) (hpa : paI o G z ps wt bs gr Pr ph) (hf : fz ps [r, p] G G2) (cg : cc o G g 90 (paE kg vg rgg plg flg oug (vR r) bfg szg mbg oeg leg mog lag rcg)) (cp : cc o G p 90 (paE kp vp rgp plp flp oup lsp bfp szp mbp oep lep mop lap rcp)) (cr : cc o G r 94 (paE 5 0 vN (-1) 0 vN lr br sr mr 0 0 0 0 (-1))) (cp2 : cc o2 G2 p 90 (paE kp vp rgp plp flp oup lsp lr sz2 mb2 oe2 l0 m0 z0 rcp)) (cr2 : cc o2 G2 r 94 (paE 5 0 vN (-1) 0 vN (vR p) br sr2 mr2 0 0 0 0 (-1))) (hr : ps r = 94) (hhi : hi ≤ p ∧ 0 < p) (b1 : 0 ≤ kp ∧ kp ≤ 5 ∧ -1 ≤ vp ∧ vp ≤ 1114111) (b2 : 0 ≤ szp ∧ szp ≤ 1000000 ∧ 0 ≤ lep ∧ lep ≤ 1000 ∧ 0 ≤ mop ∧ mop ≤ 1000) (b3 : 0 ≤ sz2 ∧ sz2 ≤ 1000000 ∧ 0 ≤ l0 ∧ l0 ≤ m0 ∧ m0 ≤ 1000) (b4 : 0 ≤ sr ∧ sr ≤ 1000000 ∧ 0 ≤ sr2 ∧ sr2 ≤ 1000000) (h8 : cl9 (tms l0 m0 * szp + mre l0 m0) sz2) (h9 : cl9 (sr + sz2) sr2) : szI o2 G2 z ps kk hi (vR g) wh 0 := by
  obtain ⟨a0, a1, a8, _, _⟩ := fi_pa cp b1 b2
  obtain ⟨d0, d1, d8, d11, d12⟩ := fi_pa cp2 b1 (by omega)
  obtain ⟨_, _, r8, _, _⟩ := fi_pa cr (by omega) (by omega)
  obtain ⟨_, _, t8, _, _⟩ := fi_pa cr2 (by omega) (by omega)
  refine szI.app hkk h hpa.typ hhi hf.ex2 hr (fv_pa cg).2.1 (by rw [a0, d0]) (by rw [a1, d1]) (by rw [(fv_pa cp).2.1, (fv_pa cp2).2.1]) (by rw [(fv_pa cp2).2.2, (fv_pa cr).2.1]) ?_ (by omega) (fv_pa cr2).2.1 (by rw [(fv_pa cr2).2.2, (fv_pa cr).2.2]) ?_ (by omega)
  · rw [d11, d12, a8, d8]; exact h8
  · rw [r8, d8, t8]; exact h9
theorem szI.barC (hkk : kk = k + 1) (h : szI o G z ps kk hi (vR g) wh 0) (hn : nref G ps rn) (hp : ¬ ps rn = 90 ∧ ¬ ps rn = 94) (hg : ps g = 90) (l1 : ∀ x, ¬ x = rn → ps2 x = ps x) (l2 : ps2 rn = 94) (hf : fz ps2 [g, rn] G G2) (cg : cc o G g 90 (paE kg vg rgg plg flg oug lsg bfg szg mbg oeg leg mog lag rcg)) (cg2 : cc o2 G2 g 90 (paE kg vg rgg plg flg oug (vR rn) bfg szg mbg oeg leg mog lag rcg)) (cr2 : cc o2 G2 rn 94 (paE 5 0 vN (-1) 0 vN vN lsg 0 mr 0 0 0 0 (-1))) (b1 : 0 ≤ kg ∧ kg ≤ 5 ∧ -1 ≤ vg ∧ vg ≤ 1114111) (b2 : 0 ≤ szg ∧ szg ≤ 1000000 ∧ 0 ≤ leg ∧ leg ≤ 1000 ∧ 0 ≤ mog ∧ mog ≤ 1000) : szI o2 G2 z ps2 kk hi (vR g) wh 0 := by
  obtain ⟨_, _, r8, _, _⟩ := fi_pa cr2 (by omega) (by omega)
  obtain ⟨_, _, a8, _, _⟩ := fi_pa cg b1 b2
  have gr : ∀ x, ps x = 90 ∨ ps x = 94 → ¬ x = rn := fun x hx t => by
    rw [t] at hx
    rcases hx with q | q
    · exact hp.1 q
    · exact hp.2 q
  refine szI.bar hkk h (fun x hx e => hf.ex2 x (by rw [l1 x (gr x hx)]; exact hx) e (gr x hx)) hn hp l1 l2 (fun i hi h6 => ?_) (fv_pa cg2).2.1 (fv_pa cr2).2.1 (by rw [(fv_pa cr2).2.2, (fv_pa cg).2.1]) r8 (by omega)
  unfold pf
  rw [cg.2.2, cg2.2.2]
  rcases (show i = 0 ∨ i = 1 ∨ i = 2 ∨ i = 3 ∨ i = 4 ∨ i = 5 ∨ i = 7 ∨ i = 8 ∨ i = 9 ∨ i = 10 ∨ i = 11 ∨ i = 12 ∨ i = 13 by omega) with e | e | e | e | e | e | e | e | e | e | e | e | e <;> (subst e; rfl)
theorem szI.entC {v : Value} (h : szI o G z ps k hi v wh 0) (ng : nref G ps g) (nr : nref G ps rn) (hpg : ¬ ps g = 90 ∧ ¬ ps g = 94) (hpr : ¬ ps rn = 90 ∧ ¬ ps rn = 94) (l1 : ∀ x, ¬ x = g → ¬ x = rn → ps2 x = ps x) (lg : ps2 g = 90) (lr : ps2 rn = 94) (hf : fz ps2 [g, rn] G G2) (cg2 : cc o2 G2 g 90 (paE 4 vg rgg plg flg v (vR rn) vN szg mbg oeg 0 0 lag rcg)) (cr2 : cc o2 G2 rn 94 (paE 5 0 vN (-1) 0 vN vN vN 0 mr 0 0 0 0 (-1))) (b1 : 0 ≤ vg ∧ vg ≤ 1114111) (b2 : szg = pin 4 vg) (h1 : hi ≤ g) (h2 : g < hi2) (hw : k = 0 → g = wh) : szI o2 G2 z ps2 (k + 1) hi2 (vR g) wh 0 := by
  have hp0 := pin_0 4 vg
  obtain ⟨_, _, r8, _, _⟩ := fi_pa cr2 (by omega) (by omega)
  obtain ⟨a0, a1, a8, a11, a12⟩ := fi_pa cg2 (by omega) (by omega)
  have ne : ∀ x, ps x = 90 ∨ ps x = 94 → ¬ x = g ∧ ¬ x = rn := fun x hx => by
    refine ⟨fun t => ?_, fun t => ?_⟩
    · rw [t] at hx
      rcases hx with q | q
      · exact hpg.1 q
      · exact hpg.2 q
    · rw [t] at hx
      rcases hx with q | q
      · exact hpr.1 q
      · exact hpr.2 q
  exact szI.ent h (fun x hx => hf.ex2 x (by rw [l1 x (ne x hx).1 (ne x hx).2]; exact hx) (ne x hx).1 (ne x hx).2) ng nr hpg hpr l1 lg lr ⟨a0, by rw [a8, a1]; exact b2, a11, a12⟩ (fv_pa cg2).1 (fv_pa cg2).2.1 (fv_pa cg2).2.2 (fv_pa cr2).2.1 (fv_pa cr2).2.2 r8 h1 h2 hw
theorem szX.cloC {cu : Nat → Int} (h : szX G ps cu) (hkk : kk = k + 1) (hs : sopn G ps wh kk hi (vR g)) (hpa : paI o G z ps wt bs gr Pr ph) (hf : fz ps [g] G G2) (cg : cc o G g 90 (paE kg vg rgg plg flg oug lsg bfg szg mbg oeg leg mog lag rcg)) (cg2 : cc o2 G2 g 90 (paE kg vg rgg plg flg oug lsg bfg sz2 mb2 oeg leg mog lag rcg)) (b1 : 0 ≤ kg ∧ kg ≤ 5 ∧ -1 ≤ vg ∧ vg ≤ 1114111) (b2 : 0 ≤ szg ∧ szg ≤ 1000000 ∧ 0 ≤ leg ∧ leg ≤ 1000 ∧ 0 ≤ mog ∧ mog ≤ 1000) (b3 : 0 ≤ sz2 ∧ sz2 ≤ 1000000) (hc : cl9 (szg + lvc cu lsg) sz2) : ∃ cu2 : Nat → Int, (szX G2 ps cu2 ∧ sopn G2 ps wh k g oug ∧ clp G2 ps cu2 g) ∧ ∀ x, ¬ x = g → cu2 x = cu x := by
  subst hkk
  obtain ⟨_, _, a8, _, _⟩ := fi_pa cg b1 b2
  obtain ⟨_, _, d8, _, _⟩ := fi_pa cg2 b1 (by omega)
  have q := szX.clo (o2 := o2) (z := z) h hs hpa.typ hf.ex1 (fun i hi h8 h9 => by
    unfold pf
    rw [cg.2.2, cg2.2.2]
    rcases (show i = 0 ∨ i = 1 ∨ i = 2 ∨ i = 3 ∨ i = 4 ∨ i = 5 ∨ i = 6 ∨ i = 7 ∨ i = 10 ∨ i = 11 ∨ i = 12 ∨ i = 13 by omega) with e | e | e | e | e | e | e | e | e | e | e | e <;> (subst e; rfl)) (by omega) (by rw [a8, d8, (fv_pa cg).2.1]; exact hc)
  rw [(fv_pa cg).1] at q
  exact q
end SzC
/-- what the rows of a group come to -/
def rqs (ps : Nat → Nat) (cu : Nat → Int) (G : ab_G) : Prop := ∀ r, ps r = 94 → cu r = fi G r 8 + lvb cu (fv G r 7)
theorem szX.rqs {G : ab_G} {ps : Nat → Nat} {cu : Nat → Int} (h : szX G ps cu) : rqs ps cu G := fun r hr => (h.2.1 r hr).2
theorem rqs.at {o : Nat → Nat} {ps : Nat → Nat} {cu : Nat → Int} {G : ab_G} {r : Nat} {ls bf : Value} {sz mb : Int} (h : rqs ps cu G) (hr : ps r = 94) (hc : cc o G r 94 (paE 5 0 vN (-1) 0 vN ls bf sz mb 0 0 0 0 (-1))) (hb : 0 ≤ sz ∧ sz ≤ 1000000) : cu r = sz + lvb cu bf := by
  have q := h r hr
  rw [(fv_pa hc).2.2, (fi_pa hc (by omega) (by omega)).2.2.1] at q
  exact q
theorem rqs.same {ps : Nat → Nat} {cu : Nat → Int} {G G2 : ab_G} {A : List Nat} (h : rqs ps cu G) (hf : fz ps A G G2) (hA : ∀ a ∈ A, ps a = 90) : rqs ps cu G2 := fun r hr => by
  have e : G2[r]? = G[r]? := hf r (Or.inr hr) (fun t => by have := hA r t; omega)
  rw [fi_pf (pf_eq e), fv_pf (pf_eq e)]
  exact h r hr
theorem sopn.one {G : ab_G} {ps : Nat → Nat} {wh k hi : Nat} {v : Value} (h : sopn G ps wh k hi v) (hk : k = 0 + 1) : v = vR wh := by
  subst hk
  obtain ⟨g, h1, h2, h3, h4, h5, h6⟩ := h
  rw [h1, h5 rfl]
/-- a pattern that was read: the whole of it -/
def szF (_o : Nat → Nat) (G : ab_G) (_z : Nat) (ps : Nat → Nat) (cu : Nat → Int) (p : Nat) : Prop := szX G ps cu ∧ ps p = 90 ∧ cl9 (lvc cu (fv G p 6)) (fi G p 8)
theorem szF.fr {o o2 : Nat → Nat} {S : List Nat} {G G2 : ab_G} {z : Nat} {ps : Nat → Nat} {wt : Nat → Wt} {bs : Nat} {gr : Int} {Pr : Int → Prop} {ph : Int} {cu : Nat → Int} {p : Nat} (hf : fx o o2 S G G2) (hp : paI o G z ps wt bs gr Pr ph) (h : szF o G z ps cu p) (h90 : ¬ 90 ∈ S) (h94 : ¬ 94 ∈ S) : szF o2 G2 z ps cu p := by
  obtain ⟨h1, h2, h3⟩ := h
  have q := fz.fx hp hf h90 h94
  refine ⟨h1.same (fun x hx i _ => pf_eq (q x hx List.not_mem_nil)), h2, ?_⟩
  rw [fv_pf (pf_eq (q p (.inl h2) List.not_mem_nil)), fi_pf (pf_eq (q p (.inl h2) List.not_mem_nil))]
  exact h3
theorem szF.mk {o : Nat → Nat} {G : ab_G} {z : Nat} {ps : Nat → Nat} {cu : Nat → Int} {p : Nat} (h : szX G ps cu) (hc : clp G ps cu p) : szF o G z ps cu p := by
  refine ⟨h, hc.1, ?_⟩
  have h0 := pin_0 (fi G p 0) (fi G p 1)
  rcases hc.2.2 with t | t
  · exact Or.inl (by omega)
  · exact Or.inr t
/-! what repeat, push and closeRows leave -/
theorem rep_cl {l0 m0 sz v s2 : Int} (hm : ¬ m0 = 1000) (hv : v = m0 * sz) (h : (1000000 ≤ v + (m0 - l0) ∧ s2 = 1000000) ∨ (v + (m0 - l0) < 1000000 ∧ s2 = v + (m0 - l0))) : cl9 (tms l0 m0 * sz + mre l0 m0) s2 := by
  unfold cl9 tms mre
  rw [if_neg hm, if_neg hm, ← hv]
  omega
theorem rep_ce {l0 m0 sz v s2 : Int} (hm : m0 = 1000) (hv : v = (l0 + 1) * sz) (h : (1000000 ≤ v + 1 ∧ s2 = 1000000) ∨ (v + 1 < 1000000 ∧ s2 = v + 1)) : cl9 (tms l0 m0 * sz + mre l0 m0) s2 := by
  unfold cl9 tms mre
  rw [if_pos hm, if_pos hm, ← hv]
  omega
theorem cl_step {s9 a b : Int} (h : cl9 s9 a) (hb : a ≤ b ∨ 404 ≤ b) : cl9 s9 b := by
  unfold cl9 at *
  omega
theorem cl_end {s9 a : Int} {cu : Nat → Int} (h : cl9 s9 (a + lvc cu vN)) : cl9 s9 a := by
  rw [lvc_n, Int.add_zero] at h
  exact h
theorem cl_rf {a : Int} : cl9 a a := Or.inl (Int.le_refl _)
