/-! sizes and states: what is built of a part is at most two states for each of its size -/
def szB (o : Nat → Nat) (G : ab_G) (_z : Nat) (ps : Nat → Nat) (cu : Nat → Int) : Prop := szX G ps cu ∧ (∀ x, ps x = 90 → ∃ (k v : Int) (rg : Value) (pl fl : Int) (ou ls bf : Value) (sz mb oe le mo la rc : Int), cc o G x 90 (paE k v rg pl fl ou ls bf sz mb oe le mo la rc)) ∧ (∀ x, ps x = 94 → ∃ (ls bf : Value) (sz mb : Int), cc o G x 94 (paE 5 0 vN (-1) 0 vN ls bf sz mb 0 0 0 0 (-1)))
theorem szB.of {o : Nat → Nat} {G : ab_G} {z : Nat} {ps : Nat → Nat} {wt : Nat → Wt} {bs : Nat} {gr : Int} {Pr : Int → Prop} {ph : Int} {cu : Nat → Int} (h : szX G ps cu) (hp : paI o G z ps wt bs gr Pr ph) : szB o G z ps cu := by
  refine ⟨h, fun x hx => ?_, fun x hx => ?_⟩
  · obtain ⟨k, v, rg, pl, fl, ou, ls, bf, sz, mb, oe, le, mo, la, rc, c1, _⟩ := hp.1 x hx
    exact ⟨k, v, rg, pl, fl, ou, ls, bf, sz, mb, oe, le, mo, la, rc, c1⟩
  · obtain ⟨ls, bf, sz, mb, c1, _⟩ := hp.2.1 x hx
    exact ⟨ls, bf, sz, mb, c1⟩
theorem szB.fr {o o2 : Nat → Nat} {S : List Nat} {G G2 : ab_G} {z : Nat} {ps : Nat → Nat} {cu : Nat → Int} (hf : fx o o2 S G G2) (h : szB o G z ps cu) (h90 : ¬ 90 ∈ S) (h94 : ¬ 94 ∈ S) : szB o2 G2 z ps cu := by
  obtain ⟨h1, h2, h3⟩ := h
  refine ⟨h1.same (fun x hx i _ => pf_eq ?_), fun x hx => ?_, fun x hx => ?_⟩
  · rcases hx with q | q
    · obtain ⟨k, v, rg, pl, fl, ou, ls, bf, sz, mb, oe, le, mo, la, rc, c⟩ := h2 x q
      exact (hf.get c h90).2.2.trans c.2.2.symm
    · obtain ⟨ls, bf, sz, mb, c⟩ := h3 x q
      exact (hf.get c h94).2.2.trans c.2.2.symm
  · obtain ⟨k, v, rg, pl, fl, ou, ls, bf, sz, mb, oe, le, mo, la, rc, c⟩ := h2 x hx
    exact ⟨k, v, rg, pl, fl, ou, ls, bf, sz, mb, oe, le, mo, la, rc, hf.get c h90⟩
  · obtain ⟨ls, bf, sz, mb, c⟩ := h3 x hx
    exact ⟨ls, bf, sz, mb, hf.get c h94⟩
theorem szB.wrec {o : Nat → Nat} {G G2 : ab_G} {z : Nat} {ps : Nat → Nat} {cu : Nat → Int} {a : Nat} {k v : Int} {rg : Value} {pl fl : Int} {ou ls bf : Value} {sz mb oe le mo la rc r : Int} (h : szB o G z ps cu) (hc : cc o G a 90 (paE k v rg pl fl ou ls bf sz mb oe le mo la rc)) (e : G2 = List.set G a (paE k v rg pl fl ou ls bf sz mb oe le mo la r)) : szB o G2 z ps cu := by
  obtain ⟨h1, h2, h3⟩ := h
  have hk := hc.kept e
  refine ⟨h1.same (fun x hx i hi => ?_), fun x hx => ?_, fun x hx => ?_⟩
  · by_cases t : x = a
    · subst t
      unfold pf
      rw [hk.2.2, hc.2.2]
      rcases (show i = 0 ∨ i = 1 ∨ i = 2 ∨ i = 3 ∨ i = 4 ∨ i = 5 ∨ i = 6 ∨ i = 7 ∨ i = 8 ∨ i = 9 ∨ i = 10 ∨ i = 11 ∨ i = 12 ∨ i = 13 by omega) with q | q | q | q | q | q | q | q | q | q | q | q | q | q <;> (subst q; rfl)
    · exact pf_eq (by rw [e, List.getElem?_set_ne (fun y => t y.symm)])
  · by_cases t : x = a
    · subst t
      exact ⟨k, v, rg, pl, fl, ou, ls, bf, sz, mb, oe, le, mo, la, r, hk⟩
    · obtain ⟨k', v', rg', pl', fl', ou', ls', bf', sz', mb', oe', le', mo', la', rc', c⟩ := h2 x hx
      exact ⟨k', v', rg', pl', fl', ou', ls', bf', sz', mb', oe', le', mo', la', rc', c.keep' e (fun y => t y.symm)⟩
  · obtain ⟨ls', bf', sz', mb', c⟩ := h3 x hx
    exact ⟨ls', bf', sz', mb', c.keep' e (fun y => by have := c.1; rw [← y] at this; have := this.symm.trans hc.1; omega)⟩
theorem szB.c0 {o : Nat → Nat} {G : ab_G} {z : Nat} {ps : Nat → Nat} {cu : Nat → Int} (h : szB o G z ps cu) : ∀ a, 0 ≤ cu a := h.1.1
section SzBC
variable {o : Nat → Nat} {G : ab_G} {z : Nat} {ps : Nat → Nat} {cu : Nat → Int} {p l : Nat} {k v : Int} {rg : Value} {pl fl : Int} {ou ls bf : Value} {sz mb oe le mo la rc bq : Int}
theorem szB.prq (h : szB o G z ps cu) (hp : ps p = 90) (hc : cc o G p 90 (paE k v rg pl fl ou ls bf sz mb oe le mo la rc)) (b1 : 0 ≤ k ∧ k ≤ 5 ∧ -1 ≤ v ∧ v ≤ 1114111) (b2 : 0 ≤ sz ∧ sz ≤ 1000000 ∧ 0 ≤ le ∧ le ≤ 1000 ∧ 0 ≤ mo ∧ mo ≤ 1000) : prq k v le mo (lvc cu ls) sz ∧ cu p = sz + lvc cu bf := by
  obtain ⟨q1, q2⟩ := h.1.2.2.1 p hp
  obtain ⟨f0, f1, f8, f11, f12⟩ := fi_pa hc b1 b2
  obtain ⟨_, e6, e7⟩ := fv_pa hc
  rw [f8, e7] at q1
  rw [f0, f1, f8, f11, f12, e6] at q2
  exact ⟨q2, q1⟩
theorem szB.row (h : szB o G z ps cu) (hp : ps p = 94) (hc : cc o G p 94 (paE 5 0 vN (-1) 0 vN ls bf sz mb 0 0 0 0 (-1))) (b2 : 0 ≤ sz ∧ sz ≤ 1000000) : cl9 (lvc cu ls) sz ∧ cu p = sz + lvb cu bf := by
  obtain ⟨q1, q2⟩ := h.1.2.1 p hp
  obtain ⟨f0, f1, f8, f11, f12⟩ := fi_pa hc (by omega) (by omega)
  obtain ⟨_, e6, e7⟩ := fv_pa hc
  rw [f8, e6] at q1
  rw [f8, e7] at q2
  exact ⟨q1, q2⟩
def bqo (G : ab_G) (cu : Nat → Int) (p : Nat) (bq : Int) : Prop := 0 ≤ bq ∧ pin (fi G p 0) (fi G p 1) + lvc cu (fv G p 6) ≤ bq
def bqr (G : ab_G) (cu : Nat → Int) (p : Nat) (bq : Int) : Prop := 0 ≤ bq ∧ lvc cu (fv G p 6) ≤ bq
def bqs (G : ab_G) (p : Nat) (bq : Int) : Prop := 0 ≤ bq ∧ fi G p 8 ≤ bq
theorem bqo_c (hc : cc o G p l (paE k v rg pl fl ou ls bf sz mb oe le mo la rc)) (b1 : 0 ≤ k ∧ k ≤ 5 ∧ -1 ≤ v ∧ v ≤ 1114111) (b2 : 0 ≤ sz ∧ sz ≤ 1000000 ∧ 0 ≤ le ∧ le ≤ 1000 ∧ 0 ≤ mo ∧ mo ≤ 1000) (h : 0 ≤ bq ∧ pin k v + lvc cu ls ≤ bq) : bqo G cu p bq := by
  unfold bqo
  rw [(fi_pa hc b1 b2).1, (fi_pa hc b1 b2).2.1, (fv_pa hc).2.1]
  exact h
theorem bqo_e (hc : cc o G p l (paE k v rg pl fl ou ls bf sz mb oe le mo la rc)) (b1 : 0 ≤ k ∧ k ≤ 5 ∧ -1 ≤ v ∧ v ≤ 1114111) (b2 : 0 ≤ sz ∧ sz ≤ 1000000 ∧ 0 ≤ le ∧ le ≤ 1000 ∧ 0 ≤ mo ∧ mo ≤ 1000) (h : bqo G cu p bq) : 0 ≤ bq ∧ pin k v + lvc cu ls ≤ bq := by
  unfold bqo at h
  rw [(fi_pa hc b1 b2).1, (fi_pa hc b1 b2).2.1, (fv_pa hc).2.1] at h
  exact h
theorem bqr_c (hc : cc o G p l (paE k v rg pl fl ou ls bf sz mb oe le mo la rc)) (h : 0 ≤ bq ∧ lvc cu ls ≤ bq) : bqr G cu p bq := by
  unfold bqr
  rw [(fv_pa hc).2.1]
  exact h
theorem bqr_e (hc : cc o G p l (paE k v rg pl fl ou ls bf sz mb oe le mo la rc)) (h : bqr G cu p bq) : 0 ≤ bq ∧ lvc cu ls ≤ bq := by
  unfold bqr at h
  rw [(fv_pa hc).2.1] at h
  exact h
theorem bqs_c (hc : cc o G p l (paE k v rg pl fl ou ls bf sz mb oe le mo la rc)) (b1 : 0 ≤ k ∧ k ≤ 5 ∧ -1 ≤ v ∧ v ≤ 1114111) (b2 : 0 ≤ sz ∧ sz ≤ 1000000 ∧ 0 ≤ le ∧ le ≤ 1000 ∧ 0 ≤ mo ∧ mo ≤ 1000) (h : 0 ≤ bq ∧ sz ≤ bq) : bqs G p bq := by
  unfold bqs
  rw [(fi_pa hc b1 b2).2.2.1]
  exact h
theorem bqs_e (hc : cc o G p l (paE k v rg pl fl ou ls bf sz mb oe le mo la rc)) (b1 : 0 ≤ k ∧ k ≤ 5 ∧ -1 ≤ v ∧ v ≤ 1114111) (b2 : 0 ≤ sz ∧ sz ≤ 1000000 ∧ 0 ≤ le ∧ le ≤ 1000 ∧ 0 ≤ mo ∧ mo ≤ 1000) (h : bqs G p bq) : 0 ≤ bq ∧ sz ≤ bq := by
  unfold bqs at h
  rw [(fi_pa hc b1 b2).2.2.1] at h
  exact h
theorem szF.bqr (h : szF o G z ps cu p) (hc : cc o G p l (paE k v rg pl fl ou ls bf sz mb oe le mo la rc)) (b1 : 0 ≤ k ∧ k ≤ 5 ∧ -1 ≤ v ∧ v ≤ 1114111) (b2 : 0 ≤ sz ∧ sz ≤ 1000000 ∧ 0 ≤ le ∧ le ≤ 1000 ∧ 0 ≤ mo ∧ mo ≤ 1000) (h4 : sz ≤ 400) : bqr G cu p sz := by
  refine ⟨b2.1, ?_⟩
  have q := h.2.2
  rw [(fi_pa hc b1 b2).2.2.1] at q
  rcases q with t | t
  · exact t
  · omega
end SzBC
theorem pin_v {k v : Int} (h : k = 4) (hv : ¬ v = 0) : pin k v = 2 := by
  unfold pin
  rw [if_pos h, if_neg hv]
theorem pin_1 {k v : Int} (h : ¬ k = 4) : pin k v = 1 := if_neg h
/-- i times at most e more -/
def wml (c b i e : Int) : Prop := c ≤ b + i * e
theorem wml_0 {c b i e : Int} (h : c ≤ b) (hi : i = 0) : wml c b i e := by
  unfold wml
  rw [hi, Int.zero_mul]
  omega
theorem wml_s {c c2 b i i2 e : Int} (h : wml c b i e) (hc : c2 ≤ c + e) (hi : i2 = i + 1) : wml c2 b i2 e := by
  unfold wml at *
  rw [hi, Int.add_mul, Int.one_mul]
  generalize i * e = P at *
  omega
theorem rep_f1 {k v le mo c sz e c0 c1 c2 bq : Int} (hq : prq k v le mo c sz) (hm : mo = 1000) (h1 : c1 ≤ c0 + 2 * e + 2) (h2 : wml c2 c1 le (2 * e)) (he : e = pin k v + c) (hb : sz ≤ bq) (h8 : c2 ≤ 808) (h0 : 0 ≤ c0) : c2 ≤ c0 + 2 * bq := by
  rcases hq.1 with t | t
  · unfold tms mre at t
    rw [if_pos hm, if_pos hm, ← he, Int.add_mul, Int.one_mul] at t
    unfold wml at h2
    rw [Int.mul_left_comm le 2 e] at h2
    generalize le * e = P at *
    omega
  · omega
theorem rep_f2 {k v le mo c sz e c0 c1 c2 bq : Int} (hq : prq k v le mo c sz) (hm : ¬ mo = 1000) (h1 : wml c1 c0 (mo - le) (2 * e + 2)) (h2 : wml c2 c1 le (2 * e)) (he : e = pin k v + c) (hb : sz ≤ bq) (h8 : c2 ≤ 808) (h0 : 0 ≤ c0) : c2 ≤ c0 + 2 * bq := by
  rcases hq.1 with t | t
  · unfold tms mre at t
    rw [if_neg hm, if_neg hm, ← he] at t
    unfold wml at h1 h2
    rw [Int.mul_left_comm le 2 e] at h2
    rw [Int.sub_mul, Int.mul_add mo, Int.mul_add le, Int.mul_left_comm mo 2 e, Int.mul_left_comm le 2 e] at h1
    generalize le * e = P at *
    generalize mo * e = R at *
    omega
  · omega
