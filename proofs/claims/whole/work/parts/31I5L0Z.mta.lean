/-! match: what one run finds, of the slot's text, whichever machine runs -/
def momc (mi : Int) (K N O RR : Int → Int) (cnt fi : Int) : Prop := mi = 1 → omC K N O RR cnt fi
theorem momc_0 {K N O RR : Int → Int} {cnt fi mi : Int} (h : ¬ mi = 1) : momc mi K N O RR cnt fi := fun z => absurd z h
theorem tkN_l1 {K : Int → Int} (h0 : K 0 = 9) : ∀ m : Nat, tkN K (m + 1) ≤ (m : Int) := by
  intro m
  induction m with
  | zero =>
    rw [tkN_1]
    have e : ¬ K ((0 : Nat) : Int) ≤ 2 := by
      rw [show ((0 : Nat) : Int) = 0 from rfl, h0]; omega
    rw [if_neg e]
    have z : tkN K 0 = 0 := rfl
    omega
  | succ m ih =>
    rw [tkN_1]
    split <;> omega
theorem kkF_of {K : Int → Int} {la cnt : Int} (h : laI la K cnt) (h0 : K 0 = 9) (hc : 2 ≤ cnt ∧ cnt ≤ 808) (ht : cnt + tkn K cnt ≤ 802) : kkF K cnt := by
  have e : tkn K cnt ≤ cnt - 1 := by
    have q := tkN_l1 h0 (cnt - 1).toNat
    have w : (cnt - 1).toNat + 1 = cnt.toNat := by omega
    rw [w] at q
    have u : tkn K cnt = tkN K cnt.toNat := rfl
    omega
  exact ⟨h.2, h0, by omega, by omega⟩
theorem fdC_2 {v : Sn} {f SP : Int → Int} {n fr wi fo : Int} (hb : bytes f n) (p0 : 0 ≤ fr) (p1 : fr ≤ n) (h : fdC v f n 0 2 fr wi fo SP) : fdC v f n 1 2 fr wi fo SP := by
  obtain ⟨S, st, h1, h2⟩ := h
  have e : ∀ p : Int, fr ≤ p → p ≤ laR 2 n fr → mtR 0 2 n (wyR v f n p) = mtR 1 2 n (wyR v f n p) := fun p a b => by
    have q := laR_1 (hw := 2) (n := n) (fr := fr) (by decide)
    exact mtR_2 _ (fun x hx => (wyR_in hb (by omega) (by omega) x hx).2)
  refine ⟨S, st, ?_, h2⟩
  rcases h1 with ⟨a, b⟩ | ⟨a, b, c, d⟩
  · exact Or.inl ⟨a, fun p q0 q1 => by rw [← e p q0 q1]; exact b p q0 q1⟩
  · exact Or.inr ⟨a, b, by rw [← e st b.1 b.2]; exact c, fun p q0 q1 => by rw [← e p q0 (by omega)]; exact d p q0 q1⟩
theorem fd0_X {v : Sn} {f SP : Int → Int} {n fy hw fl fr wi fo : Int} (hf : fst hw fl fy) (h0 : 0 ≤ fl ∧ fl ≤ 31) (h : fdC v f n fy hw fr wi fo SP) : fdC v f n (fyX hw fl) hw fr wi fo SP := by
  have e : fy = fyX hw fl := by
    unfold fyX
    unfold fst at hf
    split <;> omega
  rw [← e]
  exact h
theorem fd1_X {v : Sn} {f SP : Int → Int} {n fy hw fl fr wi fo : Int} (hf : fst1 hw fl fy) (h0 : 0 ≤ fl ∧ fl ≤ 31) (hb : bytes f n) (hp : 0 ≤ fr ∧ fr ≤ n) (h : fdC v f n fy hw fr wi fo SP) : fdC v f n (fyX hw fl) hw fr wi fo SP := by
  by_cases e : hw = 2
  · have e0 : fy = 0 := by
      unfold fst1 at hf
      omega
    rw [e0, e] at h
    rw [e, show fyX 2 fl = 1 from if_pos rfl]
    exact fdC_2 hb hp.1 hp.2 h
  · have e1 : fy = fyX hw fl := by
      unfold fyX
      rw [if_neg e]
      unfold fst1 at hf
      omega
    rw [← e1]
    exact h
theorem fdC_no {v : Sn} {f SP : Int → Int} {n fy hw fr wi : Int} (h : ¬ exM v f n hw fr) : fdC v f n fy hw fr wi 0 SP := ⟨none, 0, Or.inl ⟨rfl, fun p a b => mtR_none.mpr (fun x hx q => h ⟨p, ⟨a, b⟩, x, hx, q⟩)⟩, Or.inl ⟨rfl, rfl⟩⟩
/-- what a run answers and leaves -/
def rnY (cv : Int → Int) (lq : Nat) (f : Int → Int) (n hw fr r : Int) (SP : Int → Int) : Prop := ∃ (v : Sn) (fo : Int), mnV cv lq v ∧ wpR v ∧ bytes f n ∧ fdC v f n (fyX hw (cvI cv lq 2)) hw fr (2 * (cvI cv lq 0 + 1)) fo SP ∧ ((fo = 0 ∧ r = -1) ∨ (fo = 1 ∧ r = SP 1 ∧ 0 ≤ r))
section RnY
variable {cv f SP NL NA : Int → Int} {lq : Nat} {v : Sn} {n fy hw fl fr wi fo gr sz r t : Int}
theorem rnY_m (hm : mnV cv lq v) (w : wpR v) (hb : bytes f n) (hf : fst hw fl fy) (h0 : 0 ≤ fl ∧ fl ≤ 31) (hi : ivR gr sz fl NL NA cv lq) (hg : wi = 2 * (gr + 1)) (h : fdC v f n fy hw fr wi fo SP) (hr : (fo = 0 ∧ r = -1) ∨ (fo = 1 ∧ r = SP 1 ∧ 0 ≤ r)) : rnY cv lq f n hw fr r SP := by
  have q := fd0_X hf h0 h
  rw [hg, ← hi.1, ← hi.2.2.1] at q
  exact ⟨v, fo, hm, w, hb, q, hr⟩
theorem rnY_t (hm : mnV cv lq v) (w : wpR v) (hb : bytes f n) (hf : fst1 hw fl fy) (h0 : 0 ≤ fl ∧ fl ≤ 31) (hi : ivR gr sz fl NL NA cv lq) (hg : wi = 2 * (gr + 1)) (hp : 0 ≤ fr ∧ fr ≤ n) (h : fdC v f n fy hw fr wi fo SP) (hr : (fo = 0 ∧ r = -1) ∨ (fo = 1 ∧ r = SP 1 ∧ 0 ≤ r)) : rnY cv lq f n hw fr r SP := by
  have q := fd1_X hf h0 hb hp h
  rw [hg, ← hi.1, ← hi.2.2.1] at q
  exact ⟨v, fo, hm, w, hb, q, hr⟩
theorem rnY_s (hm : mnV cv lq v) (w : wpR v) (hb : bytes f n) (h : tlC v f n hw fr t) (ht : t = 0) (hr : r = -1) : rnY cv lq f n hw fr r SP := by
  have q : ¬ exM v f n hw fr := by
    rcases h with ⟨a, _⟩ | ⟨_, b⟩ | a
    · omega
    · exact b
    · omega
  exact ⟨v, 0, hm, w, hb, fdC_no q, Or.inl ⟨rfl, hr⟩⟩
end RnY
/-- what match answers, and what is the latest then -/
def mtP (PG : Nat → Option Nat) (cv : Int → Int) (sl : Int) (f : Int → Int) (n hw mc fr r : Int) (LA : Int → Int) : Prop := ((0 ≤ sl ∧ sl < 6) ∧ ∃ b : Nat, PG sl.toNat = some b) ∧ ((0 ≤ hw ∧ hw ≤ 2) ∧ (0 ≤ mc ∧ mc ≤ 4) ∧ 0 ≤ fr ∧ fr ≤ n) ∧ (-1 ≤ r ∧ r ≤ 3000) ∧ ∃ (v : Sn) (fo : Int), mnV cv (100 + 10 * sl.toNat) v ∧ wpR v ∧ bytes f n ∧ fdC v f n (fyX hw (cvI cv (100 + 10 * sl.toNat) 2)) hw fr (2 * (cvI cv (100 + 10 * sl.toNat) 0 + 1)) fo LA ∧ ((fo = 0 ∧ r = -1 ∧ ∀ i : Int, 0 ≤ i → i < 20 → LA i = -1) ∨ (fo = 1 ∧ (r = LA 1 ∧ 0 ≤ r) ∧ ∀ i : Int, 2 * (cvI cv (100 + 10 * sl.toNat) 0 + 1) ≤ i → i < 20 → LA i = -1))
section MtP
variable {PG : Nat → Option Nat} {cv f SP LA : Int → Int} {k b : Nat} {sl n hw mc fr r gr wi : Int}
theorem mtP_y (hk : k = sl.toNat) (hq : PG k = some b) (hs : 0 ≤ sl ∧ sl < 6) (hr : (0 ≤ hw ∧ hw ≤ 2) ∧ (0 ≤ mc ∧ mc ≤ 4) ∧ 0 ≤ fr ∧ fr ≤ n) (h : rnY cv (100 + 10 * k) f n hw fr r SP) (hg : cvI cv (100 + 10 * k) 0 = gr) (hw2 : wi = 2 * (gr + 1) ∧ 0 ≤ gr ∧ gr ≤ 9) (hn : ¬ r = -1) (hb : -1 ≤ r ∧ r ≤ 3000) : mtP PG cv sl f n hw mc fr r (zcpy SP (zfill LA 0 20 (-1)) 0 0 wi) := by
  subst hk
  obtain ⟨v, fo, a1, a2, a3, a4, a5⟩ := h
  have e : ∀ j : Int, 0 ≤ j → j < wi → zcpy SP (zfill LA 0 20 (-1)) 0 0 wi j = SP j := fun j j0 j1 => zcpy_0 ⟨j0, j1⟩
  refine ⟨⟨hs, b, hq⟩, hr, hb, v, fo, a1, a2, a3, ?_, Or.inr ⟨by omega, ⟨?_, by omega⟩, fun i i0 i1 => ?_⟩⟩
  · rw [hg, ← hw2.1] at a4 ⊢
    exact a4.cg (fun j j0 j1 => e j j0 j1) (by omega)
  · rw [e 1 (by omega) (by omega)]
    omega
  · rw [hg] at i0
    rw [zcpy_out (by omega), zfill_in (by omega)]
theorem mtP_n (hk : k = sl.toNat) (hq : PG k = some b) (hs : 0 ≤ sl ∧ sl < 6) (hr : (0 ≤ hw ∧ hw ≤ 2) ∧ (0 ≤ mc ∧ mc ≤ 4) ∧ 0 ≤ fr ∧ fr ≤ n) (h : rnY cv (100 + 10 * k) f n hw fr r SP) (hn : r = -1) (hb : -1 ≤ r ∧ r ≤ 3000) : mtP PG cv sl f n hw mc fr r (zfill LA 0 20 (-1)) := by
  subst hk
  obtain ⟨v, fo, a1, a2, a3, a4, a5⟩ := h
  refine ⟨⟨hs, b, hq⟩, hr, hb, v, 0, a1, a2, a3, ?_, Or.inl ⟨rfl, hn, fun i i0 i1 => zfill_in (by omega)⟩⟩
  obtain ⟨S, st, c1, c2⟩ := a4
  have e : S = none := mch_n c2 (by omega)
  exact ⟨S, st, c1, Or.inl ⟨e, rfl⟩⟩
end MtP
theorem mtP.b {PG : Nat → Option Nat} {cv f LA : Int → Int} {sl n hw mc fr r : Int} (h : mtP PG cv sl f n hw mc fr r LA) : -1 ≤ r ∧ r ≤ 3000 := h.2.2.1
/-- what group tells of the latest -/
def grC (LA : Int → Int) (k wh u : Int) : Prop := (¬ ((0 ≤ k ∧ k ≤ 9) ∧ 0 ≤ wh ∧ wh ≤ 1) ∧ u = -1) ∨ (((0 ≤ k ∧ k ≤ 9) ∧ 0 ≤ wh ∧ wh ≤ 1) ∧ u = LA (2 * k + wh))
