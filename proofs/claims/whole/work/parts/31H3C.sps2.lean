/-! what the steps mean is one -/
section SsDet
variable {f : Int → Int} {n fl : Int}
theorem lfM_c {flg p q : Int} {v : Sn} (h : lfM f n flg p v q) : ¬ tpk f n p = -1 ∧ ¬ tpk f n p = 40 ∧ ¬ tpk f n p = 41 ∧ ¬ tpk f n p = 124 := by
  unfold lfM plc at h
  rcases h with ⟨h, _⟩ | ⟨h, _⟩ | ⟨h, _⟩ | ⟨h, _⟩ | ⟨h, _⟩ | ⟨h, _⟩ | ⟨h, _⟩ <;> omega
theorem lfM_det {flg p q q2 : Int} {v v2 : Sn} (h : lfM f n flg p v q) (h2 : lfM f n flg p v2 q2) : v = v2 := by
  rcases h with ⟨a0, c, a1, a2⟩ | ⟨a0, k, b, a1, a2⟩ | ⟨a0, no, fi, P, a1, a2, a3, a4⟩ | ⟨a0, a1, a2⟩ | ⟨a0, a1, a2⟩ | ⟨a0, a1, a2⟩ | ⟨⟨p1, p2, p3, p4, p5, p6, p7, p8, p9⟩, a1, a2, a3⟩ <;> rcases h2 with ⟨b0, c', b1, b2⟩ | ⟨b0, k', b', b1, b2⟩ | ⟨b0, no', fi', P', b1, b2, b3, b4⟩ | ⟨b0, b1, b2⟩ | ⟨b0, b1, b2⟩ | ⟨b0, b1, b2⟩ | ⟨⟨q1, q2, q3, q4, q5, q6, q7, q8, q9⟩, b1, b2, b3⟩ <;> first | (exfalso; omega) | skip
  · obtain ⟨e1, e2⟩ := esc1_det a1 b1
    subst e1 e2
    rcases a2 with ⟨a, a2⟩ | ⟨a, a2⟩ | ⟨a, a2⟩ <;> rcases b2 with ⟨b, b2⟩ | ⟨b, b2⟩ | ⟨b, b2⟩ <;> first | (exfalso; omega) | exact a2.trans b2.symm
  · exact (esc12 a1 b1).elim
  · exact (esc12 b1 a1).elim
  · obtain ⟨e1, e2, e3⟩ := esc2_det a1 b1
    subst e1 e2 e3
    exact a2.trans b2.symm
  · obtain ⟨e1, e2⟩ := clb_det a1 b1
    subst e1 e2
    obtain ⟨e3, e4⟩ := clT_end a2 a3 b2 b3
    rw [a4, b4]
    refine mnS_cg (fun x => ?_)
    unfold clno
    rw [e4 x]
  · exact a2.trans b2.symm
  · exact a2.trans b2.symm
  · exact a2.trans b2.symm
  · exact a3.trans b3.symm
theorem ptV_det {p flg p2 : Int} {fr : List Fr} {FS FS2 FS3 : List Fs} {v v2 : Sn} (h : ptV f n p flg fr FS p2 FS2 v) (h2 : ptV f n p flg fr FS p2 FS3 v2) : FS2 = FS3 ∧ v = v2 := by
  rcases h with ⟨a1, a2⟩ | ⟨a0, a, b, c, d, e, t, bo, w, a1, a2, a3⟩ <;> rcases h2 with ⟨b1, b2⟩ | ⟨b0, a', b', c', d', e', t', bo', w', b1, b2, b3⟩
  · exact ⟨a2.trans b2.symm, lfM_det a1 b1⟩
  · exact absurd b0 (lfM_c a1).2.2.1
  · exact absurd a0 (lfM_c b1).2.2.1
  · rw [a1] at b1
    cases b1
    rw [a2] at b2
    cases b2
    exact ⟨rfl, a3.trans b3.symm⟩
theorem ptW_c {p : Int} {fr fr2 : List Fr} {FS FS2 : List Fs} (h : ptW f n p fr fr2 FS FS2) : tpk f n p = 124 ∨ tpk f n p = 40 := by
  rcases h with ⟨h, _⟩ | ⟨h, _⟩
  · exact Or.inl h
  · exact Or.inr h
theorem ptW_det {p : Int} {fr fr2 : List Fr} {FS FS2 FS3 : List Fs} (h : ptW f n p fr fr2 FS FS2) (h2 : ptW f n p fr fr2 FS FS3) : FS2 = FS3 := by
  rcases h with ⟨a0, ao, w, t, a1, a2⟩ | ⟨a0, ⟨a1, a2⟩ | ⟨a1, a2⟩⟩ <;> rcases h2 with ⟨b0, ao', w', t', b1, b2⟩ | ⟨b0, ⟨b1, b2⟩ | ⟨b1, b2⟩⟩ <;> first | (exfalso; omega) | skip
  · rw [a1] at b1
    cases b1
    exact a2.trans b2.symm
  · exact a2.trans b2.symm
  · exact a2.trans b2.symm
theorem stS_det {s s2 : Sta} {S S2 S3 : SS} (h : stS f n s S s2 S2) (h2 : stS f n s S s2 S3) : S2 = S3 := by
  obtain ⟨p, flg, grp, na, nl, fr, rp, ls⟩ := s
  obtain ⟨p2, flg2, grp2, na2, nl2, fr2, rp2, ls2⟩ := s2
  obtain ⟨FS, rw', v⟩ := S
  obtain ⟨FS2, rw2, v2⟩ := S2
  obtain ⟨FS3, rw3, v3⟩ := S3
  rcases h with ⟨a0, ao, t, a1, a2⟩ | ⟨a0, a1, a2, a3⟩ | ⟨a0, ⟨l, m, e, k, ao, w, t, a1, a2, a3⟩, a4, a5⟩ <;> rcases h2 with ⟨b0, ao', t', b1, b2⟩ | ⟨b0, b1, b2, b3⟩ | ⟨b0, ⟨l', m', e', k', ao', w', t', b1, b2, b3⟩, b4, b5⟩ <;> first | (exfalso; omega) | skip
  · obtain ⟨e1, e2⟩ := ptV_det a1 b1
    cases e1
    subst e2
    rw [a2, b2]
  · have e := ptW_det a1 b1
    rw [e, a2, b2, a3, b3]
  · have c1 := ptW_c a1
    have c2 := repR_c b1
    exfalso; omega
  · have c1 := ptW_c b1
    have c2 := repR_c a1
    exfalso; omega
  · obtain ⟨e1, e2, e3, e4⟩ := repR_det a1 b1
    subst e1 e2 e3
    rw [a2] at b2
    cases b2
    rw [a3, b3, a4, b4, a5, b5]
theorem rsS_det : ∀ (k : Nat) (s : Sta) (S S2 : SS), rsS f n fl k s S → rsS f n fl k s S2 → S = S2 := by
  intro k
  induction k with
  | zero => intro s S S2 h h2; exact h.2.trans h2.2.symm
  | succ k ih =>
    intro s S S2 h h2
    obtain ⟨x, X, x1, x2, x3⟩ := h
    obtain ⟨y, Y, y1, y2, y3⟩ := h2
    have e := rsc_det k x y (rsS_c k x X x1) (rsS_c k y Y y1)
    subst e
    have e2 := ih x X Y x1 y1
    subst e2
    exact stS_det x3 y3
theorem rsc_same {k k' : Nat} {a b : Sta} (h : rsc f n fl k a) (h2 : rsc f n fl k' b) (ha : ∀ x, ¬ stp f n a x) (hb : ∀ x, ¬ stp f n b x) : k = k' := by
  rcases (show k < k' ∨ k = k' ∨ k' < k by omega) with c | c | c
  · obtain ⟨d, hd⟩ : ∃ d, k' = k + d + 1 := ⟨k' - k - 1, by omega⟩
    rw [hd] at h2
    obtain ⟨x, y, x1, x2⟩ := rsc_pre d k b h2
    have e := rsc_det k a x h x1
    subst e
    exact absurd x2 (ha y)
  · exact c
  · obtain ⟨d, hd⟩ : ∃ d, k = k' + d + 1 := ⟨k - k' - 1, by omega⟩
    rw [hd] at h
    obtain ⟨x, y, x1, x2⟩ := rsc_pre d k' a h
    have e := rsc_det k' b x h2 x1
    subst e
    exact absurd x2 (hb y)
theorem rdM_det {v v2 : Sn} (h : rdM f n fl v) (h2 : rdM f n fl v2) : v = v2 := by
  obtain ⟨k, s, FS, rw', x, ao, w, a1, a2, a3, a4⟩ := h
  obtain ⟨k', s', FS', rw2, x', ao', w', b1, b2, b3, b4⟩ := h2
  have e := rsc_same (rsS_c _ _ _ a1) (rsS_c _ _ _ b1) a2 b2
  subst e
  have e2 := rsc_det k s s' (rsS_c _ _ _ a1) (rsS_c _ _ _ b1)
  subst e2
  have e3 := rsS_det k s _ _ a1 b1
  cases e3
  rw [a3] at b3
  cases b3
  exact a4.trans b4.symm
end SsDet
/-- groups lie at most thirty deep -/
def hFS : List Fs → Prop
  | [] => True
  | (ao, w) :: t => (opO ao w).1.2.2 + t.length ≤ 30 ∧ hFS t
theorem hO_l {ao : Option Sn} {u w : Sn} (h : u.1.2.2 ≤ w.1.2.2) : (opO ao u).1.2.2 ≤ (opO ao w).1.2.2 := by
  cases ao with
  | none => exact h
  | some x =>
    show max x.1.2.2 u.1.2.2 ≤ max x.1.2.2 w.1.2.2
    omega
theorem hO_r {ao : Option Sn} {w : Sn} : w.1.2.2 ≤ (opO ao w).1.2.2 := by
  cases ao with
  | none => exact Nat.le_refl _
  | some x => exact Nat.le_max_right _ _
theorem hO_m {ao : Option Sn} {u w : Sn} {m : Nat} (h : (opO ao u).1.2.2 ≤ m) (h2 : w.1.2.2 ≤ m) : (opO ao w).1.2.2 ≤ m := by
  cases ao with
  | none => exact h2
  | some x =>
    have t : max x.1.2.2 u.1.2.2 ≤ m := h
    show max x.1.2.2 w.1.2.2 ≤ m
    omega
theorem lfM_h {f : Int → Int} {n flg p q : Int} {v : Sn} (h : lfM f n flg p v q) : v.1.2.2 = 0 := by
  rcases h with ⟨_, c, _, ⟨_, e⟩ | ⟨_, e⟩ | ⟨_, e⟩⟩ | ⟨_, k, b, _, e⟩ | ⟨_, no, fi, P, _, _, _, e⟩ | ⟨_, _, e⟩ | ⟨_, _, e⟩ | ⟨_, _, e⟩ | ⟨_, _, _, e⟩ <;> (rw [e]; rfl)
/-- the frames of the steps, and what they mean -/
def hSS (fr : List Fr) (rp : Int) (FS : List Fs) (ro v : Sn) : Prop := (FS.length = fr.length ∧ 1 ≤ FS.length ∧ FS.length ≤ 31) ∧ hFS FS ∧ (rp = 1 → ro.1.2.2 + FS.length ≤ 31 ∧ v.1.2.2 + FS.length ≤ 31)
theorem rsS_h {f : Int → Int} {n fl : Int} : ∀ (k : Nat) (p flg grp : Int) (na nl : Int → Int) (fr : List Fr) (rp ls : Int) (FS : List Fs) (ro v : Sn), rsS f n fl k (p, flg, grp, na, nl, fr, rp, ls) (FS, ro, v) → hSS fr rp FS ro v := by
  intro k
  induction k with
  | zero =>
    intro p flg grp na nl fr rp ls FS ro v h
    obtain ⟨h1, h2⟩ := h
    unfold st0 at h1
    unfold ss0 at h2
    cases h1
    cases h2
    exact ⟨⟨rfl, by decide, by decide⟩, ⟨by decide, trivial⟩, fun z => absurd z (by decide)⟩
  | succ k ih =>
    intro p2 flg2 grp2 na2 nl2 fr2 rp2 ls2 FS2 rw2 v2 h
    obtain ⟨⟨p, flg, grp, na, nl, fr, rp, ls⟩, ⟨FS, ro, v⟩, h1, h2, h3⟩ := h
    obtain ⟨⟨l1, l2, l3⟩, hf, hv⟩ := ih p flg grp na nl fr rp ls FS ro v h1
    rcases h3 with ⟨a0, ao, t, a1, a2⟩ | ⟨a0, a1, a2, a3⟩ | ⟨a0, ⟨l, m, e, k', ao, w, t, a1, a2, a3⟩, a4, a5⟩
    · rcases h2 with ⟨⟨x1, x2, x3, x4, x5, xt, b1, b2⟩, b3⟩ | ⟨b1, b2, b3⟩ | ⟨_, _, b2, _⟩
      · rcases a1 with ⟨c1, c2⟩ | ⟨c0, a, b, c, d, e, tf, bo, w, c1, c2, c3⟩
        · rcases b1 with ⟨d1, d2, d3⟩ | ⟨d1, _⟩
          · have hh := lfM_h c1
            rw [← c2] at l1 l2 l3 hf
            rw [← d3] at l1
            obtain ⟨g1, g2⟩ := hf
            rw [List.length_cons] at l1 l2 l3
            rw [List.length_cons] at l1
            rw [a2, b2]
            have r1 : rw2.1.2.2 ≤ (opO ao rw2).1.2.2 := hO_r
            have r2 : (opO ao (mnC rw2 v2)).1.2.2 ≤ 30 - t.length := hO_m (u := rw2) (by omega) (by show max rw2.1.2.2 v2.1.2.2 ≤ _; omega)
            exact ⟨⟨by rw [List.length_cons, List.length_cons]; omega, by rw [List.length_cons]; omega, by rw [List.length_cons]; omega⟩, ⟨by omega, g2⟩, fun _ => ⟨by rw [List.length_cons]; omega, by rw [List.length_cons]; omega⟩⟩
          · exact absurd d1 (lfM_c c1).2.2.1
        · rcases b1 with ⟨d1, _⟩ | ⟨d1, d2, a', b', c', d', e', d3, d4, _⟩
          · exact absurd c0 (lfR_c d1).2.2.1
          · rw [d3] at l1
            rw [c2] at l1 l2 l3 hf
            obtain ⟨g1, g2⟩ := hf
            obtain ⟨g3, g4⟩ := g2
            rw [List.length_cons, List.length_cons] at l1
            rw [List.length_cons] at l1 l2 l3 g1
            rw [List.length_cons] at l3
            rw [List.length_cons] at l1
            have hvv : v2.1.2.2 = (opO bo w).1.2.2 + 1 := by rw [c3]; rfl
            rw [a2, b2]
            have r1 : rw2.1.2.2 ≤ (opO ao rw2).1.2.2 := hO_r
            have r2 : (opO ao (mnC rw2 v2)).1.2.2 ≤ 30 - t.length := hO_m (u := rw2) (by omega) (by show max rw2.1.2.2 v2.1.2.2 ≤ _; omega)
            exact ⟨⟨by rw [List.length_cons, List.length_cons]; omega, by rw [List.length_cons]; omega, by rw [List.length_cons]; omega⟩, ⟨by omega, g4⟩, fun _ => ⟨by rw [List.length_cons]; omega, by rw [List.length_cons]; omega⟩⟩
      · exfalso; omega
      · exfalso; omega
    · rcases h2 with ⟨_, b3, _⟩ | ⟨b1, b2, b3⟩ | ⟨_, b1, b2, _⟩
      · exfalso; omega
      · rcases a1 with ⟨c0, ao, w, t, c1, c2⟩ | ⟨c0, ⟨c1, c2⟩ | ⟨c1, c2⟩⟩
        · rcases b1 with ⟨d0, _, a, b, c, d, e, tf, d1, d2⟩ | ⟨d0, _⟩ | ⟨d0, _⟩ | ⟨d0, _⟩
          · rw [d1] at l1
            rw [c1] at l1 l2 l3 hf
            obtain ⟨g1, g2⟩ := hf
            rw [List.length_cons, List.length_cons] at l1
            rw [List.length_cons] at l2 l3
            rw [c2, d2]
            have r : (opO (some (opO ao w)) mnI).1.2.2 = max (opO ao w).1.2.2 0 := rfl
            exact ⟨⟨by rw [List.length_cons, List.length_cons]; omega, by rw [List.length_cons]; omega, by rw [List.length_cons]; omega⟩, ⟨by omega, g2⟩, fun z => by omega⟩
          · exfalso; omega
          · exfalso; omega
          · exfalso; omega
        · have hl : fr.length ≤ 30 := by
            rcases b1 with ⟨d0, _⟩ | ⟨_, _, d1, _⟩ | ⟨_, _, _, nm, _, d1, _⟩ | ⟨_, _, _, e, _, _, ⟨_, d1, _⟩ | ⟨_, d1⟩⟩
            · exfalso; omega
            · exact d1.1
            · exact d1.1
            · exact d1
            · rw [d1] at c1; exfalso; omega
          rw [c2]
          have r : (opO none mnI).1.2.2 = 0 := rfl
          exact ⟨⟨by rw [List.length_cons]; omega, by rw [List.length_cons]; omega, by rw [List.length_cons]; omega⟩, ⟨by omega, hf⟩, fun z => by omega⟩
        · rw [c2]
          exact ⟨⟨by omega, l2, l3⟩, hf, fun z => by omega⟩
      · obtain ⟨l, m, e, k', a, b, c, d, x, t, z, _⟩ := b1
        have := repR_c z; have := ptW_c a1; exfalso; omega
    · rcases h2 with ⟨_, b3, _⟩ | ⟨b1, _⟩ | ⟨b0, b1, b2, _⟩
      · exfalso; omega
      · have := repR_c a1; have := ptN_c b1; exfalso; omega
      · obtain ⟨l', m', e', k'', a, b, c, d, x, tf, _, _, _, d1, d2⟩ := b1
        obtain ⟨v1, v2'⟩ := hv b0
        rw [d1] at l1
        rw [a2] at l1 l2 l3 hf v1 v2'
        obtain ⟨g1, g2⟩ := hf
        rw [List.length_cons, List.length_cons] at l1
        rw [List.length_cons] at l2 l3 v1 v2'
        rw [a3, d2]
        have r1 : (mnR l m (lzR f n e flg) v).1.2.2 ≤ v.1.2.2 := mnR_h
        have r2 : (opO ao (mnC ro (mnR l m (lzR f n e flg) v))).1.2.2 ≤ 30 - t.length := hO_m (u := w) (by omega) (by show max ro.1.2.2 (mnR l m (lzR f n e flg) v).1.2.2 ≤ _; omega)
        exact ⟨⟨by rw [List.length_cons, List.length_cons]; omega, by rw [List.length_cons]; omega, by rw [List.length_cons]; omega⟩, ⟨by omega, g2⟩, fun z => by omega⟩
theorem rdM_h {f : Int → Int} {n fl : Int} {v : Sn} (h : rdM f n fl v) : v.1.2.2 ≤ 30 := by
  obtain ⟨k, ⟨p, flg, grp, na, nl, fr, rp, ls⟩, FS, rw', x, ao, w, a1, a2, a3, a4⟩ := h
  have t := (rsS_h k p flg grp na nl fr rp ls FS rw' x a1).2.1
  rw [a3] at t
  rw [a4]
  have := t.1
  rw [List.length_nil] at this
  omega
