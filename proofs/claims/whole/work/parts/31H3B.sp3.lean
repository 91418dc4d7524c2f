/-! the steps are one way: one end -/
section SpDet
variable {f : Int → Int} {n flg p s q s2 q2 w r w2 r2 : Int}
theorem lfR_det (h : lfR f n flg p s q) (h2 : lfR f n flg p s2 q2) : s = s2 ∧ q = q2 := by
  rcases h with ⟨a0, v, a1, a2⟩ | ⟨a0, k, b, a1, a2⟩ | ⟨a0, no, fi, P, a1, a2, a3, a4⟩ | ⟨a0, a1, a2⟩ | ⟨a0, a1, a2⟩ | ⟨⟨p1, p2, p3, p4, p5, p6, p7, p8, p9⟩, a1, a2, a3, a4⟩
  · rcases h2 with ⟨b0, v', b1, b2⟩ | ⟨b0, k', b', b1, b2⟩ | ⟨b0, no', fi', P', b1, b2, b3, b4⟩ | ⟨b0, b1, b2⟩ | ⟨b0, b1, b2⟩ | ⟨⟨q1, q2, q3, q4, q5, q6, q7, q8, q9⟩, b1, b2, b3, b4⟩
    · obtain ⟨e1, e2⟩ := esc1_det a1 b1
      subst e1 e2
      rcases a2 with a | a <;> rcases b2 with b | b
      · exact ⟨chz_det a.2 b.2, rfl⟩
      · omega
      · omega
      · exact ⟨by omega, rfl⟩
    · exact (esc12 a1 b1).elim
    · omega
    · omega
    · omega
    · omega
  · rcases h2 with ⟨b0, v', b1, b2⟩ | ⟨b0, k', b', b1, b2⟩ | ⟨b0, no', fi', P', b1, b2, b3, b4⟩ | ⟨b0, b1, b2⟩ | ⟨b0, b1, b2⟩ | ⟨⟨q1, q2, q3, q4, q5, q6, q7, q8, q9⟩, b1, b2, b3, b4⟩
    · exact (esc12 b1 a1).elim
    · obtain ⟨e1, e2, e3⟩ := esc2_det a1 b1
      subst e1 e2 e3
      exact ⟨kdz_det a2 b2, rfl⟩
    · omega
    · omega
    · omega
    · omega
  · rcases h2 with ⟨b0, v', b1, b2⟩ | ⟨b0, k', b', b1, b2⟩ | ⟨b0, no', fi', P', b1, b2, b3, b4⟩ | ⟨b0, b1, b2⟩ | ⟨b0, b1, b2⟩ | ⟨⟨q1, q2, q3, q4, q5, q6, q7, q8, q9⟩, b1, b2, b3, b4⟩
    · omega
    · omega
    · obtain ⟨e1, e2⟩ := clb_det a1 b1
      subst e1 e2
      obtain ⟨e3, e4⟩ := clT_end a2 a3 b2 b3
      exact ⟨clz_det a4 b4 e4, by omega⟩
    · omega
    · omega
    · omega
  · rcases h2 with ⟨b0, v', b1, b2⟩ | ⟨b0, k', b', b1, b2⟩ | ⟨b0, no', fi', P', b1, b2, b3, b4⟩ | ⟨b0, b1, b2⟩ | ⟨b0, b1, b2⟩ | ⟨⟨q1, q2, q3, q4, q5, q6, q7, q8, q9⟩, b1, b2, b3, b4⟩ <;> omega
  · rcases h2 with ⟨b0, v', b1, b2⟩ | ⟨b0, k', b', b1, b2⟩ | ⟨b0, no', fi', P', b1, b2, b3, b4⟩ | ⟨b0, b1, b2⟩ | ⟨b0, b1, b2⟩ | ⟨⟨q1, q2, q3, q4, q5, q6, q7, q8, q9⟩, b1, b2, b3, b4⟩ <;> omega
  · rcases h2 with ⟨b0, v', b1, b2⟩ | ⟨b0, k', b', b1, b2⟩ | ⟨b0, no', fi', P', b1, b2, b3, b4⟩ | ⟨b0, b1, b2⟩ | ⟨b0, b1, b2⟩ | ⟨⟨q1, q2, q3, q4, q5, q6, q7, q8, q9⟩, b1, b2, b3, b4⟩
    · omega
    · omega
    · omega
    · omega
    · omega
    · exact ⟨chz_det a4 b4, by omega⟩
theorem lfRF (h : lfR f n flg p s q) (h2 : lfF f n flg p w r) : False := by
  rcases h with ⟨a0, v, a1, a2⟩ | ⟨a0, k, b, a1, a2⟩ | ⟨a0, no, fi, P, a1, a2, a3, a4⟩ | ⟨a0, a1, a2⟩ | ⟨a0, a1, a2⟩ | ⟨⟨p1, p2, p3, p4, p5, p6, p7, p8, p9⟩, a1, a2, a3, a4⟩ <;> rcases h2 with ⟨b0, b1, b2⟩ | ⟨b0, no', fi', b1, b2⟩ | ⟨⟨q1, q2, q3, q4, q5, q6, q7, q8, q9⟩, b1, b2, b3⟩
  · exact esc13 a1 b1
  · omega
  · omega
  · exact esc23 a1 b1
  · omega
  · omega
  · omega
  · obtain ⟨e1, e2⟩ := clb_det a1 b1
    subst e1 e2
    exact clTN a2 a3 b2
  · omega
  · omega
  · omega
  · omega
  · omega
  · omega
  · omega
  · omega
  · omega
  · omega
theorem lfF_det (h : lfF f n flg p w r) (h2 : lfF f n flg p w2 r2) : w = w2 ∧ r = r2 := by
  rcases h with ⟨a0, a1, a2⟩ | ⟨a0, no, fi, a1, a2⟩ | ⟨⟨p1, p2, p3, p4, p5, p6, p7, p8, p9⟩, a1, a2, a3⟩ <;> rcases h2 with ⟨b0, b1, b2⟩ | ⟨b0, no', fi', b1, b2⟩ | ⟨⟨q1, q2, q3, q4, q5, q6, q7, q8, q9⟩, b1, b2, b3⟩
  · exact ⟨esc3_det a1 b1, by omega⟩
  · omega
  · omega
  · omega
  · obtain ⟨e1, e2⟩ := clb_det a1 b1
    subst e1 e2
    exact clN_det a2 b2
  · omega
  · omega
  · omega
  · omega
theorem lfF_c (h : lfF f n flg p w r) : ¬ tpk f n p = -1 ∧ ¬ tpk f n p = 40 ∧ ¬ tpk f n p = 41 ∧ ¬ tpk f n p = 124 := by
  unfold lfF plc at h
  rcases h with ⟨h, _⟩ | ⟨h, _⟩ | ⟨h, _⟩ <;> omega
theorem lfF_rep {l m e k : Int} (h : lfF f n flg p w r) (h2 : repR f n p l m e k) : False := by
  have c := repR_c h2
  rcases h with ⟨h, _⟩ | ⟨h, _⟩ | ⟨_, h, _⟩
  · omega
  · omega
  · exact h _ _ _ _ h2
end SpDet
section SpDet2
variable {f : Int → Int} {n flg p grp p2 flg2 grp2 s p3 flg3 grp3 s3 w r w2 r2 ls dp : Int} {na nl na2 nl2 na3 nl3 : Int → Int} {fr fr2 fr3 : List Fr}
theorem ptP_det (h : ptP f n p flg fr p2 flg2 fr2 s) (h2 : ptP f n p flg fr p3 flg3 fr3 s3) : p2 = p3 ∧ flg2 = flg3 ∧ fr2 = fr3 ∧ s = s3 := by
  rcases h with ⟨a1, a2, a3⟩ | ⟨a1, a2, a, b, c, d, e, a3, a4, a5, a6⟩ <;> rcases h2 with ⟨b1, b2, b3⟩ | ⟨b1, b2, a', b', c', d', e', b3, b4, b5, b6⟩
  · obtain ⟨e1, e2⟩ := lfR_det a1 b1
    exact ⟨e2, a2.trans b2.symm, a3.trans b3.symm, e1⟩
  · have := lfR_c a1; omega
  · have := lfR_c b1; omega
  · rw [a3] at b3
    cases b3
    exact ⟨by omega, a5.trans b5.symm, rfl, a6.trans b6.symm⟩
theorem ptP_c (h : ptP f n p flg fr p2 flg2 fr2 s) : (¬ tpk f n p = -1 ∧ ¬ tpk f n p = 40 ∧ ¬ tpk f n p = 124) ∧ ∀ l m e k : Int, ¬ repR f n p l m e k := by
  rcases h with ⟨a1, _⟩ | ⟨a1, _⟩
  · have := lfR_c a1
    exact ⟨by omega, fun l m e k z => lfR_rep a1 z⟩
  · exact ⟨by omega, fun l m e k z => by have := repR_c z; omega⟩
theorem ptN_c (h : ptN f n p flg grp na nl fr p2 flg2 grp2 na2 nl2 fr2) : tpk f n p = 124 ∨ tpk f n p = 40 := by
  rcases h with ⟨h, _⟩ | ⟨h, _⟩ | ⟨h, _⟩ | ⟨h, _⟩
  · exact Or.inl h
  · exact Or.inr h
  · exact Or.inr h
  · exact Or.inr h
theorem ptN_det (h : ptN f n p flg grp na nl fr p2 flg2 grp2 na2 nl2 fr2) (h2 : ptN f n p flg grp na nl fr p3 flg3 grp3 na3 nl3 fr3) : p2 = p3 ∧ flg2 = flg3 ∧ grp2 = grp3 ∧ na2 = na3 ∧ nl2 = nl3 ∧ fr2 = fr3 := by
  rcases h with ⟨a0, ⟨a1, a2, a3, a4, a5⟩, a, b, c, d, e, t, a6, a7⟩ | ⟨a0, a1, a2, ⟨a3, a4, a5, a6, a7⟩, a8⟩ | ⟨a0, a1, a2, nm, ⟨a3, a4, a5⟩, a6, ⟨a7, a8, a9, a10, a11⟩, a12⟩ | ⟨a0, a1, a2, x, a3, ⟨a4, a5, a6, a7⟩, a8⟩ <;> rcases h2 with ⟨b0, ⟨b1, b2, b3, b4, b5⟩, a', b', c', d', e', t', b6, b7⟩ | ⟨b0, b1, b2, ⟨b3, b4, b5, b6, b7⟩, b8⟩ | ⟨b0, b1, b2, nm', ⟨b3, b4, b5⟩, b6, ⟨b7, b8, b9, b10, b11⟩, b12⟩ | ⟨b0, b1, b2, x', b3, ⟨b4, b5, b6, b7⟩, b8⟩
  · rw [a6] at b6
    cases b6
    exact ⟨by omega, a2.trans b2.symm, a3.trans b3.symm, a4.trans b4.symm, a5.trans b5.symm, a7.trans b7.symm⟩
  · omega
  · omega
  · omega
  · omega
  · exact ⟨by omega, a4.trans b4.symm, a5.trans b5.symm, a6.trans b6.symm, a7.trans b7.symm, a8.trans b8.symm⟩
  · exact absurd b1 a1
  · exact absurd b1 a1
  · omega
  · exact absurd a1 b1
  · have e := nmR_det a3 b3
    subst e
    exact ⟨by omega, a8.trans b8.symm, a9.trans b9.symm, a10.trans b10.symm, a11.trans b11.symm, a12.trans b12.symm⟩
  · exact absurd a2 b2
  · omega
  · exact absurd a1 b1
  · exact absurd b2 a2
  · obtain ⟨e1, e2⟩ := flgR_det a3 b3
    subst e2
    refine ⟨by omega, e1, a5.trans b5.symm, a6.trans b6.symm, a7.trans b7.symm, ?_⟩
    rcases a8 with y | y <;> rcases b8 with z | z
    · exact y.2.2.trans z.2.2.symm
    · exact absurd y.1 z.1
    · exact absurd z.1 y.1
    · exact y.2.trans z.2.symm
theorem rpS_det (h : rpS f n p fr ls p2 fr2) (h2 : rpS f n p fr ls p3 fr3) : p2 = p3 ∧ fr2 = fr3 := by
  obtain ⟨l, m, e, k, a, b, c, d, x, t, a1, a2, a3, a4, a5⟩ := h
  obtain ⟨l', m', e', k', a', b', c', d', x', t', b1, b2, b3, b4, b5⟩ := h2
  obtain ⟨e1, e2, e3, e4⟩ := repR_det a1 b1
  subst e1 e2 e3
  rw [a4] at b4
  cases b4
  refine ⟨?_, a5.trans b5.symm⟩
  unfold askR at a3 b3
  omega
theorem rpS_c (h : rpS f n p fr ls p2 fr2) : ∃ l m e k : Int, repR f n p l m e k ∧ ¬ (k = 1 ∧ tooR l m) := by
  obtain ⟨l, m, e, k, a, b, c, d, x, t, a1, a2, _⟩ := h
  exact ⟨l, m, e, k, a1, a2⟩
theorem opF_det (h : opF f n p flg grp dp na nl w) (h2 : opF f n p flg grp dp na nl w2) : w = w2 := by
  rcases h with ⟨a0, a1⟩ | ⟨a0, a1, nm, a2, a3⟩ | ⟨a0, a1, a2⟩ <;> rcases h2 with ⟨b0, b1⟩ | ⟨b0, b1, nm', b2, b3⟩ | ⟨b0, b1, b2⟩
  · omega
  · exact absurd b0 a0
  · exact absurd b0 a0
  · exact absurd a0 b0
  · have e := nmR_det a2 b2
    subst e
    rcases a3 with y | ⟨y0, y1, y2⟩ | ⟨y0, y1, y2⟩ <;> rcases b3 with z | ⟨z0, z1, z2⟩ | ⟨z0, z1, z2⟩
    · omega
    · omega
    · omega
    · omega
    · omega
    · have := tkI_det y1 z1; omega
    · omega
    · have := tkI_det y1 z1; omega
    · omega
  · exact absurd a1 b1
  · exact absurd a0 b0
  · exact absurd b1 a1
  · rcases a2 with y | ⟨v, e, y1, y2, y3, y4⟩ <;> rcases b2 with z | ⟨v', e', z1, z2, z3, z4⟩
    · omega
    · exact (flgR_no z1 y.1).elim
    · exact (flgR_no y1 z.1).elim
    · omega
theorem opFN (h : opF f n p flg grp (fr.length - 1) na nl w) (h2 : ptN f n p flg grp na nl fr p3 flg3 grp3 na3 nl3 fr3) (hc : tpk f n p = 40) : False := by
  rcases h2 with ⟨b0, _⟩ | ⟨b0, b1, b2, _⟩ | ⟨b0, b1, b2, nm', ⟨b3, b4, b5⟩, b6, _⟩ | ⟨b0, b1, b2, x', b3, _, b8⟩
  · omega
  · rcases h with ⟨a0, a1⟩ | ⟨a0, _⟩ | ⟨a0, _⟩
    · omega
    · exact b1 a0
    · exact b1 a0
  · rcases h with ⟨a0, a1⟩ | ⟨a0, a1, nm, a2, a3⟩ | ⟨a0, a1, a2⟩
    · exact a0 b1
    · have e := nmR_det a2 b3
      subst e
      rcases a3 with y | ⟨y0, y1, y2⟩ | ⟨y0, y1, y2⟩
      · omega
      · have := tkI_det y1 b5; omega
      · omega
    · exact a1 b2
  · rcases h with ⟨a0, a1⟩ | ⟨a0, a1, nm, a2, a3⟩ | ⟨a0, a1, a2⟩
    · exact a0 b1
    · exact b2 a1
    · rcases a2 with y | ⟨v, e, y1, y2, y3, y4⟩
      · exact flgR_no b3 y.1
      · obtain ⟨e1, e2⟩ := flgR_det y1 b3
        subst e2
        rcases b8 with z | z
        · omega
        · exact z.1 y2
theorem ptF_c (h : ptF f n p flg grp na nl fr w r) : ¬ tpk f n p = -1 ∧ ¬ tpk f n p = 124 ∧ ∀ l m e k : Int, ¬ repR f n p l m e k := by
  rcases h with h | ⟨h, _⟩ | ⟨h, _⟩
  · have := lfF_c h
    exact ⟨by omega, by omega, fun l m e k z => lfF_rep h z⟩
  · exact ⟨by omega, by omega, fun l m e k z => by have := repR_c z; omega⟩
  · exact ⟨by omega, by omega, fun l m e k z => by have := repR_c z; omega⟩
theorem ptF_det (h : ptF f n p flg grp na nl fr w r) (h2 : ptF f n p flg grp na nl fr w2 r2) : w = w2 ∧ r = r2 := by
  rcases h with a | ⟨a0, a1, a2⟩ | ⟨a0, a1, a2, a3⟩ <;> rcases h2 with b | ⟨b0, b1, b2⟩ | ⟨b0, b1, b2, b3⟩
  · exact lfF_det a b
  · have := lfF_c a; omega
  · have := lfF_c a; omega
  · have := lfF_c b; omega
  · exact ⟨opF_det a1 b1, by omega⟩
  · omega
  · have := lfF_c b; omega
  · omega
  · omega
theorem ptFP (h : ptF f n p flg grp na nl fr w r) (h2 : ptP f n p flg fr p2 flg2 fr2 s) : False := by
  rcases h2 with ⟨b1, _⟩ | ⟨b1, _, a, b, c, d, e, b3, b4, _⟩
  · rcases h with a | ⟨a0, _⟩ | ⟨a0, _⟩
    · exact lfRF b1 a
    · have := lfR_c b1; omega
    · have := lfR_c b1; omega
  · rcases h with a | ⟨a0, _⟩ | ⟨a0, a1, _⟩
    · have := lfF_c a; omega
    · omega
    · rw [b3, List.length_cons] at a1
      omega
end SpDet2
section SpDet3
variable {f : Int → Int} {n fl : Int}
theorem stp_det {s a b : Sta} (h : stp f n s a) (h2 : stp f n s b) : a = b := by
  obtain ⟨p, flg, grp, na, nl, fr, rp, ls⟩ := s
  obtain ⟨p2, flg2, grp2, na2, nl2, fr2, rp2, ls2⟩ := a
  obtain ⟨p3, flg3, grp3, na3, nl3, fr3, rp3, ls3⟩ := b
  rcases h with ⟨⟨x1, x2, x3, x4, x5, xt, a1, a2⟩, a3, a4, a5, a6⟩ | ⟨a1, a2, a3⟩ | ⟨a0, a1, a2, a3, a4, a5, a6, a7⟩ <;> rcases h2 with ⟨⟨y1, y2, y3, y4, y5, yt, b1, b2⟩, b3, b4, b5, b6⟩ | ⟨b1, b2, b3⟩ | ⟨b0, b1, b2, b3, b4, b5, b6, b7⟩
  · obtain ⟨e1, e2, e3, e4⟩ := ptP_det a1 b1
    cases e3
    rw [e1, e2, a2, b2, a3, b3, a4, b4, a5, b5, a6, b6, e4]
  · have := (ptP_c a1).1; have := ptN_c b1; omega
  · obtain ⟨l, m, e, k, z, _⟩ := rpS_c b1
    exact absurd z ((ptP_c a1).2 l m e k)
  · have := (ptP_c b1).1; have := ptN_c a1; omega
  · obtain ⟨e1, e2, e3, e4, e5, e6⟩ := ptN_det a1 b1
    rw [e1, e2, e3, e4, e5, e6, a2, b2, a3, b3]
  · obtain ⟨l, m, e, k, z, _⟩ := rpS_c b1
    have := repR_c z; have := ptN_c a1; omega
  · obtain ⟨l, m, e, k, z, _⟩ := rpS_c a1
    exact absurd z ((ptP_c b1).2 l m e k)
  · obtain ⟨l, m, e, k, z, _⟩ := rpS_c a1
    have := repR_c z; have := ptN_c b1; omega
  · obtain ⟨e1, e2⟩ := rpS_det a1 b1
    rw [e1, e2, a2, b2, a3, b3, a4, b4, a5, b5, a6, b6, a7, b7]
theorem stp_c {p flg grp rp ls : Int} {na nl : Int → Int} {fr : List Fr} {b : Sta} (h : stp f n (p, flg, grp, na, nl, fr, rp, ls) b) : ¬ tpk f n p = -1 := by
  obtain ⟨p3, flg3, grp3, na3, nl3, fr3, rp3, ls3⟩ := b
  rcases h with ⟨⟨x1, x2, x3, x4, x5, xt, a1, a2⟩, _⟩ | ⟨a1, _⟩ | ⟨_, a1, _⟩
  · exact (ptP_c a1).1.1
  · have := ptN_c a1; omega
  · obtain ⟨l, m, e, k, z, _⟩ := rpS_c a1
    have := repR_c z; omega
theorem stF_no {s b : Sta} {w r : Int} (h : stF f n s w r) (h2 : stp f n s b) : False := by
  obtain ⟨p, flg, grp, na, nl, fr, rp, ls⟩ := s
  obtain ⟨p3, flg3, grp3, na3, nl3, fr3, rp3, ls3⟩ := b
  rcases h with a | ⟨a0, a1, ⟨l, m, e, k, a2⟩, a3⟩ | ⟨a0, ⟨l, m, e, k, a1, a2, a3⟩, _⟩ <;> rcases h2 with ⟨⟨y1, y2, y3, y4, y5, yt, b1, b2⟩, _⟩ | ⟨b1, _⟩ | ⟨b0, b1, _⟩
  · exact ptFP a b1
  · rcases ptN_c b1 with c | c
    · exact (ptF_c a).2.1 c
    · rcases a with y | ⟨_, y, _⟩ | ⟨y, _⟩
      · have := lfF_c y; omega
      · exact opFN y b1 c
      · omega
  · obtain ⟨l, m, e, k, z, _⟩ := rpS_c b1
    exact (ptF_c a).2.2 l m e k z
  · exact (ptP_c b1).2 l m e k a2
  · have := repR_c a2; have := ptN_c b1; omega
  · exact a0 b0
  · exact (ptP_c b1).2 l m e k a1
  · have := repR_c a1; have := ptN_c b1; omega
  · obtain ⟨l', m', e', k', z, z2⟩ := rpS_c b1
    obtain ⟨e1, e2, e3, e4⟩ := repR_det a1 z
    subst e1 e2 e3 e4
    exact z2 ⟨a2, a3⟩
theorem stF_det {s : Sta} {w r w2 r2 : Int} (h : stF f n s w r) (h2 : stF f n s w2 r2) : w = w2 ∧ r = r2 := by
  obtain ⟨p, flg, grp, na, nl, fr, rp, ls⟩ := s
  rcases h with a | ⟨a0, a1, ⟨l, m, e, k, a2⟩, a3, a4⟩ | ⟨a0, ⟨l, m, e, k, a1, a2, a3⟩, a4, a5⟩ <;> rcases h2 with b | ⟨b0, b1, ⟨l', m', e', k', b2⟩, b3, b4⟩ | ⟨b0, ⟨l', m', e', k', b1, b2, b3⟩, b4, b5⟩
  · exact ptF_det a b
  · exact absurd b2 ((ptF_c a).2.2 _ _ _ _)
  · exact absurd b1 ((ptF_c a).2.2 _ _ _ _)
  · exact absurd a2 ((ptF_c b).2.2 _ _ _ _)
  · omega
  · exact absurd b0 a0
  · exact absurd a1 ((ptF_c b).2.2 _ _ _ _)
  · exact absurd a0 b0
  · omega
theorem rsc_det : ∀ (k : Nat) (a b : Sta), rsc f n fl k a → rsc f n fl k b → a = b := by
  intro k
  induction k with
  | zero => intro a b h h2; exact h.trans h2.symm
  | succ k ih =>
    intro a b h h2
    obtain ⟨x, x1, x2⟩ := h
    obtain ⟨y, y1, y2⟩ := h2
    have e := ih x y x1 y1
    subst e
    exact stp_det x2 y2
theorem rsc_pre : ∀ (d k : Nat) (a : Sta), rsc f n fl (k + d + 1) a → ∃ x y : Sta, rsc f n fl k x ∧ stp f n x y := by
  intro d
  induction d with
  | zero => intro k a h; obtain ⟨x, x1, x2⟩ := h; exact ⟨x, a, x1, x2⟩
  | succ d ih => intro k a h; obtain ⟨x, x1, _⟩ := h; exact ih k x x1
theorem rsc_end {k k' : Nat} {a b : Sta} (h : rsc f n fl k a) (h2 : rsc f n fl k' b) (ha : ∀ x, ¬ stp f n a x) (hb : ∀ x, ¬ stp f n b x) : a = b := by
  rcases (show k < k' ∨ k = k' ∨ k' < k by omega) with c | c | c
  · obtain ⟨d, hd⟩ : ∃ d, k' = k + d + 1 := ⟨k' - k - 1, by omega⟩
    rw [hd] at h2
    obtain ⟨x, y, x1, x2⟩ := rsc_pre d k b h2
    have e := rsc_det k a x h x1
    subst e
    exact absurd x2 (ha y)
  · subst c
    exact rsc_det k a b h h2
  · obtain ⟨d, hd⟩ : ∃ d, k = k' + d + 1 := ⟨k - k' - 1, by omega⟩
    rw [hd] at h
    obtain ⟨x, y, x1, x2⟩ := rsc_pre d k' a h
    have e := rsc_det k' b x h2 x1
    subst e
    exact absurd x2 (hb y)
theorem enF_st {s : Sta} {w r : Int} (h : enF f n s w r) : ∀ x, ¬ stp f n s x := by
  obtain ⟨p, flg, grp, na, nl, fr, rp, ls⟩ := s
  intro x hx
  rcases h with ⟨_, h⟩ | ⟨h, _⟩ | ⟨h, _⟩
  · exact stF_no h hx
  · exact stp_c hx (tpk_off h)
  · exact stp_c hx (tpk_off h)
theorem enK_st {s : Sta} {g z : Int} {ma ml : Int → Int} (h : enK n s g z ma ml) : ∀ x, ¬ stp f n s x := by
  obtain ⟨p, flg, grp, na, nl, fr, rp, ls⟩ := s
  intro x hx
  exact stp_c hx (tpk_off h.1)
theorem rdF_det {w r w2 r2 : Int} (h : rdF f n fl w r) (h2 : rdF f n fl w2 r2) : w = w2 ∧ r = r2 := by
  obtain ⟨k, s, h1, h3⟩ := h
  obtain ⟨k', s', q1, q3⟩ := h2
  have e := rsc_end h1 q1 (enF_st h3) (enF_st q3)
  subst e
  obtain ⟨p, flg, grp, na, nl, fr, rp, ls⟩ := s
  rcases h3 with ⟨a0, a1⟩ | ⟨a0, a1, ⟨a, b, c, d, e, t, a2, a3⟩, a4⟩ | ⟨a0, ⟨a, b, c, d, e, a1, a2⟩, a3, a4⟩ <;> rcases q3 with ⟨b0, b1⟩ | ⟨b0, b1, ⟨a', b', c', d', e', t', b2, b3⟩, b4⟩ | ⟨b0, ⟨a', b', c', d', e', b1, b2⟩, b3, b4⟩
  · exact stF_det a1 b1
  · omega
  · omega
  · omega
  · rw [a2] at b2
    cases b2
    omega
  · rw [b1] at a1
    exact absurd a1 (Nat.lt_irrefl 1)
  · omega
  · rw [a1] at b1
    exact absurd b1 (Nat.lt_irrefl 1)
  · omega
theorem rdFK {w r g z : Int} {ma ml : Int → Int} (h : rdF f n fl w r) (h2 : rdK f n fl g z ma ml) : False := by
  obtain ⟨k, s, h1, h3⟩ := h
  obtain ⟨k', s', q1, q3⟩ := h2
  have e := rsc_end h1 q1 (enF_st h3) (enK_st q3)
  subst e
  obtain ⟨p, flg, grp, na, nl, fr, rp, ls⟩ := s
  obtain ⟨b0, ⟨a', b', c', d', e', b1, b2, b3⟩, _⟩ := q3
  rcases h3 with ⟨a0, a1⟩ | ⟨a0, a1, _⟩ | ⟨a0, ⟨a, b, c, d, e, a1, a2⟩, a3, a4⟩
  · omega
  · rw [b1] at a1
    exact absurd a1 (Nat.lt_irrefl 1)
  · rw [b1] at a1
    cases a1
    omega
theorem rdK_det {g z g2 z2 : Int} {ma ml ma2 ml2 : Int → Int} (h : rdK f n fl g z ma ml) (h2 : rdK f n fl g2 z2 ma2 ml2) : g = g2 ∧ z = z2 ∧ ma = ma2 ∧ ml = ml2 := by
  obtain ⟨k, s, h1, h3⟩ := h
  obtain ⟨k', s', q1, q3⟩ := h2
  have e := rsc_end h1 q1 (enK_st h3) (enK_st q3)
  subst e
  obtain ⟨p, flg, grp, na, nl, fr, rp, ls⟩ := s
  obtain ⟨a0, ⟨a, b, c, d, e, a1, a2, a3⟩, a4, a5, a6⟩ := h3
  obtain ⟨b0, ⟨a', b', c', d', e', b1, b2, b3⟩, b4, b5, b6⟩ := q3
  rw [a1] at b1
  cases b1
  exact ⟨a4.trans b4.symm, a2.trans b2.symm, a5.trans b5.symm, a6.trans b6.symm⟩
end SpDet3
