set_option maxRecDepth 100000 in
set_option maxHeartbeats 4000000 in
theorem lq_15 {X : ab_X} {Q : Outcome → ab_G → Prop} {o : Nat → Nat} {G : ab_G} {L : Nat} {f F : Int → Int} {lf : Nat} {t i : Int} (h : lwI o G L f F (lf + 1) t) (hff : ∀ k : Int, -2147483648 ≤ f k ∧ f k ≤ 2147483647) (hi : 0 ≤ i ∧ i + 6 ≤ ↑L ∧ ↑L ≤ (3072 : Int)) (n18 : ab_n0 = 18)
    (K : ∀ (o2 : Nat → Nat) (G2 : ab_G) (F2 : Int → Int) (t2 : Int), lwI o2 G2 L f F2 lf t2 → ab_W X ab_LW 2048 G2 780 [some (vR 0), some (vR 18), some (vR 80), some (vR 148), some (vz i), none, none] [] Q) : ab_W X ab_LW 2048 G 704 [some (vR 0), some (vR 18), some (vR 80), some (vR 148), some (vz i), none, none] [] Q := by
  obtain ⟨RD, FT, sz, PG, cw, fa, fp, sn, sf, xa, Fa, xb, Fb, xr, Fr, ry, tq, td, th, gj, zj, fj, nj, sj, fb, fq, us, ul, uf, ua, up, ub, uv, uo, uO, hp, hm, h0, h148, hy, hx, hz⟩ := h
  refine ab_aload_n d_LA_law_704 rfl ?_
  obtain ⟨fs2, hfs2⟩ := hp.recv
  refine ab_callV (d' := 2047) (as := []) (st := []) (r := _) (w_quote (d := 2047)  hp  n18 (by decide)) (fun oc G2 h => by obtain ⟨_, _, _, _, _, _, _, _, _, _, _, _, _, _, _, _, _, _, _, _, h⟩ := h; obtain ⟨_, h, _⟩ := h; exact ⟨_, h⟩) (by decide) m_PW_quote ml_LA_101 im_PW_quote se_PW_quote c_PW hfs2 (Nat.le_of_ble_eq_true rfl) d_LA_law_705 rfl ?_
  intro v G1 hq
  obtain ⟨oG1, SG1, RDG1, FTG1, szG1, PGG1, cwG1, faG1, fpG1, snG1, sfG1, xaG1, FaG1, xbG1, FbG1, xrG1, FrG1, hfG1, hSG1, hp, hr⟩ := hq
  obtain ⟨w3, hr, hcl, e1_, hqc, e2_, e3_, e4_, e5_, e6_, e7_, e8_, e9_, e10_, e11_, e12_, e13_⟩ := hr
  rw [e1_, e2_, e3_, e4_, e5_, e6_, e7_, e8_, e9_, e10_, e11_, e12_, e13_] at hp
  cases hr
  have h0 := hfG1.get h0 (nl_w hSG1 0 (by decide))
  have h148 := hfG1.get h148 (nl_w hSG1 348 (by decide))
  have hm := hm.fr hfG1 (fun l hl => by have := hSG1 l hl; omega)
  change ab_W _ _ _ G1 708 [some (vR 0), some (vR 18), some (vR 80), some (vR 148), some (vz i), none, none] [vz w3] _
  refine ab_pop d_LA_law_708 rfl ?_
  refine ab_aload_n d_LA_law_709 rfl ?_
  obtain ⟨fs5, hfs5⟩ := hm.recv
  refine ab_callV (d' := 2047) (as := []) (st := []) (r := _) (w_MO_quote (d := 2047)  hm  (by decide)) (fun oc G2 h => by obtain ⟨_, _, _, _, _, _, _, _, _, _, _, _, _, _, _, _, _, _, _, _, _, h, _⟩ := h; obtain ⟨_, h⟩ := h; exact ⟨_, h⟩) (by decide) m_MO_quote ml_LA_104 im_MO_quote se_MO_quote c_MO hfs5 (Nat.le_of_ble_eq_true rfl) d_LA_law_710 rfl ?_
  intro v G4 hq
  obtain ⟨ryG4, tqG4, tdG4, thG4, gjG4, zjG4, fjG4, njG4, sjG4, fbG4, fqG4, usG4, ulG4, ufG4, uaG4, upG4, ubG4, uvG4, uoG4, uOG4, hrm, hr, hfG4, hlG4, hsG4, t6, hm⟩ := hq
  obtain ⟨w7, hrw, hvl, f1_, hqm, f2_, f3_, f4_, f5_, f6_, f7_, f8_, f9_, f10_, f11_, f12_, f13_, f14_, f15_, f16_, f17_, f18_⟩ := hrm
  clear hr
  have hr := hrw
  rw [f1_, f2_, f3_, f4_, f5_, f6_, f7_, f8_, f9_, f10_, f11_, f12_, f13_, f14_, f15_, f16_, f17_, f18_] at hm
  have hvq_ := syn_ql hy hcl hvl
  have hz := sy3_qt hy hqc hqm
  have hy := syn_zero hy
  cases hr
  have h0 := hfG4.get h0 (by decide)
  have h148 := hfG4.get h148 (by decide)
  have hp := hp.fr hfG4 hlG4 hsG4 (by decide)
  change ab_W _ _ _ G4 713 [some (vR 0), some (vR 18), some (vR 80), some (vR 148), some (vz i), none, none] [vz w7] _
  refine ab_pop d_LA_law_713 rfl ?_
  refine ab_goto (tgt := 780) d_LA_law_714 (by decide) ?_
  exact K _ _ _ _ ⟨_, _, _, _, _, _, _, _, _, _, _, _, _, _, _, _, _, _, _, _, _, _, _, _, _, _, _, _, _, _, _, _, _, _, _, hp, hm, h0, h148, hy, hx, hz⟩
set_option maxRecDepth 100000 in
set_option maxHeartbeats 4000000 in
theorem lq_16 {X : ab_X} {Q : Outcome → ab_G → Prop} {o : Nat → Nat} {G : ab_G} {L : Nat} {f F : Int → Int} {lf : Nat} {t i : Int} (h : lwI o G L f F (lf + 1) t) (hff : ∀ k : Int, -2147483648 ≤ f k ∧ f k ≤ 2147483647) (hi : 0 ≤ i ∧ i + 6 ≤ ↑L ∧ ↑L ≤ (3072 : Int)) (n18 : ab_n0 = 18)
    (K : ∀ (o2 : Nat → Nat) (G2 : ab_G) (F2 : Int → Int) (t2 : Int), lwI o2 G2 L f F2 lf t2 → ab_W X ab_LW 2048 G2 780 [some (vR 0), some (vR 18), some (vR 80), some (vR 148), some (vz i), none, none] [] Q) : ab_W X ab_LW 2048 G 717 [some (vR 0), some (vR 18), some (vR 80), some (vR 148), some (vz i), none, none] [] Q := by
  obtain ⟨RD, FT, sz, PG, cw, fa, fp, sn, sf, xa, Fa, xb, Fb, xr, Fr, ry, tq, td, th, gj, zj, fj, nj, sj, fb, fq, us, ul, uf, ua, up, ub, uv, uo, uO, hp, hm, h0, h148, hy, hx, hz⟩ := h
  refine ab_aload_n d_LA_law_717 rfl ?_
  refine ab_aload_n d_LA_law_718 rfl ?_
  refine ab_iload d_LA_law_719 rfl ?_
  refine zz_iconst d_LA_law_721 ?_
  refine zz_iadd d_LA_law_722 ?_
  refine zz_iald d_LA_law_723 h0 (by omega) ?_
  have hq1 := hff (i + 1)
  obtain ⟨fs3, hfs3⟩ := hp.recv
  refine ab_callV (d' := 2047) (as := [vz (f (i + 1))]) (st := []) (r := _) (w_output (d := 2047) (k := (f (i + 1))) hp (by omega) n18 (by decide)) (fun oc G2 h => by obtain ⟨_, _, _, _, _, _, _, _, _, _, _, _, _, _, _, _, _, _, _, _, h⟩ := h; obtain ⟨_, h, _⟩ := h; exact ⟨_, h⟩) (by decide) m_PW_output ml_LA_105 im_PW_output se_PW_output c_PW hfs3 (Nat.le_of_ble_eq_true rfl) d_LA_law_724 rfl ?_
  intro v G2 hq
  obtain ⟨oG2, SG2, RDG2, FTG2, szG2, PGG2, cwG2, faG2, fpG2, snG2, sfG2, xaG2, FaG2, xbG2, FbG2, xrG2, FrG2, hfG2, hSG2, hp, hr⟩ := hq
  obtain ⟨w4, hr, hcl, e1_, e2_, e3_, e4_, e5_, e6_, e7_, e8_, e9_, e10_, e11_, e12_, e13_, e14_, e15_⟩ := hr
  rw [e1_, e2_, e3_, e4_, e5_, e6_, e7_, e8_, e9_, e10_, e11_, e12_, e13_, e14_, e15_] at hp
  cases hr
  have h0 := hfG2.get h0 (nl_w hSG2 0 (by decide))
  have h148 := hfG2.get h148 (nl_w hSG2 348 (by decide))
  have hm := hm.fr hfG2 (fun l hl => by have := hSG2 l hl; omega)
  change ab_W _ _ _ G2 727 [some (vR 0), some (vR 18), some (vR 80), some (vR 148), some (vz i), none, none] [vz w4] _
  refine ab_pop d_LA_law_727 rfl ?_
  refine ab_aload_n d_LA_law_728 rfl ?_
  refine ab_aload_n d_LA_law_729 rfl ?_
  refine ab_iload d_LA_law_730 rfl ?_
  refine zz_iconst d_LA_law_732 ?_
  refine zz_iadd d_LA_law_733 ?_
  refine zz_iald d_LA_law_734 h0 (by omega) ?_
  have hq5 := hff (i + 1)
  obtain ⟨fs7, hfs7⟩ := hm.recv
  refine ab_callV (d' := 2047) (as := [vz (f (i + 1))]) (st := []) (r := _) (w_MO_output (d := 2047) (x := (f (i + 1))) hm (by omega) (by decide)) (fun oc G2 h => by obtain ⟨_, _, _, _, _, _, _, _, _, _, _, _, _, _, _, _, _, _, _, _, _, h, _⟩ := h; obtain ⟨_, h⟩ := h; exact ⟨_, h⟩) (by decide) m_MO_output ml_LA_108 im_MO_output se_MO_output c_MO hfs7 (Nat.le_of_ble_eq_true rfl) d_LA_law_735 rfl ?_
  intro v G6 hq
  obtain ⟨ryG6, tqG6, tdG6, thG6, gjG6, zjG6, fjG6, njG6, sjG6, fbG6, fqG6, usG6, ulG6, ufG6, uaG6, upG6, ubG6, uvG6, uoG6, uOG6, hrm, hr, hfG6, hlG6, hsG6, t8, hm⟩ := hq
  obtain ⟨w9, hrw, hvl, f1_, f2_, f3_, f4_, f5_, f6_, f7_, f8_, f9_, f10_, f11_, f12_, f13_, f14_, f15_, f16_, f17_, f18_, f19_, f20_⟩ := hrm
  clear hr
  have hr := hrw
  rw [f1_, f2_, f3_, f4_, f5_, f6_, f7_, f8_, f9_, f10_, f11_, f12_, f13_, f14_, f15_, f16_, f17_, f18_, f19_, f20_] at hm
  have hvq_ := ouR_det hz hcl hvl
  cases hr
  have h0 := hfG6.get h0 (by decide)
  have h148 := hfG6.get h148 (by decide)
  have hp := hp.fr hfG6 hlG6 hsG6 (by decide)
  change ab_W _ _ _ G6 738 [some (vR 0), some (vR 18), some (vR 80), some (vR 148), some (vz i), none, none] [vz w9] _
  refine ab_pop d_LA_law_738 rfl ?_
  refine ab_goto (tgt := 780) d_LA_law_739 (by decide) ?_
  exact K _ _ _ _ ⟨_, _, _, _, _, _, _, _, _, _, _, _, _, _, _, _, _, _, _, _, _, _, _, _, _, _, _, _, _, _, _, _, _, _, _, hp, hm, h0, h148, hy, hx, hz⟩
set_option maxRecDepth 100000 in
set_option maxHeartbeats 4000000 in
theorem lq_17 {X : ab_X} {Q : Outcome → ab_G → Prop} {o : Nat → Nat} {G : ab_G} {L : Nat} {f F : Int → Int} {lf : Nat} {t i : Int} (h : lwI o G L f F (lf + 1) t) (hff : ∀ k : Int, -2147483648 ≤ f k ∧ f k ≤ 2147483647) (hi : 0 ≤ i ∧ i + 6 ≤ ↑L ∧ ↑L ≤ (3072 : Int)) (n18 : ab_n0 = 18)
    (K : ∀ (o2 : Nat → Nat) (G2 : ab_G) (F2 : Int → Int) (t2 : Int), lwI o2 G2 L f F2 lf t2 → ab_W X ab_LW 2048 G2 780 [some (vR 0), some (vR 18), some (vR 80), some (vR 148), some (vz i), none, none] [] Q) : ab_W X ab_LW 2048 G 742 [some (vR 0), some (vR 18), some (vR 80), some (vR 148), some (vz i), none, none] [] Q := by
  obtain ⟨RD, FT, sz, PG, cw, fa, fp, sn, sf, xa, Fa, xb, Fb, xr, Fr, ry, tq, td, th, gj, zj, fj, nj, sj, fb, fq, us, ul, uf, ua, up, ub, uv, uo, uO, hp, hm, h0, h148, hy, hx, hz⟩ := h
  refine ab_aload_n d_LA_law_742 rfl ?_
  refine ab_aload_n d_LA_law_743 rfl ?_
  refine ab_iload d_LA_law_744 rfl ?_
  refine zz_iconst d_LA_law_746 ?_
  refine zz_iadd d_LA_law_747 ?_
  refine zz_iald d_LA_law_748 h0 (by omega) ?_
  have hq1 := hff (i + 1)
  refine ab_callSW (d' := 2047) (as := [vR 18, vz (f (i + 1))]) (st := []) (c_LA_keep (d := 2047) hp h148 (by omega) n18 (by decide)) (fun oc G2 h => by obtain ⟨_, _, _, _, _, _, _, _, _, _, _, _, _, _, _, _, _, _, _, h, _⟩ := h; exact ⟨_, h⟩) (by decide) m_LA_keep (ab_t7 (List.mem_of_getElem? (i := 239) rfl)) st_LA_keep (Nat.le_of_ble_eq_true rfl) d_LA_law_749 rfl ?_
  intro v G2 hq
  obtain ⟨oG2, SG2, FG2, k3, RDG2, FTG2, szG2, PGG2, cwG2, faG2, fpG2, snG2, sfG2, xaG2, FaG2, xbG2, FbG2, xrG2, FrG2, hr, hfG2, hSG2, hp, h148, hrel, hk5⟩ := hq
  cases hr
  obtain ⟨e1_, e2_, e3_, e4_, e5_, e6_, e7_, e8_, e9_, e10_, e11_, e12_, e13_, e14_, e15_⟩ := hrel
  rw [e1_, e2_, e3_, e4_, e5_, e6_, e7_, e8_, e9_, e10_, e11_, e12_, e13_, e14_, e15_] at hp
  have h0 := hfG2.get h0 (nl_v hSG2 0 (by decide))
  have hm := hm.fr hfG2 (fun l hl => by have := hSG2 l hl; omega)
  change ab_W _ _ _ G2 752 [some (vR 0), some (vR 18), some (vR 80), some (vR 148), some (vz i), none, none] [vz k3] _
  refine ab_istore d_LA_law_752 (Nat.le_of_ble_eq_true rfl) (Nat.le_of_ble_eq_true rfl) rfl ?_
  change ab_W _ _ _ G2 754 [some (vR 0), some (vR 18), some (vR 80), some (vR 148), some (vz i), some (vz k3), none] [] _
  refine ab_aload_n d_LA_law_754 rfl ?_
  refine ab_aload_n d_LA_law_755 rfl ?_
  refine ab_iload d_LA_law_756 rfl ?_
  refine zz_iconst d_LA_law_758 ?_
  refine zz_iadd d_LA_law_759 ?_
  refine zz_iald d_LA_law_760 h0 (by omega) ?_
  have hq4 := hff (i + 1)
  obtain ⟨fs6, hfs6⟩ := hm.recv
  refine ab_callV (d' := 2047) (as := [vz (f (i + 1))]) (st := []) (r := _) (w_MO_keep (d := 2047) (x := (f (i + 1))) hm (by omega) (by decide)) (fun oc G2 h => by obtain ⟨_, _, _, _, _, _, _, _, _, _, _, _, _, _, _, _, _, _, _, _, _, h, _⟩ := h; exact ⟨_, h⟩) (by decide) m_MO_keep ml_LA_112 im_MO_keep se_MO_keep c_MO hfs6 (Nat.le_of_ble_eq_true rfl) d_LA_law_761 rfl ?_
  intro v G5 hq
  obtain ⟨ryG5, tqG5, tdG5, thG5, gjG5, zjG5, fjG5, njG5, sjG5, fbG5, fqG5, usG5, ulG5, ufG5, uaG5, upG5, ubG5, uvG5, uoG5, uOG5, hrm, hr, hfG5, hlG5, hsG5, t7, hm, hk6⟩ := hq
  obtain ⟨f1_, f2_, f3_, f4_, f5_, f6_, f7_, f8_, f9_, f10_, f11_, f12_, f13_, f14_, f15_, f16_, f17_, f18_, f19_, f20_⟩ := hrm
  rw [f1_, f2_, f3_, f4_, f5_, f6_, f7_, f8_, f9_, f10_, f11_, f12_, f13_, f14_, f15_, f16_, f17_, f18_, f19_, f20_] at hm
  cases hr
  have h0 := hfG5.get h0 (by decide)
  have h148 := hfG5.get h148 (by decide)
  have hp := hp.fr hfG5 hlG5 hsG5 (by decide)
  change ab_W _ _ _ G5 764 [some (vR 0), some (vR 18), some (vR 80), some (vR 148), some (vz i), some (vz k3), none] [] _
  refine ab_goto (tgt := 780) d_LA_law_764 (by decide) ?_
  refine ab_less (L' := [some (vR 0), some (vR 18), some (vR 80), some (vR 148), some (vz i), none, none]) (fun i v h => by rcases i with _ | _ | _ | _ | _ | _ | _ | i <;> first | exact h | (simp at h)) ?_
  exact K _ _ _ _ ⟨_, _, _, _, _, _, _, _, _, _, _, _, _, _, _, _, _, _, _, _, _, _, _, _, _, _, _, _, _, _, _, _, _, _, _, hp, hm, h0, h148, hy, hx, hz⟩
set_option maxRecDepth 100000 in
set_option maxHeartbeats 4000000 in
theorem lq_18 {X : ab_X} {Q : Outcome → ab_G → Prop} {o : Nat → Nat} {G : ab_G} {L : Nat} {f F : Int → Int} {lf : Nat} {t i : Int} (h : lwI o G L f F (lf + 1) t) (hff : ∀ k : Int, -2147483648 ≤ f k ∧ f k ≤ 2147483647) (hi : 0 ≤ i ∧ i + 6 ≤ ↑L ∧ ↑L ≤ (3072 : Int)) (n18 : ab_n0 = 18)
    (K : ∀ (o2 : Nat → Nat) (G2 : ab_G) (F2 : Int → Int) (t2 : Int), lwI o2 G2 L f F2 lf t2 → ab_W X ab_LW 2048 G2 780 [some (vR 0), some (vR 18), some (vR 80), some (vR 148), some (vz i), none, none] [] Q) : ab_W X ab_LW 2048 G 767 [some (vR 0), some (vR 18), some (vR 80), some (vR 148), some (vz i), none, none] [] Q := by
  obtain ⟨RD, FT, sz, PG, cw, fa, fp, sn, sf, xa, Fa, xb, Fb, xr, Fr, ry, tq, td, th, gj, zj, fj, nj, sj, fb, fq, us, ul, uf, ua, up, ub, uv, uo, uO, hp, hm, h0, h148, hy, hx, hz⟩ := h
  refine ab_aload_n d_LA_law_767 rfl ?_
  obtain ⟨fs2, hfs2⟩ := hp.recv
  refine ab_callV (d' := 2047) (as := []) (st := []) (r := _) (w_over (d := 2047)  hp  n18 (by decide)) (fun oc G2 h => by obtain ⟨_, _, _, _, _, _, _, _, _, _, _, _, _, _, _, _, _, _, _, _, h⟩ := h; obtain ⟨⟨_, h⟩, _⟩ := h; exact ⟨_, h⟩) (by decide) m_PW_over ml_LA_113 im_PW_over se_PW_over c_PW hfs2 (Nat.le_of_ble_eq_true rfl) d_LA_law_768 rfl ?_
  intro v G1 hq
  obtain ⟨oG1, SG1, RDG1, FTG1, szG1, PGG1, cwG1, faG1, fpG1, snG1, sfG1, xaG1, FaG1, xbG1, FbG1, xrG1, FrG1, hfG1, hSG1, hp, hr⟩ := hq
  obtain ⟨⟨w3, hr⟩, e1_, e2_, e3_, e4_, e5_, e6_, e7_, e8_, e9_, e10_, e11_, e12_, e13_, e14_, e15_⟩ := hr
  rw [e1_, e2_, e3_, e4_, e5_, e6_, e7_, e8_, e9_, e10_, e11_, e12_, e13_, e14_, e15_] at hp
  cases hr
  have h0 := hfG1.get h0 (nl_w hSG1 0 (by decide))
  have h148 := hfG1.get h148 (nl_w hSG1 348 (by decide))
  have hm := hm.fr hfG1 (fun l hl => by have := hSG1 l hl; omega)
  change ab_W _ _ _ G1 771 [some (vR 0), some (vR 18), some (vR 80), some (vR 148), some (vz i), none, none] [vz w3] _
  refine ab_pop d_LA_law_771 rfl ?_
  refine ab_aload_n d_LA_law_772 rfl ?_
  obtain ⟨fs5, hfs5⟩ := hm.recv
  refine ab_callV (d' := 2047) (as := []) (st := []) (r := _) (w_MO_over (d := 2047)  hm  (by decide)) (fun oc G2 h => by obtain ⟨_, _, _, _, _, _, _, _, _, _, _, _, _, _, _, _, _, _, _, _, _, h, _⟩ := h; obtain ⟨_, h⟩ := h; exact ⟨_, h⟩) (by decide) m_MO_over ml_LA_116 im_MO_over se_MO_over c_MO hfs5 (Nat.le_of_ble_eq_true rfl) d_LA_law_773 rfl ?_
  intro v G4 hq
  obtain ⟨ryG4, tqG4, tdG4, thG4, gjG4, zjG4, fjG4, njG4, sjG4, fbG4, fqG4, usG4, ulG4, ufG4, uaG4, upG4, ubG4, uvG4, uoG4, uOG4, hrm, hr, hfG4, hlG4, hsG4, t6, hm⟩ := hq
  obtain ⟨f1_, f2_, f3_, f4_, f5_, f6_, f7_, f8_, f9_, f10_, f11_, f12_, f13_, f14_, f15_, f16_, f17_, f18_, f19_, f20_⟩ := hrm
  rw [f1_, f2_, f3_, f4_, f5_, f6_, f7_, f8_, f9_, f10_, f11_, f12_, f13_, f14_, f15_, f16_, f17_, f18_, f19_, f20_] at hm
  obtain ⟨w7, hr⟩ := hr
  cases hr
  have h0 := hfG4.get h0 (by decide)
  have h148 := hfG4.get h148 (by decide)
  have hp := hp.fr hfG4 hlG4 hsG4 (by decide)
  change ab_W _ _ _ G4 776 [some (vR 0), some (vR 18), some (vR 80), some (vR 148), some (vz i), none, none] [vz w7] _
  refine ab_pop d_LA_law_776 rfl ?_
  refine ab_goto (tgt := 780) d_LA_law_777 (by decide) ?_
  exact K _ _ _ _ ⟨_, _, _, _, _, _, _, _, _, _, _, _, _, _, _, _, _, _, _, _, _, _, _, _, _, _, _, _, _, _, _, _, _, _, _, hp, hm, h0, h148, hy, hx, hz⟩
