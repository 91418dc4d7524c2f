set_option maxRecDepth 100000 in
set_option maxHeartbeats 4000000 in
theorem lq_15 {X : ab_X} {Q : Outcome → ab_G → Prop} {o : Nat → Nat} {G : ab_G} {L : Nat} {f F : Int → Int} {lf : Nat} {t i : Int} (h : lwI o G L f F (lf + 1) t) (hff : ∀ k : Int, -2147483648 ≤ f k ∧ f k ≤ 2147483647) (hi : 0 ≤ i ∧ i + 6 ≤ ↑L ∧ ↑L ≤ (3072 : Int)) (n18 : ab_n0 = 18)
    (K : ∀ (o2 : Nat → Nat) (G2 : ab_G) (F2 : Int → Int) (t2 : Int), lwI o2 G2 L f F2 lf t2 → ab_W X ab_LW 2048 G2 931 [some (vR 0), some (vR 18), some (vR 80), some (vR 148), some (vz i), none, none] [] Q) : ab_W X ab_LW 2048 G 844 [some (vR 0), some (vR 18), some (vR 80), some (vR 148), some (vz i), none, none] [] Q := by
  obtain ⟨RD, FT, sz, PG, cw, fa, fp, sn, sf, xa, Fa, xb, Fb, xr, Fr, LA, ry, tq, td, th, gj, zj, fj, nj, sj, fb, fq, us, ul, uf, ua, up, ub, uv, uo, uO, im, mg, ke, hp, hm, h0, h148, hy, hx, hz, hla_⟩ := h
  refine ab_aload_n d_LA_law_844 rfl ?_
  obtain ⟨fs2, hfs2⟩ := hp.recv
  refine ab_callV (d' := 2047) (as := []) (st := []) (r := _) (w_quote (d := 2047)  hp  n18 (by decide)) (fun oc G2 h => by obtain ⟨_, _, _, _, _, _, _, _, _, _, _, _, _, _, _, _, _, _, _, _, _, h⟩ := h; obtain ⟨_, h, _⟩ := h; exact ⟨_, h⟩) (by decide) m_PW_quote ml_LA_104 im_PW_quote se_PW_quote c_PW hfs2 (Nat.le_of_ble_eq_true rfl) d_LA_law_845 rfl ?_
  intro v G1 hq
  obtain ⟨oG1, SG1, RDG1, FTG1, szG1, PGG1, cwG1, faG1, fpG1, snG1, sfG1, xaG1, FaG1, xbG1, FbG1, xrG1, FrG1, LAG1, hfG1, hSG1, hp, hr⟩ := hq
  obtain ⟨w3, hr, hcl, e1_, hqc, e2_, e3_, e4_, e5_, e6_, e7_, e8_, e9_, e10_, e11_, e12_, e13_, e14_⟩ := hr
  rw [e1_, e2_, e3_, e4_, e5_, e6_, e7_, e8_, e9_, e10_, e11_, e12_, e13_, e14_] at hp
  cases hr
  have h0 := hfG1.get h0 (nl_w hSG1 0 (by decide))
  have h148 := hfG1.get h148 (nl_w hSG1 348 (by decide))
  have hm := hm.fr hfG1 (fun l hl => by have := hSG1 l hl; omega)
  change ab_W _ _ _ G1 848 [some (vR 0), some (vR 18), some (vR 80), some (vR 148), some (vz i), none, none] [vz w3] _
  refine ab_aload_n d_LA_law_848 rfl ?_
  obtain ⟨fs5, hfs5⟩ := hm.recv
  refine ab_callV (d' := 2047) (as := []) (st := [vz w3]) (r := _) (w_MO_quote (d := 2047)  hm  (by decide)) (fun oc G2 h => by obtain ⟨_, _, _, _, _, _, _, _, _, _, _, _, _, _, _, _, _, _, _, _, _, _, _, _, h, _⟩ := h; obtain ⟨_, h⟩ := h; exact ⟨_, h⟩) (by decide) m_MO_quote ml_LA_107 im_MO_quote se_MO_quote c_MO hfs5 (Nat.le_of_ble_eq_true rfl) d_LA_law_849 rfl ?_
  intro v G4 hq
  obtain ⟨ryG4, tqG4, tdG4, thG4, gjG4, zjG4, fjG4, njG4, sjG4, fbG4, fqG4, usG4, ulG4, ufG4, uaG4, upG4, ubG4, uvG4, uoG4, uOG4, imG4, mgG4, keG4, hrm, hr, hfG4, hlG4, hsG4, t6, hm⟩ := hq
  obtain ⟨w7, hrw, hvl, f1_, hqm, f2_, f3_, f4_, f5_, f6_, f7_, f8_, f9_, f10_, f11_, f12_, f13_, f14_, f15_, f16_, f17_, f18_, f19_, f20_, f21_⟩ := hrm
  clear hr
  have hr := hrw
  rw [f1_, f2_, f3_, f4_, f5_, f6_, f7_, f8_, f9_, f10_, f11_, f12_, f13_, f14_, f15_, f16_, f17_, f18_, f19_, f20_, f21_] at hm
  have hvq_ := syn_ql hy hcl hvl
  have hz := sy3_qt hy hqc hqm
  have hy := syn_zero hy
  cases hr
  have h0 := hfG4.get h0 (by decide)
  have h148 := hfG4.get h148 (by decide)
  have hp := hp.fr hfG4 hlG4 hsG4 (by decide)
  change ab_W _ _ _ G4 852 [some (vR 0), some (vR 18), some (vR 80), some (vR 148), some (vz i), none, none] [vz w7, vz w3] _
  refine ab_icmp_eq (tgt := 931) d_LA_law_852 (by decide) (fun _ => ?_) (fun c => absurd (congrArg Int32.ofInt hvq_) c)
  exact K _ _ _ _ ⟨_, _, _, _, _, _, _, _, _, _, _, _, _, _, _, _, _, _, _, _, _, _, _, _, _, _, _, _, _, _, _, _, _, _, _, _, _, _, _, hp, hm, h0, h148, hy, hx, hz, hla_⟩
set_option maxRecDepth 100000 in
set_option maxHeartbeats 4000000 in
theorem lq_16 {X : ab_X} {Q : Outcome → ab_G → Prop} {o : Nat → Nat} {G : ab_G} {L : Nat} {f F : Int → Int} {lf : Nat} {t i : Int} (h : lwI o G L f F (lf + 1) t) (hff : ∀ k : Int, -2147483648 ≤ f k ∧ f k ≤ 2147483647) (hi : 0 ≤ i ∧ i + 6 ≤ ↑L ∧ ↑L ≤ (3072 : Int)) (n18 : ab_n0 = 18)
    (K : ∀ (o2 : Nat → Nat) (G2 : ab_G) (F2 : Int → Int) (t2 : Int), lwI o2 G2 L f F2 lf t2 → ab_W X ab_LW 2048 G2 931 [some (vR 0), some (vR 18), some (vR 80), some (vR 148), some (vz i), none, none] [] Q) : ab_W X ab_LW 2048 G 857 [some (vR 0), some (vR 18), some (vR 80), some (vR 148), some (vz i), none, none] [] Q := by
  obtain ⟨RD, FT, sz, PG, cw, fa, fp, sn, sf, xa, Fa, xb, Fb, xr, Fr, LA, ry, tq, td, th, gj, zj, fj, nj, sj, fb, fq, us, ul, uf, ua, up, ub, uv, uo, uO, im, mg, ke, hp, hm, h0, h148, hy, hx, hz, hla_⟩ := h
  refine ab_aload_n d_LA_law_857 rfl ?_
  refine ab_aload_n d_LA_law_858 rfl ?_
  refine ab_iload d_LA_law_859 rfl ?_
  refine zz_iconst d_LA_law_861 ?_
  refine zz_iadd d_LA_law_862 ?_
  refine zz_iald d_LA_law_863 h0 (by omega) ?_
  have hq1 := hff (i + 1)
  obtain ⟨fs3, hfs3⟩ := hp.recv
  refine ab_callV (d' := 2047) (as := [vz (f (i + 1))]) (st := []) (r := _) (w_output (d := 2047) (k := (f (i + 1))) hp (by omega) n18 (by decide)) (fun oc G2 h => by obtain ⟨_, _, _, _, _, _, _, _, _, _, _, _, _, _, _, _, _, _, _, _, _, h⟩ := h; obtain ⟨_, h, _⟩ := h; exact ⟨_, h⟩) (by decide) m_PW_output ml_LA_108 im_PW_output se_PW_output c_PW hfs3 (Nat.le_of_ble_eq_true rfl) d_LA_law_864 rfl ?_
  intro v G2 hq
  obtain ⟨oG2, SG2, RDG2, FTG2, szG2, PGG2, cwG2, faG2, fpG2, snG2, sfG2, xaG2, FaG2, xbG2, FbG2, xrG2, FrG2, LAG2, hfG2, hSG2, hp, hr⟩ := hq
  obtain ⟨w4, hr, hcl, e1_, e2_, e3_, e4_, e5_, e6_, e7_, e8_, e9_, e10_, e11_, e12_, e13_, e14_, e15_, e16_⟩ := hr
  rw [e1_, e2_, e3_, e4_, e5_, e6_, e7_, e8_, e9_, e10_, e11_, e12_, e13_, e14_, e15_, e16_] at hp
  cases hr
  have h0 := hfG2.get h0 (nl_w hSG2 0 (by decide))
  have h148 := hfG2.get h148 (nl_w hSG2 348 (by decide))
  have hm := hm.fr hfG2 (fun l hl => by have := hSG2 l hl; omega)
  change ab_W _ _ _ G2 867 [some (vR 0), some (vR 18), some (vR 80), some (vR 148), some (vz i), none, none] [vz w4] _
  refine ab_aload_n d_LA_law_867 rfl ?_
  refine ab_aload_n d_LA_law_868 rfl ?_
  refine ab_iload d_LA_law_869 rfl ?_
  refine zz_iconst d_LA_law_871 ?_
  refine zz_iadd d_LA_law_872 ?_
  refine zz_iald d_LA_law_873 h0 (by omega) ?_
  have hq5 := hff (i + 1)
  obtain ⟨fs7, hfs7⟩ := hm.recv
  refine ab_callV (d' := 2047) (as := [vz (f (i + 1))]) (st := [vz w4]) (r := _) (w_MO_output (d := 2047) (x := (f (i + 1))) hm (by omega) (by decide)) (fun oc G2 h => by obtain ⟨_, _, _, _, _, _, _, _, _, _, _, _, _, _, _, _, _, _, _, _, _, _, _, _, h, _⟩ := h; obtain ⟨_, h⟩ := h; exact ⟨_, h⟩) (by decide) m_MO_output ml_LA_111 im_MO_output se_MO_output c_MO hfs7 (Nat.le_of_ble_eq_true rfl) d_LA_law_874 rfl ?_
  intro v G6 hq
  obtain ⟨ryG6, tqG6, tdG6, thG6, gjG6, zjG6, fjG6, njG6, sjG6, fbG6, fqG6, usG6, ulG6, ufG6, uaG6, upG6, ubG6, uvG6, uoG6, uOG6, imG6, mgG6, keG6, hrm, hr, hfG6, hlG6, hsG6, t8, hm⟩ := hq
  obtain ⟨w9, hrw, hvl, f1_, f2_, f3_, f4_, f5_, f6_, f7_, f8_, f9_, f10_, f11_, f12_, f13_, f14_, f15_, f16_, f17_, f18_, f19_, f20_, f21_, f22_, f23_⟩ := hrm
  clear hr
  have hr := hrw
  rw [f1_, f2_, f3_, f4_, f5_, f6_, f7_, f8_, f9_, f10_, f11_, f12_, f13_, f14_, f15_, f16_, f17_, f18_, f19_, f20_, f21_, f22_, f23_] at hm
  have hvq_ := ouR_det hz hcl hvl
  cases hr
  have h0 := hfG6.get h0 (by decide)
  have h148 := hfG6.get h148 (by decide)
  have hp := hp.fr hfG6 hlG6 hsG6 (by decide)
  change ab_W _ _ _ G6 877 [some (vR 0), some (vR 18), some (vR 80), some (vR 148), some (vz i), none, none] [vz w9, vz w4] _
  refine ab_icmp_eq (tgt := 931) d_LA_law_877 (by decide) (fun _ => ?_) (fun c => absurd (congrArg Int32.ofInt hvq_) c)
  exact K _ _ _ _ ⟨_, _, _, _, _, _, _, _, _, _, _, _, _, _, _, _, _, _, _, _, _, _, _, _, _, _, _, _, _, _, _, _, _, _, _, _, _, _, _, hp, hm, h0, h148, hy, hx, hz, hla_⟩
set_option maxRecDepth 100000 in
set_option maxHeartbeats 4000000 in
theorem lq_17 {X : ab_X} {Q : Outcome → ab_G → Prop} {o : Nat → Nat} {G : ab_G} {L : Nat} {f F : Int → Int} {lf : Nat} {t i : Int} (h : lwI o G L f F (lf + 1) t) (hff : ∀ k : Int, -2147483648 ≤ f k ∧ f k ≤ 2147483647) (hi : 0 ≤ i ∧ i + 6 ≤ ↑L ∧ ↑L ≤ (3072 : Int)) (n18 : ab_n0 = 18)
    (K : ∀ (o2 : Nat → Nat) (G2 : ab_G) (F2 : Int → Int) (t2 : Int), lwI o2 G2 L f F2 lf t2 → ab_W X ab_LW 2048 G2 931 [some (vR 0), some (vR 18), some (vR 80), some (vR 148), some (vz i), none, none] [] Q) : ab_W X ab_LW 2048 G 882 [some (vR 0), some (vR 18), some (vR 80), some (vR 148), some (vz i), none, none] [] Q := by
  obtain ⟨RD, FT, sz, PG, cw, fa, fp, sn, sf, xa, Fa, xb, Fb, xr, Fr, LA, ry, tq, td, th, gj, zj, fj, nj, sj, fb, fq, us, ul, uf, ua, up, ub, uv, uo, uO, im, mg, ke, hp, hm, h0, h148, hy, hx, hz, hla_⟩ := h
  refine ab_aload_n d_LA_law_882 rfl ?_
  refine ab_aload_n d_LA_law_883 rfl ?_
  refine ab_iload d_LA_law_884 rfl ?_
  refine zz_iconst d_LA_law_886 ?_
  refine zz_iadd d_LA_law_887 ?_
  refine zz_iald d_LA_law_888 h0 (by omega) ?_
  have hq1 := hff (i + 1)
  refine ab_callSW (d' := 2047) (as := [vR 18, vz (f (i + 1))]) (st := []) (c_LA_keep (d := 2047) hp h148 (by omega) n18 (by decide)) (fun oc G2 h => by obtain ⟨_, _, _, _, _, _, _, _, _, _, _, _, _, _, _, _, _, _, _, _, h, _⟩ := h; exact ⟨_, h⟩) (by decide) m_LA_keep (ab_t7 (List.mem_of_getElem? (i := 239) rfl)) st_LA_keep (Nat.le_of_ble_eq_true rfl) d_LA_law_889 rfl ?_
  intro v G2 hq
  obtain ⟨oG2, SG2, FG2, k3, RDG2, FTG2, szG2, PGG2, cwG2, faG2, fpG2, snG2, sfG2, xaG2, FaG2, xbG2, FbG2, xrG2, FrG2, LAG2, hr, hfG2, hSG2, hp, h148, hrel, hk5⟩ := hq
  cases hr
  obtain ⟨e1_, e2_, e3_, e4_, e5_, e6_, e7_, e8_, e9_, e10_, e11_, e12_, e13_, e14_, e15_, e16_⟩ := hrel
  rw [e1_, e2_, e3_, e4_, e5_, e6_, e7_, e8_, e9_, e10_, e11_, e12_, e13_, e14_, e15_, e16_] at hp
  have h0 := hfG2.get h0 (nl_v hSG2 0 (by decide))
  have hm := hm.fr hfG2 (fun l hl => by have := hSG2 l hl; omega)
  change ab_W _ _ _ G2 892 [some (vR 0), some (vR 18), some (vR 80), some (vR 148), some (vz i), none, none] [vz k3] _
  refine ab_istore d_LA_law_892 (Nat.le_of_ble_eq_true rfl) (Nat.le_of_ble_eq_true rfl) rfl ?_
  change ab_W _ _ _ G2 894 [some (vR 0), some (vR 18), some (vR 80), some (vR 148), some (vz i), some (vz k3), none] [] _
  refine ab_aload_n d_LA_law_894 rfl ?_
  refine ab_aload_n d_LA_law_895 rfl ?_
  refine ab_iload d_LA_law_896 rfl ?_
  refine zz_iconst d_LA_law_898 ?_
  refine zz_iadd d_LA_law_899 ?_
  refine zz_iald d_LA_law_900 h0 (by omega) ?_
  have hq4 := hff (i + 1)
  obtain ⟨fs6, hfs6⟩ := hm.recv
  refine ab_callV (d' := 2047) (as := [vz (f (i + 1))]) (st := []) (r := _) (w_MO_keep (d := 2047) (x := (f (i + 1))) hm (by omega) (by decide)) (fun oc G2 h => by obtain ⟨_, _, _, _, _, _, _, _, _, _, _, _, _, _, _, _, _, _, _, _, _, _, _, _, h, _⟩ := h; exact ⟨_, h⟩) (by decide) m_MO_keep ml_LA_115 im_MO_keep se_MO_keep c_MO hfs6 (Nat.le_of_ble_eq_true rfl) d_LA_law_901 rfl ?_
  intro v G5 hq
  obtain ⟨ryG5, tqG5, tdG5, thG5, gjG5, zjG5, fjG5, njG5, sjG5, fbG5, fqG5, usG5, ulG5, ufG5, uaG5, upG5, ubG5, uvG5, uoG5, uOG5, imG5, mgG5, keG5, hrm, hr, hfG5, hlG5, hsG5, t7, hm, hk6⟩ := hq
  obtain ⟨f1_, f2_, f3_, f4_, f5_, f6_, f7_, f8_, f9_, f10_, f11_, f12_, f13_, f14_, f15_, f16_, f17_, f18_, f19_, f20_, f21_, f22_, f23_⟩ := hrm
  rw [f1_, f2_, f3_, f4_, f5_, f6_, f7_, f8_, f9_, f10_, f11_, f12_, f13_, f14_, f15_, f16_, f17_, f18_, f19_, f20_, f21_, f22_, f23_] at hm
  cases hr
  have h0 := hfG5.get h0 (by decide)
  have h148 := hfG5.get h148 (by decide)
  have hp := hp.fr hfG5 hlG5 hsG5 (by decide)
  have htk_ : t7 = k3 := by rcases hk5 with ⟨a_, b_⟩ | ⟨a_, b_⟩ <;> rcases hk6 with ⟨c_, d_⟩ | ⟨c_, d_⟩ <;> omega
  clear hk5 hk6
  change ab_W _ _ _ G5 904 [some (vR 0), some (vR 18), some (vR 80), some (vR 148), some (vz i), some (vz k3), none] [] _
  refine ab_aload_n d_LA_law_904 rfl ?_
  obtain ⟨fs10, hfs10⟩ := hm.recv
  refine ab_callV (d' := 2047) (as := []) (st := []) (r := _) (w_MO_thrown (d := 2047)  hm  (by decide)) (fun oc G2 h => by obtain ⟨_, _, _, _, _, _, _, _, _, _, _, _, _, _, _, _, _, _, _, _, _, _, _, _, h, _⟩ := h; exact ⟨_, h⟩) (by decide) m_MO_thrown ml_LA_52 im_MO_thrown se_MO_thrown c_MO hfs10 (Nat.le_of_ble_eq_true rfl) d_LA_law_905 rfl ?_
  intro v G9 hq
  obtain ⟨ryG9, tqG9, tdG9, thG9, gjG9, zjG9, fjG9, njG9, sjG9, fbG9, fqG9, usG9, ulG9, ufG9, uaG9, upG9, ubG9, uvG9, uoG9, uOG9, imG9, mgG9, keG9, hrm, hr, hfG9, hlG9, hsG9, t11, hm⟩ := hq
  obtain ⟨f1_, f2_, f3_, f4_, f5_, f6_, f7_, f8_, f9_, f10_, f11_, f12_, f13_, f14_, f15_, f16_, f17_, f18_, f19_, f20_, f21_, f22_, f23_⟩ := hrm
  rw [f1_, f2_, f3_, f4_, f5_, f6_, f7_, f8_, f9_, f10_, f11_, f12_, f13_, f14_, f15_, f16_, f17_, f18_, f19_, f20_, f21_, f22_, f23_] at hm
  cases hr
  have h0 := hfG9.get h0 (by decide)
  have h148 := hfG9.get h148 (by decide)
  have hp := hp.fr hfG9 hlG9 hsG9 (by decide)
  change ab_W _ _ _ G9 908 [some (vR 0), some (vR 18), some (vR 80), some (vR 148), some (vz i), some (vz k3), none] [vz t7] _
  refine ab_iload d_LA_law_908 rfl ?_
  refine ab_icmp_eq (tgt := 915) d_LA_law_910 (by decide) (fun _ => ?_) (fun c => absurd (congrArg Int32.ofInt htk_) c)
  refine ab_goto (tgt := 931) d_LA_law_915 (by decide) ?_
  refine ab_less (L' := [some (vR 0), some (vR 18), some (vR 80), some (vR 148), some (vz i), none, none]) (fun i v h => by rcases i with _ | _ | _ | _ | _ | _ | _ | i <;> first | exact h | (simp at h)) ?_
  exact K _ _ _ _ ⟨_, _, _, _, _, _, _, _, _, _, _, _, _, _, _, _, _, _, _, _, _, _, _, _, _, _, _, _, _, _, _, _, _, _, _, _, _, _, _, hp, hm, h0, h148, hy, hx, hz, hla_⟩
set_option maxRecDepth 100000 in
set_option maxHeartbeats 4000000 in
theorem lq_18 {X : ab_X} {Q : Outcome → ab_G → Prop} {o : Nat → Nat} {G : ab_G} {L : Nat} {f F : Int → Int} {lf : Nat} {t i : Int} (h : lwI o G L f F (lf + 1) t) (hff : ∀ k : Int, -2147483648 ≤ f k ∧ f k ≤ 2147483647) (hi : 0 ≤ i ∧ i + 6 ≤ ↑L ∧ ↑L ≤ (3072 : Int)) (n18 : ab_n0 = 18)
    (K : ∀ (o2 : Nat → Nat) (G2 : ab_G) (F2 : Int → Int) (t2 : Int), lwI o2 G2 L f F2 lf t2 → ab_W X ab_LW 2048 G2 931 [some (vR 0), some (vR 18), some (vR 80), some (vR 148), some (vz i), none, none] [] Q) : ab_W X ab_LW 2048 G 918 [some (vR 0), some (vR 18), some (vR 80), some (vR 148), some (vz i), none, none] [] Q := by
  obtain ⟨RD, FT, sz, PG, cw, fa, fp, sn, sf, xa, Fa, xb, Fb, xr, Fr, LA, ry, tq, td, th, gj, zj, fj, nj, sj, fb, fq, us, ul, uf, ua, up, ub, uv, uo, uO, im, mg, ke, hp, hm, h0, h148, hy, hx, hz, hla_⟩ := h
  refine ab_aload_n d_LA_law_918 rfl ?_
  obtain ⟨fs2, hfs2⟩ := hp.recv
  refine ab_callV (d' := 2047) (as := []) (st := []) (r := _) (w_over (d := 2047)  hp  n18 (by decide)) (fun oc G2 h => by obtain ⟨_, _, _, _, _, _, _, _, _, _, _, _, _, _, _, _, _, _, _, _, _, h⟩ := h; exact ⟨_, h.1⟩) (by decide) m_PW_over ml_LA_116 im_PW_over se_PW_over c_PW hfs2 (Nat.le_of_ble_eq_true rfl) d_LA_law_919 rfl ?_
  intro v G1 hq
  obtain ⟨oG1, SG1, RDG1, FTG1, szG1, PGG1, cwG1, faG1, fpG1, snG1, sfG1, xaG1, FaG1, xbG1, FbG1, xrG1, FrG1, LAG1, hfG1, hSG1, hp, hr⟩ := hq
  obtain ⟨hr, e1_, e2_, e3_, e4_, e5_, e6_, e7_, e8_, e9_, e10_, e11_, e12_, e13_, e14_, e15_, e16_⟩ := hr
  rw [e1_, e2_, e3_, e4_, e5_, e6_, e7_, e8_, e9_, e10_, e11_, e12_, e13_, e14_, e15_, e16_] at hp
  cases hr
  have h0 := hfG1.get h0 (nl_w hSG1 0 (by decide))
  have h148 := hfG1.get h148 (nl_w hSG1 348 (by decide))
  have hm := hm.fr hfG1 (fun l hl => by have := hSG1 l hl; omega)
  change ab_W _ _ _ G1 922 [some (vR 0), some (vR 18), some (vR 80), some (vR 148), some (vz i), none, none] [vz 0] _
  refine ab_aload_n d_LA_law_922 rfl ?_
  obtain ⟨fs5, hfs5⟩ := hm.recv
  refine ab_callV (d' := 2047) (as := []) (st := [vz 0]) (r := _) (w0_MO_over (d := 2047) hm (by decide)) (fun oc G2 h => by obtain ⟨_, _, _, _, _, _, _, _, _, _, _, _, _, _, _, _, _, _, _, _, _, _, _, _, h, _⟩ := h; exact ⟨_, h⟩) (by decide) m_MO_over ml_LA_119 im_MO_over se_MO_over c_MO hfs5 (Nat.le_of_ble_eq_true rfl) d_LA_law_923 rfl ?_
  intro v G4 hq
  obtain ⟨ryG4, tqG4, tdG4, thG4, gjG4, zjG4, fjG4, njG4, sjG4, fbG4, fqG4, usG4, ulG4, ufG4, uaG4, upG4, ubG4, uvG4, uoG4, uOG4, imG4, mgG4, keG4, hrm, hr, hfG4, hlG4, hsG4, t6, hm⟩ := hq
  obtain ⟨f1_, f2_, f3_, f4_, f5_, f6_, f7_, f8_, f9_, f10_, f11_, f12_, f13_, f14_, f15_, f16_, f17_, f18_, f19_, f20_, f21_, f22_, f23_⟩ := hrm
  rw [f1_, f2_, f3_, f4_, f5_, f6_, f7_, f8_, f9_, f10_, f11_, f12_, f13_, f14_, f15_, f16_, f17_, f18_, f19_, f20_, f21_, f22_, f23_] at hm
  cases hr
  have h0 := hfG4.get h0 (by decide)
  have h148 := hfG4.get h148 (by decide)
  have hp := hp.fr hfG4 hlG4 hsG4 (by decide)
  change ab_W _ _ _ G4 926 [some (vR 0), some (vR 18), some (vR 80), some (vR 148), some (vz i), none, none] [vz 0, vz 0] _
  refine zz_icmp_eq (tgt := 931) d_LA_law_926 (by decide) (by decide) (by decide) (fun c8 => ?_) (fun c8 => absurd c8 (by decide))
  exact K _ _ _ _ ⟨_, _, _, _, _, _, _, _, _, _, _, _, _, _, _, _, _, _, _, _, _, _, _, _, _, _, _, _, _, _, _, _, _, _, _, _, _, _, _, hp, hm, h0, h148, hy, hx, hz, hla_⟩
