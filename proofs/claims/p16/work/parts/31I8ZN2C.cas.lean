set_option maxRecDepth 100000 in
set_option maxHeartbeats 4000000 in
theorem lq_10 {X : ab_X} {Q : Outcome → ab_G → Prop} {o : Nat → Nat} {G : ab_G} {L : Nat} {f F : Int → Int} {lf : Nat} {t i : Int} (h : lwI o G L f F (lf + 1) t) (hff : ∀ k : Int, -2147483648 ≤ f k ∧ f k ≤ 2147483647) (hi : 0 ≤ i ∧ i + 6 ≤ ↑L ∧ ↑L ≤ (3072 : Int)) (n18 : ab_n0 = 18)
    (K : ∀ (o2 : Nat → Nat) (G2 : ab_G) (F2 : Int → Int) (t2 : Int), lwI o2 G2 L f F2 lf t2 → ab_W X ab_LW 2048 G2 780 [some (vR 0), some (vR 18), some (vR 80), some (vR 148), some (vz i), none, none] [] Q) : ab_W X ab_LW 2048 G 521 [some (vR 0), some (vR 18), some (vR 80), some (vR 148), some (vz i), none, none] [] Q := by
  obtain ⟨RD, FT, sz, PG, cw, fa, fp, sn, sf, xa, Fa, xb, Fb, xr, Fr, ry, tq, td, th, gj, zj, fj, nj, sj, fb, fq, us, ul, uf, ua, up, ub, uv, uo, uO, hp, hm, h0, h148, hy, hx, hz⟩ := h
  refine ab_aload_n d_LA_law_521 rfl ?_
  refine ab_aload_n d_LA_law_522 rfl ?_
  refine ab_iload d_LA_law_523 rfl ?_
  refine zz_iconst d_LA_law_525 ?_
  refine zz_iadd d_LA_law_526 ?_
  refine zz_iald d_LA_law_527 h0 (by omega) ?_
  have hq1 := hff (i + 1)
  refine ab_aload_n d_LA_law_528 rfl ?_
  refine ab_iload d_LA_law_529 rfl ?_
  refine zz_iconst d_LA_law_531 ?_
  refine zz_iadd d_LA_law_532 ?_
  refine zz_iald d_LA_law_533 h0 (by omega) ?_
  have hq2 := hff (i + 2)
  obtain ⟨fs4, hfs4⟩ := hp.recv
  refine ab_callV (d' := 2047) (as := [vz (f (i + 1)), vz (f (i + 2))]) (st := []) (r := _) (w_found (d := 2047) (k := (f (i + 1))) (wh := (f (i + 2))) hp (by omega) n18 (by decide)) (fun oc G2 h => by obtain ⟨_, _, _, _, _, _, _, _, _, _, _, _, _, _, _, _, _, _, _, _, h⟩ := h; obtain ⟨_, h, _⟩ := h; exact ⟨_, h⟩) (by decide) m_PW_found ml_LA_82 im_PW_found se_PW_found c_PW hfs4 (Nat.le_of_ble_eq_true rfl) d_LA_law_534 rfl ?_
  intro v G3 hq
  obtain ⟨oG3, SG3, RDG3, FTG3, szG3, PGG3, cwG3, faG3, fpG3, snG3, sfG3, xaG3, FaG3, xbG3, FbG3, xrG3, FrG3, hfG3, hSG3, hp, hr⟩ := hq
  obtain ⟨w5, hr, hcl, e1_, e2_, e3_, e4_, e5_, e6_, e7_, e8_, e9_, e10_, e11_, e12_, e13_, e14_, e15_⟩ := hr
  rw [e1_, e2_, e3_, e4_, e5_, e6_, e7_, e8_, e9_, e10_, e11_, e12_, e13_, e14_, e15_] at hp
  cases hr
  have h0 := hfG3.get h0 (nl_w hSG3 0 (by decide))
  have h148 := hfG3.get h148 (nl_w hSG3 348 (by decide))
  have hm := hm.fr hfG3 (fun l hl => by have := hSG3 l hl; omega)
  change ab_W _ _ _ G3 537 [some (vR 0), some (vR 18), some (vR 80), some (vR 148), some (vz i), none, none] [vz w5] _
  refine ab_pop d_LA_law_537 rfl ?_
  refine ab_aload_n d_LA_law_538 rfl ?_
  refine ab_aload_n d_LA_law_539 rfl ?_
  refine ab_iload d_LA_law_540 rfl ?_
  refine zz_iconst d_LA_law_542 ?_
  refine zz_iadd d_LA_law_543 ?_
  refine zz_iald d_LA_law_544 h0 (by omega) ?_
  have hq6 := hff (i + 1)
  refine ab_aload_n d_LA_law_545 rfl ?_
  refine ab_iload d_LA_law_546 rfl ?_
  refine zz_iconst d_LA_law_548 ?_
  refine zz_iadd d_LA_law_549 ?_
  refine zz_iald d_LA_law_550 h0 (by omega) ?_
  have hq7 := hff (i + 2)
  obtain ⟨fs9, hfs9⟩ := hm.recv
  refine ab_callV (d' := 2047) (as := [vz (f (i + 1)), vz (f (i + 2))]) (st := []) (r := _) (w_MO_found (d := 2047) (x := (f (i + 1))) (y := (f (i + 2))) hm (by omega) (by decide)) (fun oc G2 h => by obtain ⟨_, _, _, _, _, _, _, _, _, _, _, _, _, _, _, _, _, _, _, _, _, h, _⟩ := h; obtain ⟨_, h⟩ := h; exact ⟨_, h⟩) (by decide) m_MO_found ml_LA_85 im_MO_found se_MO_found c_MO hfs9 (Nat.le_of_ble_eq_true rfl) d_LA_law_551 rfl ?_
  intro v G8 hq
  obtain ⟨ryG8, tqG8, tdG8, thG8, gjG8, zjG8, fjG8, njG8, sjG8, fbG8, fqG8, usG8, ulG8, ufG8, uaG8, upG8, ubG8, uvG8, uoG8, uOG8, hrm, hr, hfG8, hlG8, hsG8, t10, hm⟩ := hq
  obtain ⟨w11, hrw, hvl, f1_, f2_, f3_, f4_, f5_, f6_, f7_, f8_, f9_, f10_, f11_, f12_, f13_, f14_, f15_, f16_, f17_, f18_, f19_, f20_⟩ := hrm
  clear hr
  have hr := hrw
  rw [f1_, f2_, f3_, f4_, f5_, f6_, f7_, f8_, f9_, f10_, f11_, f12_, f13_, f14_, f15_, f16_, f17_, f18_, f19_, f20_] at hm
  have hvq_ := sy2_fd hx hcl hvl
  cases hr
  have h0 := hfG8.get h0 (by decide)
  have h148 := hfG8.get h148 (by decide)
  have hp := hp.fr hfG8 hlG8 hsG8 (by decide)
  change ab_W _ _ _ G8 554 [some (vR 0), some (vR 18), some (vR 80), some (vR 148), some (vz i), none, none] [vz w11] _
  refine ab_pop d_LA_law_554 rfl ?_
  refine ab_goto (tgt := 780) d_LA_law_555 (by decide) ?_
  exact K _ _ _ _ ⟨_, _, _, _, _, _, _, _, _, _, _, _, _, _, _, _, _, _, _, _, _, _, _, _, _, _, _, _, _, _, _, _, _, _, _, hp, hm, h0, h148, hy, hx, hz⟩
set_option maxRecDepth 100000 in
set_option maxHeartbeats 4000000 in
theorem lq_11 {X : ab_X} {Q : Outcome → ab_G → Prop} {o : Nat → Nat} {G : ab_G} {L : Nat} {f F : Int → Int} {lf : Nat} {t i : Int} (h : lwI o G L f F (lf + 1) t) (hff : ∀ k : Int, -2147483648 ≤ f k ∧ f k ≤ 2147483647) (hi : 0 ≤ i ∧ i + 6 ≤ ↑L ∧ ↑L ≤ (3072 : Int)) (n18 : ab_n0 = 18)
    (K : ∀ (o2 : Nat → Nat) (G2 : ab_G) (F2 : Int → Int) (t2 : Int), lwI o2 G2 L f F2 lf t2 → ab_W X ab_LW 2048 G2 780 [some (vR 0), some (vR 18), some (vR 80), some (vR 148), some (vz i), none, none] [] Q) : ab_W X ab_LW 2048 G 558 [some (vR 0), some (vR 18), some (vR 80), some (vR 148), some (vz i), none, none] [] Q := by
  obtain ⟨RD, FT, sz, PG, cw, fa, fp, sn, sf, xa, Fa, xb, Fb, xr, Fr, ry, tq, td, th, gj, zj, fj, nj, sj, fb, fq, us, ul, uf, ua, up, ub, uv, uo, uO, hp, hm, h0, h148, hy, hx, hz⟩ := h
  refine ab_aload_n d_LA_law_558 rfl ?_
  refine ab_aload_n d_LA_law_559 rfl ?_
  refine ab_iload d_LA_law_560 rfl ?_
  refine zz_iconst d_LA_law_562 ?_
  refine zz_iadd d_LA_law_563 ?_
  refine zz_iald d_LA_law_564 h0 (by omega) ?_
  have hq1 := hff (i + 1)
  refine ab_aload_n d_LA_law_565 rfl ?_
  refine ab_callSW (d' := 2047) (as := [vR 18, vz (f (i + 1)), vR 148]) (st := []) (c_LA_replace (d := 2047) hp h148 (by omega) n18 (by decide)) (fun oc G2 h => by obtain ⟨_, _, _, _, _, _, _, _, _, _, _, _, _, _, _, _, _, _, _, h, _⟩ := h; exact ⟨_, h⟩) (by decide) m_LA_replace (ab_t7 (List.mem_of_getElem? (i := 202) rfl)) st_LA_replace (Nat.le_of_ble_eq_true rfl) d_LA_law_566 rfl ?_
  intro v G2 hq
  obtain ⟨oG2, SG2, FG2, k3, RDG2, FTG2, szG2, PGG2, cwG2, faG2, fpG2, snG2, sfG2, xaG2, FaG2, xbG2, FbG2, xrG2, FrG2, hr, hfG2, hSG2, hp, h148, hrel⟩ := hq
  cases hr
  obtain ⟨hrl, hrl2, e1_, e2_, e3_, e4_, e5_, e6_, e7_, e8_, e9_, e10_, e11_, e12_⟩ := hrel
  rw [e1_, e2_, e3_, e4_, e5_, e6_, e7_, e8_, e9_, e10_, e11_, e12_] at hp
  have h0 := hfG2.get h0 (nl_v hSG2 0 (by decide))
  have hm := hm.fr hfG2 (fun l hl => by have := hSG2 l hl; omega)
  change ab_W _ _ _ G2 569 [some (vR 0), some (vR 18), some (vR 80), some (vR 148), some (vz i), none, none] [vz k3] _
  refine ab_istore d_LA_law_569 (Nat.le_of_ble_eq_true rfl) (Nat.le_of_ble_eq_true rfl) rfl ?_
  change ab_W _ _ _ G2 571 [some (vR 0), some (vR 18), some (vR 80), some (vR 148), some (vz i), some (vz k3), none] [] _
  refine ab_aload_n d_LA_law_571 rfl ?_
  refine ab_aload_n d_LA_law_572 rfl ?_
  refine ab_iload d_LA_law_573 rfl ?_
  refine zz_iconst d_LA_law_575 ?_
  refine zz_iadd d_LA_law_576 ?_
  refine zz_iald d_LA_law_577 h0 (by omega) ?_
  have hq4 := hff (i + 1)
  obtain ⟨fs6, hfs6⟩ := hm.recv
  refine ab_callV (d' := 2047) (as := [vz (f (i + 1))]) (st := []) (r := _) (w_MO_replace (d := 2047) (s := (f (i + 1))) hm (by omega) (by decide)) (fun oc G2 h => by obtain ⟨_, _, _, _, _, _, _, _, _, _, _, _, _, _, _, _, _, _, _, _, _, h, _⟩ := h; obtain ⟨_, h⟩ := h; exact ⟨_, h⟩) (by decide) m_MO_replace ml_LA_88 im_MO_replace se_MO_replace c_MO hfs6 (Nat.le_of_ble_eq_true rfl) d_LA_law_578 rfl ?_
  intro v G5 hq
  obtain ⟨ryG5, tqG5, tdG5, thG5, gjG5, zjG5, fjG5, njG5, sjG5, fbG5, fqG5, usG5, ulG5, ufG5, uaG5, upG5, ubG5, uvG5, uoG5, uOG5, hrm, hr, hfG5, hlG5, hsG5, t7, hm, hcm⟩ := hq
  obtain ⟨hmd, hml, f1_, f2_, f3_, f4_, f5_, f6_, f7_, f8_, f9_, f10_, f11_, f12_, f13_, f14_, f15_, f16_, f17_⟩ := hrm
  rw [f1_, f2_, f3_, f4_, f5_, f6_, f7_, f8_, f9_, f10_, f11_, f12_, f13_, f14_, f15_, f16_, f17_] at hm
  obtain ⟨w8, hrw, hmx⟩ := hcm
  clear hr
  have hr := hrw
  obtain ⟨htk_, hvw_, hkb_, hz⟩ := sy3_rp hx hy hz hmd hrl hmx
  have hy := syn_rep hy hrl2 hml
  cases hr
  have h0 := hfG5.get h0 (by decide)
  have h148 := hfG5.get h148 (by decide)
  have hp := hp.fr hfG5 hlG5 hsG5 (by decide)
  change ab_W _ _ _ G5 581 [some (vR 0), some (vR 18), some (vR 80), some (vR 148), some (vz i), some (vz k3), none] [vz w8] _
  refine ab_istore d_LA_law_581 (Nat.le_of_ble_eq_true rfl) (Nat.le_of_ble_eq_true rfl) rfl ?_
  change ab_W _ _ _ G5 583 [some (vR 0), some (vR 18), some (vR 80), some (vR 148), some (vz i), some (vz k3), some (vz w8)] [] _
  refine ab_goto (tgt := 780) d_LA_law_583 (by decide) ?_
  refine ab_less (L' := [some (vR 0), some (vR 18), some (vR 80), some (vR 148), some (vz i), none, none]) (fun i v h => by rcases i with _ | _ | _ | _ | _ | _ | _ | i <;> first | exact h | (simp at h)) ?_
  exact K _ _ _ _ ⟨_, _, _, _, _, _, _, _, _, _, _, _, _, _, _, _, _, _, _, _, _, _, _, _, _, _, _, _, _, _, _, _, _, _, _, hp, hm, h0, h148, hy, hx, hz⟩
set_option maxRecDepth 100000 in
set_option maxHeartbeats 4000000 in
theorem lq_12 {X : ab_X} {Q : Outcome → ab_G → Prop} {o : Nat → Nat} {G : ab_G} {L : Nat} {f F : Int → Int} {lf : Nat} {t i : Int} (h : lwI o G L f F (lf + 1) t) (hff : ∀ k : Int, -2147483648 ≤ f k ∧ f k ≤ 2147483647) (hi : 0 ≤ i ∧ i + 6 ≤ ↑L ∧ ↑L ≤ (3072 : Int)) (n18 : ab_n0 = 18)
    (K : ∀ (o2 : Nat → Nat) (G2 : ab_G) (F2 : Int → Int) (t2 : Int), lwI o2 G2 L f F2 lf t2 → ab_W X ab_LW 2048 G2 780 [some (vR 0), some (vR 18), some (vR 80), some (vR 148), some (vz i), none, none] [] Q) : ab_W X ab_LW 2048 G 586 [some (vR 0), some (vR 18), some (vR 80), some (vR 148), some (vz i), none, none] [] Q := by
  obtain ⟨RD, FT, sz, PG, cw, fa, fp, sn, sf, xa, Fa, xb, Fb, xr, Fr, ry, tq, td, th, gj, zj, fj, nj, sj, fb, fq, us, ul, uf, ua, up, ub, uv, uo, uO, hp, hm, h0, h148, hy, hx, hz⟩ := h
  refine ab_aload_n d_LA_law_586 rfl ?_
  refine ab_aload_n d_LA_law_587 rfl ?_
  refine ab_iload d_LA_law_588 rfl ?_
  refine zz_iconst d_LA_law_590 ?_
  refine zz_iadd d_LA_law_591 ?_
  refine zz_iald d_LA_law_592 h0 (by omega) ?_
  have hq1 := hff (i + 1)
  refine ab_aload_n d_LA_law_593 rfl ?_
  refine ab_callSW (d' := 2047) (as := [vR 18, vz (f (i + 1)), vR 148]) (st := []) (c_LA_split (d := 2047) hp h148 (by omega) n18 (by decide)) (fun oc G2 h => by obtain ⟨_, _, _, _, _, _, _, _, _, _, _, _, _, _, _, _, _, _, _, h, _⟩ := h; exact ⟨_, h⟩) (by decide) m_LA_split (ab_t7 (List.mem_of_getElem? (i := 232) rfl)) st_LA_split (Nat.le_of_ble_eq_true rfl) d_LA_law_594 rfl ?_
  intro v G2 hq
  obtain ⟨oG2, SG2, FG2, k3, RDG2, FTG2, szG2, PGG2, cwG2, faG2, fpG2, snG2, sfG2, xaG2, FaG2, xbG2, FbG2, xrG2, FrG2, hr, hfG2, hSG2, hp, h148, hrel⟩ := hq
  cases hr
  obtain ⟨hrl, e1_, e2_, e3_, e4_, e5_, e6_, e7_, e8_, e9_, e10_, e11_, e12_, e13_⟩ := hrel
  rw [e1_, e2_, e3_, e4_, e5_, e6_, e7_, e8_, e9_, e10_, e11_, e12_, e13_] at hp
  have h0 := hfG2.get h0 (nl_v hSG2 0 (by decide))
  have hm := hm.fr hfG2 (fun l hl => by have := hSG2 l hl; omega)
  change ab_W _ _ _ G2 597 [some (vR 0), some (vR 18), some (vR 80), some (vR 148), some (vz i), none, none] [vz k3] _
  refine ab_istore d_LA_law_597 (Nat.le_of_ble_eq_true rfl) (Nat.le_of_ble_eq_true rfl) rfl ?_
  change ab_W _ _ _ G2 599 [some (vR 0), some (vR 18), some (vR 80), some (vR 148), some (vz i), some (vz k3), none] [] _
  refine ab_aload_n d_LA_law_599 rfl ?_
  refine ab_aload_n d_LA_law_600 rfl ?_
  refine ab_iload d_LA_law_601 rfl ?_
  refine zz_iconst d_LA_law_603 ?_
  refine zz_iadd d_LA_law_604 ?_
  refine zz_iald d_LA_law_605 h0 (by omega) ?_
  have hq4 := hff (i + 1)
  obtain ⟨fs6, hfs6⟩ := hm.recv
  refine ab_callV (d' := 2047) (as := [vz (f (i + 1))]) (st := []) (r := _) (w_MO_split1 (d := 2047) (s := (f (i + 1))) hm (by omega) (by decide)) (fun oc G2 h => by obtain ⟨_, _, _, _, _, _, _, _, _, _, _, _, _, _, _, _, _, _, _, _, _, h, _⟩ := h; obtain ⟨_, h⟩ := h; exact ⟨_, h⟩) (by decide) m_MO_split1 ml_LA_91 im_MO_split1 se_MO_split1 c_MO hfs6 (Nat.le_of_ble_eq_true rfl) d_LA_law_606 rfl ?_
  intro v G5 hq
  obtain ⟨ryG5, tqG5, tdG5, thG5, gjG5, zjG5, fjG5, njG5, sjG5, fbG5, fqG5, usG5, ulG5, ufG5, uaG5, upG5, ubG5, uvG5, uoG5, uOG5, hrm, hr, hfG5, hlG5, hsG5, t7, hm, hcm⟩ := hq
  obtain ⟨f1_, f2_, f3_, f4_, f5_, f6_, f7_, f8_, f9_, f10_, f11_, f12_, f13_, f14_, f15_, f16_, f17_, f18_⟩ := hrm
  rw [f1_, f2_, f3_, f4_, f5_, f6_, f7_, f8_, f9_, f10_, f11_, f12_, f13_, f14_, f15_, f16_, f17_, f18_] at hm
  obtain ⟨w8, hrw, hml⟩ := hcm
  clear hr
  have hr := hrw
  obtain ⟨htk_, hvw_, hkb_, hx⟩ := sy2_sp hx hy hrl hml
  cases hr
  have h0 := hfG5.get h0 (by decide)
  have h148 := hfG5.get h148 (by decide)
  have hp := hp.fr hfG5 hlG5 hsG5 (by decide)
  change ab_W _ _ _ G5 609 [some (vR 0), some (vR 18), some (vR 80), some (vR 148), some (vz i), some (vz k3), none] [vz w8] _
  refine ab_istore d_LA_law_609 (Nat.le_of_ble_eq_true rfl) (Nat.le_of_ble_eq_true rfl) rfl ?_
  change ab_W _ _ _ G5 611 [some (vR 0), some (vR 18), some (vR 80), some (vR 148), some (vz i), some (vz k3), some (vz w8)] [] _
  refine ab_goto (tgt := 780) d_LA_law_611 (by decide) ?_
  refine ab_less (L' := [some (vR 0), some (vR 18), some (vR 80), some (vR 148), some (vz i), none, none]) (fun i v h => by rcases i with _ | _ | _ | _ | _ | _ | _ | i <;> first | exact h | (simp at h)) ?_
  exact K _ _ _ _ ⟨_, _, _, _, _, _, _, _, _, _, _, _, _, _, _, _, _, _, _, _, _, _, _, _, _, _, _, _, _, _, _, _, _, _, _, hp, hm, h0, h148, hy, hx, hz⟩
set_option maxRecDepth 100000 in
set_option maxHeartbeats 4000000 in
theorem lq_13 {X : ab_X} {Q : Outcome → ab_G → Prop} {o : Nat → Nat} {G : ab_G} {L : Nat} {f F : Int → Int} {lf : Nat} {t i : Int} (h : lwI o G L f F (lf + 1) t) (hff : ∀ k : Int, -2147483648 ≤ f k ∧ f k ≤ 2147483647) (hi : 0 ≤ i ∧ i + 6 ≤ ↑L ∧ ↑L ≤ (3072 : Int)) (n18 : ab_n0 = 18)
    (K : ∀ (o2 : Nat → Nat) (G2 : ab_G) (F2 : Int → Int) (t2 : Int), lwI o2 G2 L f F2 lf t2 → ab_W X ab_LW 2048 G2 780 [some (vR 0), some (vR 18), some (vR 80), some (vR 148), some (vz i), none, none] [] Q) : ab_W X ab_LW 2048 G 614 [some (vR 0), some (vR 18), some (vR 80), some (vR 148), some (vz i), none, none] [] Q := by
  obtain ⟨RD, FT, sz, PG, cw, fa, fp, sn, sf, xa, Fa, xb, Fb, xr, Fr, ry, tq, td, th, gj, zj, fj, nj, sj, fb, fq, us, ul, uf, ua, up, ub, uv, uo, uO, hp, hm, h0, h148, hy, hx, hz⟩ := h
  refine ab_aload_n d_LA_law_614 rfl ?_
  refine ab_aload_n d_LA_law_615 rfl ?_
  refine ab_iload d_LA_law_616 rfl ?_
  refine zz_iconst d_LA_law_618 ?_
  refine zz_iadd d_LA_law_619 ?_
  refine zz_iald d_LA_law_620 h0 (by omega) ?_
  have hq1 := hff (i + 1)
  refine ab_aload_n d_LA_law_621 rfl ?_
  refine ab_iload d_LA_law_622 rfl ?_
  refine zz_iconst d_LA_law_624 ?_
  refine zz_iadd d_LA_law_625 ?_
  refine zz_iald d_LA_law_626 h0 (by omega) ?_
  have hq2 := hff (i + 2)
  obtain ⟨fs4, hfs4⟩ := hp.recv
  refine ab_callV (d' := 2047) (as := [vz (f (i + 1)), vz (f (i + 2))]) (st := []) (r := _) (w_piece (d := 2047) (k := (f (i + 1))) (wh := (f (i + 2))) hp (by omega) n18 (by decide)) (fun oc G2 h => by obtain ⟨_, _, _, _, _, _, _, _, _, _, _, _, _, _, _, _, _, _, _, _, h⟩ := h; obtain ⟨_, h, _⟩ := h; exact ⟨_, h⟩) (by decide) m_PW_piece ml_LA_92 im_PW_piece se_PW_piece c_PW hfs4 (Nat.le_of_ble_eq_true rfl) d_LA_law_627 rfl ?_
  intro v G3 hq
  obtain ⟨oG3, SG3, RDG3, FTG3, szG3, PGG3, cwG3, faG3, fpG3, snG3, sfG3, xaG3, FaG3, xbG3, FbG3, xrG3, FrG3, hfG3, hSG3, hp, hr⟩ := hq
  obtain ⟨w5, hr, hcl, e1_, e2_, e3_, e4_, e5_, e6_, e7_, e8_, e9_, e10_, e11_, e12_, e13_, e14_, e15_⟩ := hr
  rw [e1_, e2_, e3_, e4_, e5_, e6_, e7_, e8_, e9_, e10_, e11_, e12_, e13_, e14_, e15_] at hp
  cases hr
  have h0 := hfG3.get h0 (nl_w hSG3 0 (by decide))
  have h148 := hfG3.get h148 (nl_w hSG3 348 (by decide))
  have hm := hm.fr hfG3 (fun l hl => by have := hSG3 l hl; omega)
  change ab_W _ _ _ G3 630 [some (vR 0), some (vR 18), some (vR 80), some (vR 148), some (vz i), none, none] [vz w5] _
  refine ab_pop d_LA_law_630 rfl ?_
  refine ab_aload_n d_LA_law_631 rfl ?_
  refine ab_aload_n d_LA_law_632 rfl ?_
  refine ab_iload d_LA_law_633 rfl ?_
  refine zz_iconst d_LA_law_635 ?_
  refine zz_iadd d_LA_law_636 ?_
  refine zz_iald d_LA_law_637 h0 (by omega) ?_
  have hq6 := hff (i + 1)
  refine ab_aload_n d_LA_law_638 rfl ?_
  refine ab_iload d_LA_law_639 rfl ?_
  refine zz_iconst d_LA_law_641 ?_
  refine zz_iadd d_LA_law_642 ?_
  refine zz_iald d_LA_law_643 h0 (by omega) ?_
  have hq7 := hff (i + 2)
  obtain ⟨fs9, hfs9⟩ := hm.recv
  refine ab_callV (d' := 2047) (as := [vz (f (i + 1)), vz (f (i + 2))]) (st := []) (r := _) (w_MO_piece (d := 2047) (x := (f (i + 1))) (y := (f (i + 2))) hm (by omega) (by decide)) (fun oc G2 h => by obtain ⟨_, _, _, _, _, _, _, _, _, _, _, _, _, _, _, _, _, _, _, _, _, h, _⟩ := h; obtain ⟨_, h⟩ := h; exact ⟨_, h⟩) (by decide) m_MO_piece ml_LA_95 im_MO_piece se_MO_piece c_MO hfs9 (Nat.le_of_ble_eq_true rfl) d_LA_law_644 rfl ?_
  intro v G8 hq
  obtain ⟨ryG8, tqG8, tdG8, thG8, gjG8, zjG8, fjG8, njG8, sjG8, fbG8, fqG8, usG8, ulG8, ufG8, uaG8, upG8, ubG8, uvG8, uoG8, uOG8, hrm, hr, hfG8, hlG8, hsG8, t10, hm⟩ := hq
  obtain ⟨w11, hrw, hvl, f1_, f2_, f3_, f4_, f5_, f6_, f7_, f8_, f9_, f10_, f11_, f12_, f13_, f14_, f15_, f16_, f17_, f18_, f19_, f20_⟩ := hrm
  clear hr
  have hr := hrw
  rw [f1_, f2_, f3_, f4_, f5_, f6_, f7_, f8_, f9_, f10_, f11_, f12_, f13_, f14_, f15_, f16_, f17_, f18_, f19_, f20_] at hm
  have hvq_ := sy2_pc hx hcl hvl
  cases hr
  have h0 := hfG8.get h0 (by decide)
  have h148 := hfG8.get h148 (by decide)
  have hp := hp.fr hfG8 hlG8 hsG8 (by decide)
  change ab_W _ _ _ G8 647 [some (vR 0), some (vR 18), some (vR 80), some (vR 148), some (vz i), none, none] [vz w11] _
  refine ab_pop d_LA_law_647 rfl ?_
  refine ab_goto (tgt := 780) d_LA_law_648 (by decide) ?_
  exact K _ _ _ _ ⟨_, _, _, _, _, _, _, _, _, _, _, _, _, _, _, _, _, _, _, _, _, _, _, _, _, _, _, _, _, _, _, _, _, _, _, hp, hm, h0, h148, hy, hx, hz⟩
set_option maxRecDepth 100000 in
set_option maxHeartbeats 4000000 in
theorem lq_14 {X : ab_X} {Q : Outcome → ab_G → Prop} {o : Nat → Nat} {G : ab_G} {L : Nat} {f F : Int → Int} {lf : Nat} {t i : Int} (h : lwI o G L f F (lf + 1) t) (hff : ∀ k : Int, -2147483648 ≤ f k ∧ f k ≤ 2147483647) (hi : 0 ≤ i ∧ i + 6 ≤ ↑L ∧ ↑L ≤ (3072 : Int)) (n18 : ab_n0 = 18)
    (K : ∀ (o2 : Nat → Nat) (G2 : ab_G) (F2 : Int → Int) (t2 : Int), lwI o2 G2 L f F2 lf t2 → ab_W X ab_LW 2048 G2 780 [some (vR 0), some (vR 18), some (vR 80), some (vR 148), some (vz i), none, none] [] Q) : ab_W X ab_LW 2048 G 651 [some (vR 0), some (vR 18), some (vR 80), some (vR 148), some (vz i), none, none] [] Q := by
  obtain ⟨RD, FT, sz, PG, cw, fa, fp, sn, sf, xa, Fa, xb, Fb, xr, Fr, ry, tq, td, th, gj, zj, fj, nj, sj, fb, fq, us, ul, uf, ua, up, ub, uv, uo, uO, hp, hm, h0, h148, hy, hx, hz⟩ := h
  refine ab_aload_n d_LA_law_651 rfl ?_
  refine ab_aload_n d_LA_law_652 rfl ?_
  refine ab_iload d_LA_law_653 rfl ?_
  refine zz_iconst d_LA_law_655 ?_
  refine zz_iadd d_LA_law_656 ?_
  refine zz_iald d_LA_law_657 h0 (by omega) ?_
  have hq1 := hff (i + 1)
  refine ab_aload_n d_LA_law_658 rfl ?_
  refine ab_iload d_LA_law_659 rfl ?_
  refine zz_iconst d_LA_law_661 ?_
  refine zz_iadd d_LA_law_662 ?_
  refine zz_iald d_LA_law_663 h0 (by omega) ?_
  have hq2 := hff (i + 2)
  refine zz_if_eq (tgt := 671) d_LA_law_664 (by decide) (by omega) (fun c3 => ?_) (fun c3 => ?_)
  · refine zz_iconst d_LA_law_671 ?_
    obtain ⟨fs5, hfs5⟩ := hp.recv
    refine ab_callV (d' := 2047) (as := [vz (f (i + 1)), vz 0]) (st := []) (r := _) (w_which (d := 2047) (x := (f (i + 1))) (wh := 0) hp (by omega) n18 (by decide)) (fun oc G2 h => by obtain ⟨_, _, _, _, _, _, _, _, _, _, _, _, _, _, _, _, _, _, _, _, h⟩ := h; obtain ⟨_, h, _⟩ := h; exact ⟨_, h⟩) (by decide) m_PW_which ml_LA_96 im_PW_which se_PW_which c_PW hfs5 (Nat.le_of_ble_eq_true rfl) d_LA_law_672 rfl ?_
    intro v G4 hq
    obtain ⟨oG4, SG4, RDG4, FTG4, szG4, PGG4, cwG4, faG4, fpG4, snG4, sfG4, xaG4, FaG4, xbG4, FbG4, xrG4, FrG4, hfG4, hSG4, hp, hr⟩ := hq
    obtain ⟨w6, hr, hcl, e1_, e2_, e3_, e4_, e5_, e6_, e7_, e8_, e9_, e10_, e11_, e12_, e13_, e14_, e15_⟩ := hr
    rw [e1_, e2_, e3_, e4_, e5_, e6_, e7_, e8_, e9_, e10_, e11_, e12_, e13_, e14_, e15_] at hp
    cases hr
    have h0 := hfG4.get h0 (nl_w hSG4 0 (by decide))
    have h148 := hfG4.get h148 (nl_w hSG4 348 (by decide))
    have hm := hm.fr hfG4 (fun l hl => by have := hSG4 l hl; omega)
    change ab_W _ _ _ G4 675 [some (vR 0), some (vR 18), some (vR 80), some (vR 148), some (vz i), none, none] [vz w6] _
    refine ab_aload_n d_LA_law_675 rfl ?_
    refine ab_aload_n d_LA_law_676 rfl ?_
    refine ab_iload d_LA_law_677 rfl ?_
    refine zz_iconst d_LA_law_679 ?_
    refine zz_iadd d_LA_law_680 ?_
    refine zz_iald d_LA_law_681 h0 (by omega) ?_
    have hq7 := hff (i + 1)
    refine ab_aload_n d_LA_law_682 rfl ?_
    refine ab_iload d_LA_law_683 rfl ?_
    refine zz_iconst d_LA_law_685 ?_
    refine zz_iadd d_LA_law_686 ?_
    refine zz_iald d_LA_law_687 h0 (by omega) ?_
    have hq8 := hff (i + 2)
    refine zz_if_eq (tgt := 695) d_LA_law_688 (by decide) (by omega) (fun c9 => ?_) (fun c9 => absurd c9 (by omega))
    refine zz_iconst d_LA_law_695 ?_
    obtain ⟨fs11, hfs11⟩ := hm.recv
    refine ab_callV (d' := 2047) (as := [vz (f (i + 1)), vz 0]) (st := [vz w6]) (r := _) (w_MO_which (d := 2047) (x := (f (i + 1))) (wh := 0) hm (by omega) (by omega) (by decide)) (fun oc G2 h => by obtain ⟨_, _, _, _, _, _, _, _, _, _, _, _, _, _, _, _, _, _, _, _, _, h, _⟩ := h; obtain ⟨_, h⟩ := h; exact ⟨_, h⟩) (by decide) m_MO_which ml_LA_100 im_MO_which se_MO_which c_MO hfs11 (Nat.le_of_ble_eq_true rfl) d_LA_law_696 rfl ?_
    intro v G10 hq
    obtain ⟨ryG10, tqG10, tdG10, thG10, gjG10, zjG10, fjG10, njG10, sjG10, fbG10, fqG10, usG10, ulG10, ufG10, uaG10, upG10, ubG10, uvG10, uoG10, uOG10, hrm, hr, hfG10, hlG10, hsG10, t12, hm⟩ := hq
    obtain ⟨w13, hrw, hvl, f1_, f2_, f3_, f4_, f5_, f6_, f7_, f8_, f9_, f10_, f11_, f12_, f13_, f14_, f15_, f16_, f17_, f18_, f19_, f20_⟩ := hrm
    clear hr
    have hr := hrw
    rw [f1_, f2_, f3_, f4_, f5_, f6_, f7_, f8_, f9_, f10_, f11_, f12_, f13_, f14_, f15_, f16_, f17_, f18_, f19_, f20_] at hm
    have hvq_ := sy2_wh hx hy hcl hvl
    cases hr
    have h0 := hfG10.get h0 (by decide)
    have h148 := hfG10.get h148 (by decide)
    have hp := hp.fr hfG10 hlG10 hsG10 (by decide)
    change ab_W _ _ _ G10 699 [some (vR 0), some (vR 18), some (vR 80), some (vR 148), some (vz i), none, none] [vz w13, vz w6] _
    refine ab_icmp_eq (tgt := 780) d_LA_law_699 (by decide) (fun _ => ?_) (fun c => absurd (congrArg Int32.ofInt hvq_) c)
    exact K _ _ _ _ ⟨_, _, _, _, _, _, _, _, _, _, _, _, _, _, _, _, _, _, _, _, _, _, _, _, _, _, _, _, _, _, _, _, _, _, _, hp, hm, h0, h148, hy, hx, hz⟩
  · refine zz_iconst d_LA_law_667 ?_
    refine ab_goto (tgt := 672) d_LA_law_668 (by decide) ?_
    obtain ⟨fs15, hfs15⟩ := hp.recv
    refine ab_callV (d' := 2047) (as := [vz (f (i + 1)), vz 1]) (st := []) (r := _) (w_which (d := 2047) (x := (f (i + 1))) (wh := 1) hp (by omega) n18 (by decide)) (fun oc G2 h => by obtain ⟨_, _, _, _, _, _, _, _, _, _, _, _, _, _, _, _, _, _, _, _, h⟩ := h; obtain ⟨_, h, _⟩ := h; exact ⟨_, h⟩) (by decide) m_PW_which ml_LA_96 im_PW_which se_PW_which c_PW hfs15 (Nat.le_of_ble_eq_true rfl) d_LA_law_672 rfl ?_
    intro v G14 hq
    obtain ⟨oG14, SG14, RDG14, FTG14, szG14, PGG14, cwG14, faG14, fpG14, snG14, sfG14, xaG14, FaG14, xbG14, FbG14, xrG14, FrG14, hfG14, hSG14, hp, hr⟩ := hq
    obtain ⟨w16, hr, hcl, e1_, e2_, e3_, e4_, e5_, e6_, e7_, e8_, e9_, e10_, e11_, e12_, e13_, e14_, e15_⟩ := hr
    rw [e1_, e2_, e3_, e4_, e5_, e6_, e7_, e8_, e9_, e10_, e11_, e12_, e13_, e14_, e15_] at hp
    cases hr
    have h0 := hfG14.get h0 (nl_w hSG14 0 (by decide))
    have h148 := hfG14.get h148 (nl_w hSG14 348 (by decide))
    have hm := hm.fr hfG14 (fun l hl => by have := hSG14 l hl; omega)
    change ab_W _ _ _ G14 675 [some (vR 0), some (vR 18), some (vR 80), some (vR 148), some (vz i), none, none] [vz w16] _
    refine ab_aload_n d_LA_law_675 rfl ?_
    refine ab_aload_n d_LA_law_676 rfl ?_
    refine ab_iload d_LA_law_677 rfl ?_
    refine zz_iconst d_LA_law_679 ?_
    refine zz_iadd d_LA_law_680 ?_
    refine zz_iald d_LA_law_681 h0 (by omega) ?_
    have hq17 := hff (i + 1)
    refine ab_aload_n d_LA_law_682 rfl ?_
    refine ab_iload d_LA_law_683 rfl ?_
    refine zz_iconst d_LA_law_685 ?_
    refine zz_iadd d_LA_law_686 ?_
    refine zz_iald d_LA_law_687 h0 (by omega) ?_
    have hq18 := hff (i + 2)
    refine zz_if_eq (tgt := 695) d_LA_law_688 (by decide) (by omega) (fun c19 => absurd c19 (by omega)) (fun c19 => ?_)
    refine zz_iconst d_LA_law_691 ?_
    refine ab_goto (tgt := 696) d_LA_law_692 (by decide) ?_
    obtain ⟨fs21, hfs21⟩ := hm.recv
    refine ab_callV (d' := 2047) (as := [vz (f (i + 1)), vz 1]) (st := [vz w16]) (r := _) (w_MO_which (d := 2047) (x := (f (i + 1))) (wh := 1) hm (by omega) (by omega) (by decide)) (fun oc G2 h => by obtain ⟨_, _, _, _, _, _, _, _, _, _, _, _, _, _, _, _, _, _, _, _, _, h, _⟩ := h; obtain ⟨_, h⟩ := h; exact ⟨_, h⟩) (by decide) m_MO_which ml_LA_100 im_MO_which se_MO_which c_MO hfs21 (Nat.le_of_ble_eq_true rfl) d_LA_law_696 rfl ?_
    intro v G20 hq
    obtain ⟨ryG20, tqG20, tdG20, thG20, gjG20, zjG20, fjG20, njG20, sjG20, fbG20, fqG20, usG20, ulG20, ufG20, uaG20, upG20, ubG20, uvG20, uoG20, uOG20, hrm, hr, hfG20, hlG20, hsG20, t22, hm⟩ := hq
    obtain ⟨w23, hrw, hvl, f1_, f2_, f3_, f4_, f5_, f6_, f7_, f8_, f9_, f10_, f11_, f12_, f13_, f14_, f15_, f16_, f17_, f18_, f19_, f20_⟩ := hrm
    clear hr
    have hr := hrw
    rw [f1_, f2_, f3_, f4_, f5_, f6_, f7_, f8_, f9_, f10_, f11_, f12_, f13_, f14_, f15_, f16_, f17_, f18_, f19_, f20_] at hm
    have hvq_ := sy2_wh hx hy hcl hvl
    cases hr
    have h0 := hfG20.get h0 (by decide)
    have h148 := hfG20.get h148 (by decide)
    have hp := hp.fr hfG20 hlG20 hsG20 (by decide)
    change ab_W _ _ _ G20 699 [some (vR 0), some (vR 18), some (vR 80), some (vR 148), some (vz i), none, none] [vz w23, vz w16] _
    refine ab_icmp_eq (tgt := 780) d_LA_law_699 (by decide) (fun _ => ?_) (fun c => absurd (congrArg Int32.ofInt hvq_) c)
    exact K _ _ _ _ ⟨_, _, _, _, _, _, _, _, _, _, _, _, _, _, _, _, _, _, _, _, _, _, _, _, _, _, _, _, _, _, _, _, _, _, _, hp, hm, h0, h148, hy, hx, hz⟩
