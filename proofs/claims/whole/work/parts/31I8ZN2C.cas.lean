set_option maxRecDepth 100000 in
set_option maxHeartbeats 4000000 in
theorem lq_10 {X : ab_X} {Q : Outcome → ab_G → Prop} {o : Nat → Nat} {G : ab_G} {L : Nat} {f F : Int → Int} {lf : Nat} {t i : Int} (h : lwI o G L f F (lf + 1) t) (hff : ∀ k : Int, -2147483648 ≤ f k ∧ f k ≤ 2147483647) (hi : 0 ≤ i ∧ i + 6 ≤ ↑L ∧ ↑L ≤ (3072 : Int)) (n18 : ab_n0 = 18)
    (K : ∀ (o2 : Nat → Nat) (G2 : ab_G) (F2 : Int → Int) (t2 : Int), lwI o2 G2 L f F2 lf t2 → ab_W X ab_LW 2048 G2 931 [some (vR 0), some (vR 18), some (vR 80), some (vR 148), some (vz i), none, none] [] Q) : ab_W X ab_LW 2048 G 605 [some (vR 0), some (vR 18), some (vR 80), some (vR 148), some (vz i), none, none] [] Q := by
  obtain ⟨RD, FT, sz, PG, cw, fa, fp, sn, sf, xa, Fa, xb, Fb, xr, Fr, LA, ry, tq, td, th, gj, zj, fj, nj, sj, fb, fq, us, ul, uf, ua, up, ub, uv, uo, uO, im, mg, ke, hp, hm, h0, h148, hy, hx, hz, hla_⟩ := h
  refine ab_aload_n d_LA_law_605 rfl ?_
  refine ab_aload_n d_LA_law_606 rfl ?_
  refine ab_iload d_LA_law_607 rfl ?_
  refine zz_iconst d_LA_law_609 ?_
  refine zz_iadd d_LA_law_610 ?_
  refine zz_iald d_LA_law_611 h0 (by omega) ?_
  have hq1 := hff (i + 1)
  refine ab_aload_n d_LA_law_612 rfl ?_
  refine ab_iload d_LA_law_613 rfl ?_
  refine zz_iconst d_LA_law_615 ?_
  refine zz_iadd d_LA_law_616 ?_
  refine zz_iald d_LA_law_617 h0 (by omega) ?_
  have hq2 := hff (i + 2)
  obtain ⟨fs4, hfs4⟩ := hp.recv
  refine ab_callV (d' := 2047) (as := [vz (f (i + 1)), vz (f (i + 2))]) (st := []) (r := _) (w_found (d := 2047) (k := (f (i + 1))) (wh := (f (i + 2))) hp (by omega) n18 (by decide)) (fun oc G2 h => by obtain ⟨_, _, _, _, _, _, _, _, _, _, _, _, _, _, _, _, _, _, _, _, _, h⟩ := h; obtain ⟨_, h, _⟩ := h; exact ⟨_, h⟩) (by decide) m_PW_found ml_LA_85 im_PW_found se_PW_found c_PW hfs4 (Nat.le_of_ble_eq_true rfl) d_LA_law_618 rfl ?_
  intro v G3 hq
  obtain ⟨oG3, SG3, RDG3, FTG3, szG3, PGG3, cwG3, faG3, fpG3, snG3, sfG3, xaG3, FaG3, xbG3, FbG3, xrG3, FrG3, LAG3, hfG3, hSG3, hp, hr⟩ := hq
  obtain ⟨w5, hr, hcl, e1_, e2_, e3_, e4_, e5_, e6_, e7_, e8_, e9_, e10_, e11_, e12_, e13_, e14_, e15_, e16_⟩ := hr
  rw [e1_, e2_, e3_, e4_, e5_, e6_, e7_, e8_, e9_, e10_, e11_, e12_, e13_, e14_, e15_, e16_] at hp
  cases hr
  have h0 := hfG3.get h0 (nl_w hSG3 0 (by decide))
  have h148 := hfG3.get h148 (nl_w hSG3 348 (by decide))
  have hm := hm.fr hfG3 (fun l hl => by have := hSG3 l hl; omega)
  change ab_W _ _ _ G3 621 [some (vR 0), some (vR 18), some (vR 80), some (vR 148), some (vz i), none, none] [vz w5] _
  refine ab_aload_n d_LA_law_621 rfl ?_
  refine ab_aload_n d_LA_law_622 rfl ?_
  refine ab_iload d_LA_law_623 rfl ?_
  refine zz_iconst d_LA_law_625 ?_
  refine zz_iadd d_LA_law_626 ?_
  refine zz_iald d_LA_law_627 h0 (by omega) ?_
  have hq6 := hff (i + 1)
  refine ab_aload_n d_LA_law_628 rfl ?_
  refine ab_iload d_LA_law_629 rfl ?_
  refine zz_iconst d_LA_law_631 ?_
  refine zz_iadd d_LA_law_632 ?_
  refine zz_iald d_LA_law_633 h0 (by omega) ?_
  have hq7 := hff (i + 2)
  obtain ⟨fs9, hfs9⟩ := hm.recv
  refine ab_callV (d' := 2047) (as := [vz (f (i + 1)), vz (f (i + 2))]) (st := [vz w5]) (r := _) (w_MO_found (d := 2047) (x := (f (i + 1))) (y := (f (i + 2))) hm (by omega) (by decide)) (fun oc G2 h => by obtain ⟨_, _, _, _, _, _, _, _, _, _, _, _, _, _, _, _, _, _, _, _, _, _, _, _, h, _⟩ := h; obtain ⟨_, h⟩ := h; exact ⟨_, h⟩) (by decide) m_MO_found ml_LA_88 im_MO_found se_MO_found c_MO hfs9 (Nat.le_of_ble_eq_true rfl) d_LA_law_634 rfl ?_
  intro v G8 hq
  obtain ⟨ryG8, tqG8, tdG8, thG8, gjG8, zjG8, fjG8, njG8, sjG8, fbG8, fqG8, usG8, ulG8, ufG8, uaG8, upG8, ubG8, uvG8, uoG8, uOG8, imG8, mgG8, keG8, hrm, hr, hfG8, hlG8, hsG8, t10, hm⟩ := hq
  obtain ⟨w11, hrw, hvl, f1_, f2_, f3_, f4_, f5_, f6_, f7_, f8_, f9_, f10_, f11_, f12_, f13_, f14_, f15_, f16_, f17_, f18_, f19_, f20_, f21_, f22_, f23_⟩ := hrm
  clear hr
  have hr := hrw
  rw [f1_, f2_, f3_, f4_, f5_, f6_, f7_, f8_, f9_, f10_, f11_, f12_, f13_, f14_, f15_, f16_, f17_, f18_, f19_, f20_, f21_, f22_, f23_] at hm
  have hvq_ := sy2_fd hx hcl hvl
  cases hr
  have h0 := hfG8.get h0 (by decide)
  have h148 := hfG8.get h148 (by decide)
  have hp := hp.fr hfG8 hlG8 hsG8 (by decide)
  change ab_W _ _ _ G8 637 [some (vR 0), some (vR 18), some (vR 80), some (vR 148), some (vz i), none, none] [vz w11, vz w5] _
  refine ab_icmp_eq (tgt := 931) d_LA_law_637 (by decide) (fun _ => ?_) (fun c => absurd (congrArg Int32.ofInt hvq_) c)
  exact K _ _ _ _ ⟨_, _, _, _, _, _, _, _, _, _, _, _, _, _, _, _, _, _, _, _, _, _, _, _, _, _, _, _, _, _, _, _, _, _, _, _, _, _, _, hp, hm, h0, h148, hy, hx, hz, hla_⟩
set_option maxRecDepth 100000 in
set_option maxHeartbeats 4000000 in
theorem lq_11 {X : ab_X} {Q : Outcome → ab_G → Prop} {o : Nat → Nat} {G : ab_G} {L : Nat} {f F : Int → Int} {lf : Nat} {t i : Int} (h : lwI o G L f F (lf + 1) t) (hff : ∀ k : Int, -2147483648 ≤ f k ∧ f k ≤ 2147483647) (hi : 0 ≤ i ∧ i + 6 ≤ ↑L ∧ ↑L ≤ (3072 : Int)) (n18 : ab_n0 = 18)
    (K : ∀ (o2 : Nat → Nat) (G2 : ab_G) (F2 : Int → Int) (t2 : Int), lwI o2 G2 L f F2 lf t2 → ab_W X ab_LW 2048 G2 931 [some (vR 0), some (vR 18), some (vR 80), some (vR 148), some (vz i), none, none] [] Q) : ab_W X ab_LW 2048 G 642 [some (vR 0), some (vR 18), some (vR 80), some (vR 148), some (vz i), none, none] [] Q := by
  obtain ⟨RD, FT, sz, PG, cw, fa, fp, sn, sf, xa, Fa, xb, Fb, xr, Fr, LA, ry, tq, td, th, gj, zj, fj, nj, sj, fb, fq, us, ul, uf, ua, up, ub, uv, uo, uO, im, mg, ke, hp, hm, h0, h148, hy, hx, hz, hla_⟩ := h
  refine ab_aload_n d_LA_law_642 rfl ?_
  refine ab_aload_n d_LA_law_643 rfl ?_
  refine ab_iload d_LA_law_644 rfl ?_
  refine zz_iconst d_LA_law_646 ?_
  refine zz_iadd d_LA_law_647 ?_
  refine zz_iald d_LA_law_648 h0 (by omega) ?_
  have hq1 := hff (i + 1)
  refine ab_aload_n d_LA_law_649 rfl ?_
  refine ab_callSW (d' := 2047) (as := [vR 18, vz (f (i + 1)), vR 148]) (st := []) (c_LA_replace (d := 2047) hp h148 (by omega) n18 (by decide)) (fun oc G2 h => by obtain ⟨_, _, _, _, _, _, _, _, _, _, _, _, _, _, _, _, _, _, _, _, h, _⟩ := h; exact ⟨_, h⟩) (by decide) m_LA_replace (ab_t7 (List.mem_of_getElem? (i := 202) rfl)) st_LA_replace (Nat.le_of_ble_eq_true rfl) d_LA_law_650 rfl ?_
  intro v G2 hq
  obtain ⟨oG2, SG2, FG2, k3, RDG2, FTG2, szG2, PGG2, cwG2, faG2, fpG2, snG2, sfG2, xaG2, FaG2, xbG2, FbG2, xrG2, FrG2, LAG2, hr, hfG2, hSG2, hp, h148, hrel⟩ := hq
  cases hr
  obtain ⟨hrl, hrl2, e1_, e2_, e3_, e4_, e5_, e6_, e7_, e8_, e9_, e10_, e11_, e12_, e13_⟩ := hrel
  rw [e1_, e2_, e3_, e4_, e5_, e6_, e7_, e8_, e9_, e10_, e11_, e12_, e13_] at hp
  have h0 := hfG2.get h0 (nl_v hSG2 0 (by decide))
  have hm := hm.fr hfG2 (fun l hl => by have := hSG2 l hl; omega)
  change ab_W _ _ _ G2 653 [some (vR 0), some (vR 18), some (vR 80), some (vR 148), some (vz i), none, none] [vz k3] _
  refine ab_istore d_LA_law_653 (Nat.le_of_ble_eq_true rfl) (Nat.le_of_ble_eq_true rfl) rfl ?_
  change ab_W _ _ _ G2 655 [some (vR 0), some (vR 18), some (vR 80), some (vR 148), some (vz i), some (vz k3), none] [] _
  refine ab_aload_n d_LA_law_655 rfl ?_
  refine ab_aload_n d_LA_law_656 rfl ?_
  refine ab_iload d_LA_law_657 rfl ?_
  refine zz_iconst d_LA_law_659 ?_
  refine zz_iadd d_LA_law_660 ?_
  refine zz_iald d_LA_law_661 h0 (by omega) ?_
  have hq4 := hff (i + 1)
  obtain ⟨fs6, hfs6⟩ := hm.recv
  refine ab_callV (d' := 2047) (as := [vz (f (i + 1))]) (st := []) (r := _) (w_MO_replace (d := 2047) (s := (f (i + 1))) hm (by omega) (by decide)) (fun oc G2 h => by obtain ⟨_, _, _, _, _, _, _, _, _, _, _, _, _, _, _, _, _, _, _, _, _, _, _, _, h, _⟩ := h; obtain ⟨_, h⟩ := h; exact ⟨_, h⟩) (by decide) m_MO_replace ml_LA_91 im_MO_replace se_MO_replace c_MO hfs6 (Nat.le_of_ble_eq_true rfl) d_LA_law_662 rfl ?_
  intro v G5 hq
  obtain ⟨ryG5, tqG5, tdG5, thG5, gjG5, zjG5, fjG5, njG5, sjG5, fbG5, fqG5, usG5, ulG5, ufG5, uaG5, upG5, ubG5, uvG5, uoG5, uOG5, imG5, mgG5, keG5, hrm, hr, hfG5, hlG5, hsG5, t7, hm, hcm⟩ := hq
  obtain ⟨hmd, hml, f1_, f2_, f3_, f4_, f5_, f6_, f7_, f8_, f9_, f10_, f11_, f12_, f13_, f14_, f15_, f16_, f17_, f18_, f19_, f20_⟩ := hrm
  rw [f1_, f2_, f3_, f4_, f5_, f6_, f7_, f8_, f9_, f10_, f11_, f12_, f13_, f14_, f15_, f16_, f17_, f18_, f19_, f20_] at hm
  obtain ⟨w8, hrw, hmx⟩ := hcm
  clear hr
  have hr := hrw
  obtain ⟨htk_, hvw_, hkb_, hz⟩ := sy3_rp hx hy hz hmd hrl hmx
  have hy := syn_rep hy hrl2 hml
  cases hr
  have h0 := hfG5.get h0 (by decide)
  have h148 := hfG5.get h148 (by decide)
  have hp := hp.fr hfG5 hlG5 hsG5 (by decide)
  change ab_W _ _ _ G5 665 [some (vR 0), some (vR 18), some (vR 80), some (vR 148), some (vz i), some (vz k3), none] [vz w8] _
  refine ab_istore d_LA_law_665 (Nat.le_of_ble_eq_true rfl) (Nat.le_of_ble_eq_true rfl) rfl ?_
  change ab_W _ _ _ G5 667 [some (vR 0), some (vR 18), some (vR 80), some (vR 148), some (vz i), some (vz k3), some (vz w8)] [] _
  refine ab_aload_n d_LA_law_667 rfl ?_
  obtain ⟨fs10, hfs10⟩ := hm.recv
  refine ab_callV (d' := 2047) (as := []) (st := []) (r := _) (w_MO_thrown (d := 2047)  hm  (by decide)) (fun oc G2 h => by obtain ⟨_, _, _, _, _, _, _, _, _, _, _, _, _, _, _, _, _, _, _, _, _, _, _, _, h, _⟩ := h; exact ⟨_, h⟩) (by decide) m_MO_thrown ml_LA_52 im_MO_thrown se_MO_thrown c_MO hfs10 (Nat.le_of_ble_eq_true rfl) d_LA_law_668 rfl ?_
  intro v G9 hq
  obtain ⟨ryG9, tqG9, tdG9, thG9, gjG9, zjG9, fjG9, njG9, sjG9, fbG9, fqG9, usG9, ulG9, ufG9, uaG9, upG9, ubG9, uvG9, uoG9, uOG9, imG9, mgG9, keG9, hrm, hr, hfG9, hlG9, hsG9, t11, hm⟩ := hq
  obtain ⟨f1_, f2_, f3_, f4_, f5_, f6_, f7_, f8_, f9_, f10_, f11_, f12_, f13_, f14_, f15_, f16_, f17_, f18_, f19_, f20_, f21_, f22_, f23_⟩ := hrm
  rw [f1_, f2_, f3_, f4_, f5_, f6_, f7_, f8_, f9_, f10_, f11_, f12_, f13_, f14_, f15_, f16_, f17_, f18_, f19_, f20_, f21_, f22_, f23_] at hm
  cases hr
  have h0 := hfG9.get h0 (by decide)
  have h148 := hfG9.get h148 (by decide)
  have hp := hp.fr hfG9 hlG9 hsG9 (by decide)
  change ab_W _ _ _ G9 671 [some (vR 0), some (vR 18), some (vR 80), some (vR 148), some (vz i), some (vz k3), some (vz w8)] [vz t7] _
  refine ab_iload d_LA_law_671 rfl ?_
  refine ab_icmp_eq (tgt := 678) d_LA_law_673 (by decide) (fun _ => ?_) (fun c => absurd (congrArg Int32.ofInt htk_) c)
  refine ab_iload d_LA_law_678 rfl ?_
  refine zz_if_ne (tgt := 695) d_LA_law_680 (by decide) (by omega) (fun c13 => ?_) (fun c13 => ?_)
  · refine ab_goto (tgt := 931) d_LA_law_695 (by decide) ?_
    refine ab_less (L' := [some (vR 0), some (vR 18), some (vR 80), some (vR 148), some (vz i), none, none]) (fun i v h => by rcases i with _ | _ | _ | _ | _ | _ | _ | i <;> first | exact h | (simp at h)) ?_
    exact K _ _ _ _ ⟨_, _, _, _, _, _, _, _, _, _, _, _, _, _, _, _, _, _, _, _, _, _, _, _, _, _, _, _, _, _, _, _, _, _, _, _, _, _, _, hp, hm, h0, h148, hy, hx, hz, hla_⟩
  · obtain ⟨hvw2_, hvw3_⟩ := hvw_ c13
    refine ab_aload_n d_LA_law_683 rfl ?_
    refine zz_iconst d_LA_law_684 ?_
    refine zz_lald d_LA_law_685 h148 (by omega) ?_
    refine ab_iload d_LA_law_686 rfl ?_
    refine zz_i2l d_LA_law_688 (by omega) ?_
    refine zz_lcmp d_LA_law_689 (by omega) (by omega) (fun c14a => by exfalso; omega) (fun c14a c14b => ?_) (fun c14a => by exfalso; omega)
    · refine zz_if_eq (tgt := 695) d_LA_law_690 (by decide) (by decide) (fun c15 => ?_) (fun c15 => absurd c15 (by decide))
      refine ab_goto (tgt := 931) d_LA_law_695 (by decide) ?_
      refine ab_less (L' := [some (vR 0), some (vR 18), some (vR 80), some (vR 148), some (vz i), none, none]) (fun i v h => by rcases i with _ | _ | _ | _ | _ | _ | _ | i <;> first | exact h | (simp at h)) ?_
      exact K _ _ _ _ ⟨_, _, _, _, _, _, _, _, _, _, _, _, _, _, _, _, _, _, _, _, _, _, _, _, _, _, _, _, _, _, _, _, _, _, _, _, _, _, _, hp, hm, h0, h148, hy, hx, hz, hla_⟩
set_option maxRecDepth 100000 in
set_option maxHeartbeats 4000000 in
theorem lq_12 {X : ab_X} {Q : Outcome → ab_G → Prop} {o : Nat → Nat} {G : ab_G} {L : Nat} {f F : Int → Int} {lf : Nat} {t i : Int} (h : lwI o G L f F (lf + 1) t) (hff : ∀ k : Int, -2147483648 ≤ f k ∧ f k ≤ 2147483647) (hi : 0 ≤ i ∧ i + 6 ≤ ↑L ∧ ↑L ≤ (3072 : Int)) (n18 : ab_n0 = 18)
    (K : ∀ (o2 : Nat → Nat) (G2 : ab_G) (F2 : Int → Int) (t2 : Int), lwI o2 G2 L f F2 lf t2 → ab_W X ab_LW 2048 G2 931 [some (vR 0), some (vR 18), some (vR 80), some (vR 148), some (vz i), none, none] [] Q) : ab_W X ab_LW 2048 G 698 [some (vR 0), some (vR 18), some (vR 80), some (vR 148), some (vz i), none, none] [] Q := by
  obtain ⟨RD, FT, sz, PG, cw, fa, fp, sn, sf, xa, Fa, xb, Fb, xr, Fr, LA, ry, tq, td, th, gj, zj, fj, nj, sj, fb, fq, us, ul, uf, ua, up, ub, uv, uo, uO, im, mg, ke, hp, hm, h0, h148, hy, hx, hz, hla_⟩ := h
  refine ab_aload_n d_LA_law_698 rfl ?_
  refine ab_aload_n d_LA_law_699 rfl ?_
  refine ab_iload d_LA_law_700 rfl ?_
  refine zz_iconst d_LA_law_702 ?_
  refine zz_iadd d_LA_law_703 ?_
  refine zz_iald d_LA_law_704 h0 (by omega) ?_
  have hq1 := hff (i + 1)
  refine ab_aload_n d_LA_law_705 rfl ?_
  refine ab_callSW (d' := 2047) (as := [vR 18, vz (f (i + 1)), vR 148]) (st := []) (c_LA_split (d := 2047) hp h148 (by omega) n18 (by decide)) (fun oc G2 h => by obtain ⟨_, _, _, _, _, _, _, _, _, _, _, _, _, _, _, _, _, _, _, _, h, _⟩ := h; exact ⟨_, h⟩) (by decide) m_LA_split (ab_t7 (List.mem_of_getElem? (i := 232) rfl)) st_LA_split (Nat.le_of_ble_eq_true rfl) d_LA_law_706 rfl ?_
  intro v G2 hq
  obtain ⟨oG2, SG2, FG2, k3, RDG2, FTG2, szG2, PGG2, cwG2, faG2, fpG2, snG2, sfG2, xaG2, FaG2, xbG2, FbG2, xrG2, FrG2, LAG2, hr, hfG2, hSG2, hp, h148, hrel⟩ := hq
  cases hr
  obtain ⟨hrl, e1_, e2_, e3_, e4_, e5_, e6_, e7_, e8_, e9_, e10_, e11_, e12_, e13_, e14_⟩ := hrel
  rw [e1_, e2_, e3_, e4_, e5_, e6_, e7_, e8_, e9_, e10_, e11_, e12_, e13_, e14_] at hp
  have h0 := hfG2.get h0 (nl_v hSG2 0 (by decide))
  have hm := hm.fr hfG2 (fun l hl => by have := hSG2 l hl; omega)
  change ab_W _ _ _ G2 709 [some (vR 0), some (vR 18), some (vR 80), some (vR 148), some (vz i), none, none] [vz k3] _
  refine ab_istore d_LA_law_709 (Nat.le_of_ble_eq_true rfl) (Nat.le_of_ble_eq_true rfl) rfl ?_
  change ab_W _ _ _ G2 711 [some (vR 0), some (vR 18), some (vR 80), some (vR 148), some (vz i), some (vz k3), none] [] _
  refine ab_aload_n d_LA_law_711 rfl ?_
  refine ab_aload_n d_LA_law_712 rfl ?_
  refine ab_iload d_LA_law_713 rfl ?_
  refine zz_iconst d_LA_law_715 ?_
  refine zz_iadd d_LA_law_716 ?_
  refine zz_iald d_LA_law_717 h0 (by omega) ?_
  have hq4 := hff (i + 1)
  obtain ⟨fs6, hfs6⟩ := hm.recv
  refine ab_callV (d' := 2047) (as := [vz (f (i + 1))]) (st := []) (r := _) (w_MO_split1 (d := 2047) (s := (f (i + 1))) hm (by omega) (by decide)) (fun oc G2 h => by obtain ⟨_, _, _, _, _, _, _, _, _, _, _, _, _, _, _, _, _, _, _, _, _, _, _, _, h, _⟩ := h; obtain ⟨_, h⟩ := h; exact ⟨_, h⟩) (by decide) m_MO_split1 ml_LA_94 im_MO_split1 se_MO_split1 c_MO hfs6 (Nat.le_of_ble_eq_true rfl) d_LA_law_718 rfl ?_
  intro v G5 hq
  obtain ⟨ryG5, tqG5, tdG5, thG5, gjG5, zjG5, fjG5, njG5, sjG5, fbG5, fqG5, usG5, ulG5, ufG5, uaG5, upG5, ubG5, uvG5, uoG5, uOG5, imG5, mgG5, keG5, hrm, hr, hfG5, hlG5, hsG5, t7, hm, hcm⟩ := hq
  obtain ⟨f1_, f2_, f3_, f4_, f5_, f6_, f7_, f8_, f9_, f10_, f11_, f12_, f13_, f14_, f15_, f16_, f17_, f18_, f19_, f20_, f21_⟩ := hrm
  rw [f1_, f2_, f3_, f4_, f5_, f6_, f7_, f8_, f9_, f10_, f11_, f12_, f13_, f14_, f15_, f16_, f17_, f18_, f19_, f20_, f21_] at hm
  obtain ⟨w8, hrw, hml⟩ := hcm
  clear hr
  have hr := hrw
  obtain ⟨htk_, hvw_, hkb_, hx⟩ := sy2_sp hx hy hrl hml
  cases hr
  have h0 := hfG5.get h0 (by decide)
  have h148 := hfG5.get h148 (by decide)
  have hp := hp.fr hfG5 hlG5 hsG5 (by decide)
  change ab_W _ _ _ G5 721 [some (vR 0), some (vR 18), some (vR 80), some (vR 148), some (vz i), some (vz k3), none] [vz w8] _
  refine ab_istore d_LA_law_721 (Nat.le_of_ble_eq_true rfl) (Nat.le_of_ble_eq_true rfl) rfl ?_
  change ab_W _ _ _ G5 723 [some (vR 0), some (vR 18), some (vR 80), some (vR 148), some (vz i), some (vz k3), some (vz w8)] [] _
  refine ab_aload_n d_LA_law_723 rfl ?_
  obtain ⟨fs10, hfs10⟩ := hm.recv
  refine ab_callV (d' := 2047) (as := []) (st := []) (r := _) (w_MO_thrown (d := 2047)  hm  (by decide)) (fun oc G2 h => by obtain ⟨_, _, _, _, _, _, _, _, _, _, _, _, _, _, _, _, _, _, _, _, _, _, _, _, h, _⟩ := h; exact ⟨_, h⟩) (by decide) m_MO_thrown ml_LA_52 im_MO_thrown se_MO_thrown c_MO hfs10 (Nat.le_of_ble_eq_true rfl) d_LA_law_724 rfl ?_
  intro v G9 hq
  obtain ⟨ryG9, tqG9, tdG9, thG9, gjG9, zjG9, fjG9, njG9, sjG9, fbG9, fqG9, usG9, ulG9, ufG9, uaG9, upG9, ubG9, uvG9, uoG9, uOG9, imG9, mgG9, keG9, hrm, hr, hfG9, hlG9, hsG9, t11, hm⟩ := hq
  obtain ⟨f1_, f2_, f3_, f4_, f5_, f6_, f7_, f8_, f9_, f10_, f11_, f12_, f13_, f14_, f15_, f16_, f17_, f18_, f19_, f20_, f21_, f22_, f23_⟩ := hrm
  rw [f1_, f2_, f3_, f4_, f5_, f6_, f7_, f8_, f9_, f10_, f11_, f12_, f13_, f14_, f15_, f16_, f17_, f18_, f19_, f20_, f21_, f22_, f23_] at hm
  cases hr
  have h0 := hfG9.get h0 (by decide)
  have h148 := hfG9.get h148 (by decide)
  have hp := hp.fr hfG9 hlG9 hsG9 (by decide)
  change ab_W _ _ _ G9 727 [some (vR 0), some (vR 18), some (vR 80), some (vR 148), some (vz i), some (vz k3), some (vz w8)] [vz t7] _
  refine ab_iload d_LA_law_727 rfl ?_
  refine ab_icmp_eq (tgt := 734) d_LA_law_729 (by decide) (fun _ => ?_) (fun c => absurd (congrArg Int32.ofInt htk_) c)
  refine ab_iload d_LA_law_734 rfl ?_
  refine zz_if_ne (tgt := 751) d_LA_law_736 (by decide) (by omega) (fun c13 => ?_) (fun c13 => ?_)
  · refine ab_goto (tgt := 931) d_LA_law_751 (by decide) ?_
    refine ab_less (L' := [some (vR 0), some (vR 18), some (vR 80), some (vR 148), some (vz i), none, none]) (fun i v h => by rcases i with _ | _ | _ | _ | _ | _ | _ | i <;> first | exact h | (simp at h)) ?_
    exact K _ _ _ _ ⟨_, _, _, _, _, _, _, _, _, _, _, _, _, _, _, _, _, _, _, _, _, _, _, _, _, _, _, _, _, _, _, _, _, _, _, _, _, _, _, hp, hm, h0, h148, hy, hx, hz, hla_⟩
  · obtain ⟨hvw2_, hvw3_⟩ := hvw_ c13
    refine ab_aload_n d_LA_law_739 rfl ?_
    refine zz_iconst d_LA_law_740 ?_
    refine zz_lald d_LA_law_741 h148 (by omega) ?_
    refine ab_iload d_LA_law_742 rfl ?_
    refine zz_i2l d_LA_law_744 (by omega) ?_
    refine zz_lcmp d_LA_law_745 (by omega) (by omega) (fun c14a => by exfalso; omega) (fun c14a c14b => ?_) (fun c14a => by exfalso; omega)
    · refine zz_if_eq (tgt := 751) d_LA_law_746 (by decide) (by decide) (fun c15 => ?_) (fun c15 => absurd c15 (by decide))
      refine ab_goto (tgt := 931) d_LA_law_751 (by decide) ?_
      refine ab_less (L' := [some (vR 0), some (vR 18), some (vR 80), some (vR 148), some (vz i), none, none]) (fun i v h => by rcases i with _ | _ | _ | _ | _ | _ | _ | i <;> first | exact h | (simp at h)) ?_
      exact K _ _ _ _ ⟨_, _, _, _, _, _, _, _, _, _, _, _, _, _, _, _, _, _, _, _, _, _, _, _, _, _, _, _, _, _, _, _, _, _, _, _, _, _, _, hp, hm, h0, h148, hy, hx, hz, hla_⟩
set_option maxRecDepth 100000 in
set_option maxHeartbeats 4000000 in
theorem lq_13 {X : ab_X} {Q : Outcome → ab_G → Prop} {o : Nat → Nat} {G : ab_G} {L : Nat} {f F : Int → Int} {lf : Nat} {t i : Int} (h : lwI o G L f F (lf + 1) t) (hff : ∀ k : Int, -2147483648 ≤ f k ∧ f k ≤ 2147483647) (hi : 0 ≤ i ∧ i + 6 ≤ ↑L ∧ ↑L ≤ (3072 : Int)) (n18 : ab_n0 = 18)
    (K : ∀ (o2 : Nat → Nat) (G2 : ab_G) (F2 : Int → Int) (t2 : Int), lwI o2 G2 L f F2 lf t2 → ab_W X ab_LW 2048 G2 931 [some (vR 0), some (vR 18), some (vR 80), some (vR 148), some (vz i), none, none] [] Q) : ab_W X ab_LW 2048 G 754 [some (vR 0), some (vR 18), some (vR 80), some (vR 148), some (vz i), none, none] [] Q := by
  obtain ⟨RD, FT, sz, PG, cw, fa, fp, sn, sf, xa, Fa, xb, Fb, xr, Fr, LA, ry, tq, td, th, gj, zj, fj, nj, sj, fb, fq, us, ul, uf, ua, up, ub, uv, uo, uO, im, mg, ke, hp, hm, h0, h148, hy, hx, hz, hla_⟩ := h
  refine ab_aload_n d_LA_law_754 rfl ?_
  refine ab_aload_n d_LA_law_755 rfl ?_
  refine ab_iload d_LA_law_756 rfl ?_
  refine zz_iconst d_LA_law_758 ?_
  refine zz_iadd d_LA_law_759 ?_
  refine zz_iald d_LA_law_760 h0 (by omega) ?_
  have hq1 := hff (i + 1)
  refine ab_aload_n d_LA_law_761 rfl ?_
  refine ab_iload d_LA_law_762 rfl ?_
  refine zz_iconst d_LA_law_764 ?_
  refine zz_iadd d_LA_law_765 ?_
  refine zz_iald d_LA_law_766 h0 (by omega) ?_
  have hq2 := hff (i + 2)
  obtain ⟨fs4, hfs4⟩ := hp.recv
  refine ab_callV (d' := 2047) (as := [vz (f (i + 1)), vz (f (i + 2))]) (st := []) (r := _) (w_piece (d := 2047) (k := (f (i + 1))) (wh := (f (i + 2))) hp (by omega) n18 (by decide)) (fun oc G2 h => by obtain ⟨_, _, _, _, _, _, _, _, _, _, _, _, _, _, _, _, _, _, _, _, _, h⟩ := h; obtain ⟨_, h, _⟩ := h; exact ⟨_, h⟩) (by decide) m_PW_piece ml_LA_95 im_PW_piece se_PW_piece c_PW hfs4 (Nat.le_of_ble_eq_true rfl) d_LA_law_767 rfl ?_
  intro v G3 hq
  obtain ⟨oG3, SG3, RDG3, FTG3, szG3, PGG3, cwG3, faG3, fpG3, snG3, sfG3, xaG3, FaG3, xbG3, FbG3, xrG3, FrG3, LAG3, hfG3, hSG3, hp, hr⟩ := hq
  obtain ⟨w5, hr, hcl, e1_, e2_, e3_, e4_, e5_, e6_, e7_, e8_, e9_, e10_, e11_, e12_, e13_, e14_, e15_, e16_⟩ := hr
  rw [e1_, e2_, e3_, e4_, e5_, e6_, e7_, e8_, e9_, e10_, e11_, e12_, e13_, e14_, e15_, e16_] at hp
  cases hr
  have h0 := hfG3.get h0 (nl_w hSG3 0 (by decide))
  have h148 := hfG3.get h148 (nl_w hSG3 348 (by decide))
  have hm := hm.fr hfG3 (fun l hl => by have := hSG3 l hl; omega)
  change ab_W _ _ _ G3 770 [some (vR 0), some (vR 18), some (vR 80), some (vR 148), some (vz i), none, none] [vz w5] _
  refine ab_aload_n d_LA_law_770 rfl ?_
  refine ab_aload_n d_LA_law_771 rfl ?_
  refine ab_iload d_LA_law_772 rfl ?_
  refine zz_iconst d_LA_law_774 ?_
  refine zz_iadd d_LA_law_775 ?_
  refine zz_iald d_LA_law_776 h0 (by omega) ?_
  have hq6 := hff (i + 1)
  refine ab_aload_n d_LA_law_777 rfl ?_
  refine ab_iload d_LA_law_778 rfl ?_
  refine zz_iconst d_LA_law_780 ?_
  refine zz_iadd d_LA_law_781 ?_
  refine zz_iald d_LA_law_782 h0 (by omega) ?_
  have hq7 := hff (i + 2)
  obtain ⟨fs9, hfs9⟩ := hm.recv
  refine ab_callV (d' := 2047) (as := [vz (f (i + 1)), vz (f (i + 2))]) (st := [vz w5]) (r := _) (w_MO_piece (d := 2047) (x := (f (i + 1))) (y := (f (i + 2))) hm (by omega) (by decide)) (fun oc G2 h => by obtain ⟨_, _, _, _, _, _, _, _, _, _, _, _, _, _, _, _, _, _, _, _, _, _, _, _, h, _⟩ := h; obtain ⟨_, h⟩ := h; exact ⟨_, h⟩) (by decide) m_MO_piece ml_LA_98 im_MO_piece se_MO_piece c_MO hfs9 (Nat.le_of_ble_eq_true rfl) d_LA_law_783 rfl ?_
  intro v G8 hq
  obtain ⟨ryG8, tqG8, tdG8, thG8, gjG8, zjG8, fjG8, njG8, sjG8, fbG8, fqG8, usG8, ulG8, ufG8, uaG8, upG8, ubG8, uvG8, uoG8, uOG8, imG8, mgG8, keG8, hrm, hr, hfG8, hlG8, hsG8, t10, hm⟩ := hq
  obtain ⟨w11, hrw, hvl, f1_, f2_, f3_, f4_, f5_, f6_, f7_, f8_, f9_, f10_, f11_, f12_, f13_, f14_, f15_, f16_, f17_, f18_, f19_, f20_, f21_, f22_, f23_⟩ := hrm
  clear hr
  have hr := hrw
  rw [f1_, f2_, f3_, f4_, f5_, f6_, f7_, f8_, f9_, f10_, f11_, f12_, f13_, f14_, f15_, f16_, f17_, f18_, f19_, f20_, f21_, f22_, f23_] at hm
  have hvq_ := sy2_pc hx hcl hvl
  cases hr
  have h0 := hfG8.get h0 (by decide)
  have h148 := hfG8.get h148 (by decide)
  have hp := hp.fr hfG8 hlG8 hsG8 (by decide)
  change ab_W _ _ _ G8 786 [some (vR 0), some (vR 18), some (vR 80), some (vR 148), some (vz i), none, none] [vz w11, vz w5] _
  refine ab_icmp_eq (tgt := 931) d_LA_law_786 (by decide) (fun _ => ?_) (fun c => absurd (congrArg Int32.ofInt hvq_) c)
  exact K _ _ _ _ ⟨_, _, _, _, _, _, _, _, _, _, _, _, _, _, _, _, _, _, _, _, _, _, _, _, _, _, _, _, _, _, _, _, _, _, _, _, _, _, _, hp, hm, h0, h148, hy, hx, hz, hla_⟩
set_option maxRecDepth 100000 in
set_option maxHeartbeats 4000000 in
theorem lq_14 {X : ab_X} {Q : Outcome → ab_G → Prop} {o : Nat → Nat} {G : ab_G} {L : Nat} {f F : Int → Int} {lf : Nat} {t i : Int} (h : lwI o G L f F (lf + 1) t) (hff : ∀ k : Int, -2147483648 ≤ f k ∧ f k ≤ 2147483647) (hi : 0 ≤ i ∧ i + 6 ≤ ↑L ∧ ↑L ≤ (3072 : Int)) (n18 : ab_n0 = 18)
    (K : ∀ (o2 : Nat → Nat) (G2 : ab_G) (F2 : Int → Int) (t2 : Int), lwI o2 G2 L f F2 lf t2 → ab_W X ab_LW 2048 G2 931 [some (vR 0), some (vR 18), some (vR 80), some (vR 148), some (vz i), none, none] [] Q) : ab_W X ab_LW 2048 G 791 [some (vR 0), some (vR 18), some (vR 80), some (vR 148), some (vz i), none, none] [] Q := by
  obtain ⟨RD, FT, sz, PG, cw, fa, fp, sn, sf, xa, Fa, xb, Fb, xr, Fr, LA, ry, tq, td, th, gj, zj, fj, nj, sj, fb, fq, us, ul, uf, ua, up, ub, uv, uo, uO, im, mg, ke, hp, hm, h0, h148, hy, hx, hz, hla_⟩ := h
  refine ab_aload_n d_LA_law_791 rfl ?_
  refine ab_aload_n d_LA_law_792 rfl ?_
  refine ab_iload d_LA_law_793 rfl ?_
  refine zz_iconst d_LA_law_795 ?_
  refine zz_iadd d_LA_law_796 ?_
  refine zz_iald d_LA_law_797 h0 (by omega) ?_
  have hq1 := hff (i + 1)
  refine ab_aload_n d_LA_law_798 rfl ?_
  refine ab_iload d_LA_law_799 rfl ?_
  refine zz_iconst d_LA_law_801 ?_
  refine zz_iadd d_LA_law_802 ?_
  refine zz_iald d_LA_law_803 h0 (by omega) ?_
  have hq2 := hff (i + 2)
  refine zz_if_eq (tgt := 811) d_LA_law_804 (by decide) (by omega) (fun c3 => ?_) (fun c3 => ?_)
  · refine zz_iconst d_LA_law_811 ?_
    obtain ⟨fs5, hfs5⟩ := hp.recv
    refine ab_callV (d' := 2047) (as := [vz (f (i + 1)), vz 0]) (st := []) (r := _) (w_which (d := 2047) (x := (f (i + 1))) (wh := 0) hp (by omega) n18 (by decide)) (fun oc G2 h => by obtain ⟨_, _, _, _, _, _, _, _, _, _, _, _, _, _, _, _, _, _, _, _, _, h⟩ := h; obtain ⟨_, h, _⟩ := h; exact ⟨_, h⟩) (by decide) m_PW_which ml_LA_99 im_PW_which se_PW_which c_PW hfs5 (Nat.le_of_ble_eq_true rfl) d_LA_law_812 rfl ?_
    intro v G4 hq
    obtain ⟨oG4, SG4, RDG4, FTG4, szG4, PGG4, cwG4, faG4, fpG4, snG4, sfG4, xaG4, FaG4, xbG4, FbG4, xrG4, FrG4, LAG4, hfG4, hSG4, hp, hr⟩ := hq
    obtain ⟨w6, hr, hcl, e1_, e2_, e3_, e4_, e5_, e6_, e7_, e8_, e9_, e10_, e11_, e12_, e13_, e14_, e15_, e16_⟩ := hr
    rw [e1_, e2_, e3_, e4_, e5_, e6_, e7_, e8_, e9_, e10_, e11_, e12_, e13_, e14_, e15_, e16_] at hp
    cases hr
    have h0 := hfG4.get h0 (nl_w hSG4 0 (by decide))
    have h148 := hfG4.get h148 (nl_w hSG4 348 (by decide))
    have hm := hm.fr hfG4 (fun l hl => by have := hSG4 l hl; omega)
    change ab_W _ _ _ G4 815 [some (vR 0), some (vR 18), some (vR 80), some (vR 148), some (vz i), none, none] [vz w6] _
    refine ab_aload_n d_LA_law_815 rfl ?_
    refine ab_aload_n d_LA_law_816 rfl ?_
    refine ab_iload d_LA_law_817 rfl ?_
    refine zz_iconst d_LA_law_819 ?_
    refine zz_iadd d_LA_law_820 ?_
    refine zz_iald d_LA_law_821 h0 (by omega) ?_
    have hq7 := hff (i + 1)
    refine ab_aload_n d_LA_law_822 rfl ?_
    refine ab_iload d_LA_law_823 rfl ?_
    refine zz_iconst d_LA_law_825 ?_
    refine zz_iadd d_LA_law_826 ?_
    refine zz_iald d_LA_law_827 h0 (by omega) ?_
    have hq8 := hff (i + 2)
    refine zz_if_eq (tgt := 835) d_LA_law_828 (by decide) (by omega) (fun c9 => ?_) (fun c9 => absurd c9 (by omega))
    refine zz_iconst d_LA_law_835 ?_
    obtain ⟨fs11, hfs11⟩ := hm.recv
    refine ab_callV (d' := 2047) (as := [vz (f (i + 1)), vz 0]) (st := [vz w6]) (r := _) (w_MO_which (d := 2047) (x := (f (i + 1))) (wh := 0) hm (by omega) (by omega) (by decide)) (fun oc G2 h => by obtain ⟨_, _, _, _, _, _, _, _, _, _, _, _, _, _, _, _, _, _, _, _, _, _, _, _, h, _⟩ := h; obtain ⟨_, h⟩ := h; exact ⟨_, h⟩) (by decide) m_MO_which ml_LA_103 im_MO_which se_MO_which c_MO hfs11 (Nat.le_of_ble_eq_true rfl) d_LA_law_836 rfl ?_
    intro v G10 hq
    obtain ⟨ryG10, tqG10, tdG10, thG10, gjG10, zjG10, fjG10, njG10, sjG10, fbG10, fqG10, usG10, ulG10, ufG10, uaG10, upG10, ubG10, uvG10, uoG10, uOG10, imG10, mgG10, keG10, hrm, hr, hfG10, hlG10, hsG10, t12, hm⟩ := hq
    obtain ⟨w13, hrw, hvl, f1_, f2_, f3_, f4_, f5_, f6_, f7_, f8_, f9_, f10_, f11_, f12_, f13_, f14_, f15_, f16_, f17_, f18_, f19_, f20_, f21_, f22_, f23_⟩ := hrm
    clear hr
    have hr := hrw
    rw [f1_, f2_, f3_, f4_, f5_, f6_, f7_, f8_, f9_, f10_, f11_, f12_, f13_, f14_, f15_, f16_, f17_, f18_, f19_, f20_, f21_, f22_, f23_] at hm
    have hvq_ := sy2_wh hx hy hcl hvl
    cases hr
    have h0 := hfG10.get h0 (by decide)
    have h148 := hfG10.get h148 (by decide)
    have hp := hp.fr hfG10 hlG10 hsG10 (by decide)
    change ab_W _ _ _ G10 839 [some (vR 0), some (vR 18), some (vR 80), some (vR 148), some (vz i), none, none] [vz w13, vz w6] _
    refine ab_icmp_eq (tgt := 931) d_LA_law_839 (by decide) (fun _ => ?_) (fun c => absurd (congrArg Int32.ofInt hvq_) c)
    exact K _ _ _ _ ⟨_, _, _, _, _, _, _, _, _, _, _, _, _, _, _, _, _, _, _, _, _, _, _, _, _, _, _, _, _, _, _, _, _, _, _, _, _, _, _, hp, hm, h0, h148, hy, hx, hz, hla_⟩
  · refine zz_iconst d_LA_law_807 ?_
    refine ab_goto (tgt := 812) d_LA_law_808 (by decide) ?_
    obtain ⟨fs15, hfs15⟩ := hp.recv
    refine ab_callV (d' := 2047) (as := [vz (f (i + 1)), vz 1]) (st := []) (r := _) (w_which (d := 2047) (x := (f (i + 1))) (wh := 1) hp (by omega) n18 (by decide)) (fun oc G2 h => by obtain ⟨_, _, _, _, _, _, _, _, _, _, _, _, _, _, _, _, _, _, _, _, _, h⟩ := h; obtain ⟨_, h, _⟩ := h; exact ⟨_, h⟩) (by decide) m_PW_which ml_LA_99 im_PW_which se_PW_which c_PW hfs15 (Nat.le_of_ble_eq_true rfl) d_LA_law_812 rfl ?_
    intro v G14 hq
    obtain ⟨oG14, SG14, RDG14, FTG14, szG14, PGG14, cwG14, faG14, fpG14, snG14, sfG14, xaG14, FaG14, xbG14, FbG14, xrG14, FrG14, LAG14, hfG14, hSG14, hp, hr⟩ := hq
    obtain ⟨w16, hr, hcl, e1_, e2_, e3_, e4_, e5_, e6_, e7_, e8_, e9_, e10_, e11_, e12_, e13_, e14_, e15_, e16_⟩ := hr
    rw [e1_, e2_, e3_, e4_, e5_, e6_, e7_, e8_, e9_, e10_, e11_, e12_, e13_, e14_, e15_, e16_] at hp
    cases hr
    have h0 := hfG14.get h0 (nl_w hSG14 0 (by decide))
    have h148 := hfG14.get h148 (nl_w hSG14 348 (by decide))
    have hm := hm.fr hfG14 (fun l hl => by have := hSG14 l hl; omega)
    change ab_W _ _ _ G14 815 [some (vR 0), some (vR 18), some (vR 80), some (vR 148), some (vz i), none, none] [vz w16] _
    refine ab_aload_n d_LA_law_815 rfl ?_
    refine ab_aload_n d_LA_law_816 rfl ?_
    refine ab_iload d_LA_law_817 rfl ?_
    refine zz_iconst d_LA_law_819 ?_
    refine zz_iadd d_LA_law_820 ?_
    refine zz_iald d_LA_law_821 h0 (by omega) ?_
    have hq17 := hff (i + 1)
    refine ab_aload_n d_LA_law_822 rfl ?_
    refine ab_iload d_LA_law_823 rfl ?_
    refine zz_iconst d_LA_law_825 ?_
    refine zz_iadd d_LA_law_826 ?_
    refine zz_iald d_LA_law_827 h0 (by omega) ?_
    have hq18 := hff (i + 2)
    refine zz_if_eq (tgt := 835) d_LA_law_828 (by decide) (by omega) (fun c19 => absurd c19 (by omega)) (fun c19 => ?_)
    refine zz_iconst d_LA_law_831 ?_
    refine ab_goto (tgt := 836) d_LA_law_832 (by decide) ?_
    obtain ⟨fs21, hfs21⟩ := hm.recv
    refine ab_callV (d' := 2047) (as := [vz (f (i + 1)), vz 1]) (st := [vz w16]) (r := _) (w_MO_which (d := 2047) (x := (f (i + 1))) (wh := 1) hm (by omega) (by omega) (by decide)) (fun oc G2 h => by obtain ⟨_, _, _, _, _, _, _, _, _, _, _, _, _, _, _, _, _, _, _, _, _, _, _, _, h, _⟩ := h; obtain ⟨_, h⟩ := h; exact ⟨_, h⟩) (by decide) m_MO_which ml_LA_103 im_MO_which se_MO_which c_MO hfs21 (Nat.le_of_ble_eq_true rfl) d_LA_law_836 rfl ?_
    intro v G20 hq
    obtain ⟨ryG20, tqG20, tdG20, thG20, gjG20, zjG20, fjG20, njG20, sjG20, fbG20, fqG20, usG20, ulG20, ufG20, uaG20, upG20, ubG20, uvG20, uoG20, uOG20, imG20, mgG20, keG20, hrm, hr, hfG20, hlG20, hsG20, t22, hm⟩ := hq
    obtain ⟨w23, hrw, hvl, f1_, f2_, f3_, f4_, f5_, f6_, f7_, f8_, f9_, f10_, f11_, f12_, f13_, f14_, f15_, f16_, f17_, f18_, f19_, f20_, f21_, f22_, f23_⟩ := hrm
    clear hr
    have hr := hrw
    rw [f1_, f2_, f3_, f4_, f5_, f6_, f7_, f8_, f9_, f10_, f11_, f12_, f13_, f14_, f15_, f16_, f17_, f18_, f19_, f20_, f21_, f22_, f23_] at hm
    have hvq_ := sy2_wh hx hy hcl hvl
    cases hr
    have h0 := hfG20.get h0 (by decide)
    have h148 := hfG20.get h148 (by decide)
    have hp := hp.fr hfG20 hlG20 hsG20 (by decide)
    change ab_W _ _ _ G20 839 [some (vR 0), some (vR 18), some (vR 80), some (vR 148), some (vz i), none, none] [vz w23, vz w16] _
    refine ab_icmp_eq (tgt := 931) d_LA_law_839 (by decide) (fun _ => ?_) (fun c => absurd (congrArg Int32.ofInt hvq_) c)
    exact K _ _ _ _ ⟨_, _, _, _, _, _, _, _, _, _, _, _, _, _, _, _, _, _, _, _, _, _, _, _, _, _, _, _, _, _, _, _, _, _, _, _, _, _, _, hp, hm, h0, h148, hy, hx, hz, hla_⟩
