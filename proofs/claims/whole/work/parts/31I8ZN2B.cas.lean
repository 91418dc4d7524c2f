set_option maxRecDepth 100000 in
set_option maxHeartbeats 4000000 in
theorem lq_5 {X : ab_X} {Q : Outcome → ab_G → Prop} {o : Nat → Nat} {G : ab_G} {L : Nat} {f F : Int → Int} {lf : Nat} {t i : Int} (h : lwI o G L f F (lf + 1) t) (hff : ∀ k : Int, -2147483648 ≤ f k ∧ f k ≤ 2147483647) (hi : 0 ≤ i ∧ i + 6 ≤ ↑L ∧ ↑L ≤ (3072 : Int)) (n18 : ab_n0 = 18)
    (K : ∀ (o2 : Nat → Nat) (G2 : ab_G) (F2 : Int → Int) (t2 : Int), lwI o2 G2 L f F2 lf t2 → ab_W X ab_LW 2048 G2 931 [some (vR 0), some (vR 18), some (vR 80), some (vR 148), some (vz i), none, none] [] Q) : ab_W X ab_LW 2048 G 358 [some (vR 0), some (vR 18), some (vR 80), some (vR 148), some (vz i), none, none] [] Q := by
  obtain ⟨RD, FT, sz, PG, cw, fa, fp, sn, sf, xa, Fa, xb, Fb, xr, Fr, LA, ry, tq, td, th, gj, zj, fj, nj, sj, fb, fq, us, ul, uf, ua, up, ub, uv, uo, uO, im, mg, ke, hp, hm, h0, h148, hy, hx, hz, hla_⟩ := h
  refine ab_aload_n d_LA_law_358 rfl ?_
  refine ab_aload_n d_LA_law_359 rfl ?_
  refine ab_iload d_LA_law_360 rfl ?_
  refine zz_iconst d_LA_law_362 ?_
  refine zz_iadd d_LA_law_363 ?_
  refine zz_iald d_LA_law_364 h0 (by omega) ?_
  have hq1 := hff (i + 1)
  refine ab_aload_n d_LA_law_365 rfl ?_
  refine ab_iload d_LA_law_366 rfl ?_
  refine zz_iconst d_LA_law_368 ?_
  refine zz_iadd d_LA_law_369 ?_
  refine zz_iald d_LA_law_370 h0 (by omega) ?_
  have hq2 := hff (i + 2)
  refine ab_aload_n d_LA_law_371 rfl ?_
  refine ab_iload d_LA_law_372 rfl ?_
  refine zz_iconst d_LA_law_374 ?_
  refine zz_iadd d_LA_law_375 ?_
  refine zz_iald d_LA_law_376 h0 (by omega) ?_
  have hq3 := hff (i + 3)
  obtain ⟨fs5, hfs5⟩ := hp.recv
  refine ab_callV (d' := 2047) (as := [vz (f (i + 1)), vz (f (i + 2)), vz (f (i + 3))]) (st := []) (r := _) (w_name (d := 2047) (sl := (f (i + 1))) (x := (f (i + 2))) (y := (f (i + 3))) hp (by omega) n18 (by decide)) (fun oc G2 h => by obtain ⟨_, _, _, _, _, _, _, _, _, _, _, _, _, _, _, _, _, _, _, _, _, h⟩ := h; obtain ⟨_, h, _⟩ := h; exact ⟨_, h⟩) (by decide) m_PW_name ml_LA_64 im_PW_name se_PW_name c_PW hfs5 (Nat.le_of_ble_eq_true rfl) d_LA_law_377 rfl ?_
  intro v G4 hq
  obtain ⟨oG4, SG4, RDG4, FTG4, szG4, PGG4, cwG4, faG4, fpG4, snG4, sfG4, xaG4, FaG4, xbG4, FbG4, xrG4, FrG4, LAG4, hfG4, hSG4, hp, hr⟩ := hq
  obtain ⟨w6, hr, hcl, e1_, e2_, e3_, e4_, e5_, e6_, e7_, e8_, e9_, e10_, e11_, e12_, e13_, e14_, e15_, e16_⟩ := hr
  rw [e1_, e2_, e3_, e4_, e5_, e6_, e7_, e8_, e9_, e10_, e11_, e12_, e13_, e14_, e15_, e16_] at hp
  cases hr
  have h0 := hfG4.get h0 (nl_w hSG4 0 (by decide))
  have h148 := hfG4.get h148 (nl_w hSG4 348 (by decide))
  have hm := hm.fr hfG4 (fun l hl => by have := hSG4 l hl; omega)
  change ab_W _ _ _ G4 380 [some (vR 0), some (vR 18), some (vR 80), some (vR 148), some (vz i), none, none] [vz w6] _
  refine ab_aload_n d_LA_law_380 rfl ?_
  refine ab_aload_n d_LA_law_381 rfl ?_
  refine ab_iload d_LA_law_382 rfl ?_
  refine zz_iconst d_LA_law_384 ?_
  refine zz_iadd d_LA_law_385 ?_
  refine zz_iald d_LA_law_386 h0 (by omega) ?_
  have hq7 := hff (i + 1)
  refine ab_aload_n d_LA_law_387 rfl ?_
  refine ab_iload d_LA_law_388 rfl ?_
  refine zz_iconst d_LA_law_390 ?_
  refine zz_iadd d_LA_law_391 ?_
  refine zz_iald d_LA_law_392 h0 (by omega) ?_
  have hq8 := hff (i + 2)
  refine ab_aload_n d_LA_law_393 rfl ?_
  refine ab_iload d_LA_law_394 rfl ?_
  refine zz_iconst d_LA_law_396 ?_
  refine zz_iadd d_LA_law_397 ?_
  refine zz_iald d_LA_law_398 h0 (by omega) ?_
  have hq9 := hff (i + 3)
  obtain ⟨fs11, hfs11⟩ := hm.recv
  refine ab_callV (d' := 2047) (as := [vz (f (i + 1)), vz (f (i + 2)), vz (f (i + 3))]) (st := [vz w6]) (r := _) (w_MO_name (d := 2047) (x := (f (i + 1))) (y := (f (i + 2))) (zz := (f (i + 3))) hm (by omega) (by decide)) (fun oc G2 h => by obtain ⟨_, _, _, _, _, _, _, _, _, _, _, _, _, _, _, _, _, _, _, _, _, _, _, _, h, _⟩ := h; obtain ⟨_, h⟩ := h; exact ⟨_, h⟩) (by decide) m_MO_name ml_LA_68 im_MO_name se_MO_name c_MO hfs11 (Nat.le_of_ble_eq_true rfl) d_LA_law_399 rfl ?_
  intro v G10 hq
  obtain ⟨ryG10, tqG10, tdG10, thG10, gjG10, zjG10, fjG10, njG10, sjG10, fbG10, fqG10, usG10, ulG10, ufG10, uaG10, upG10, ubG10, uvG10, uoG10, uOG10, imG10, mgG10, keG10, hrm, hr, hfG10, hlG10, hsG10, t12, hm⟩ := hq
  obtain ⟨w13, hrw, hvl, f1_, f2_, f3_, f4_, f5_, f6_, f7_, f8_, f9_, f10_, f11_, f12_, f13_, f14_, f15_, f16_, f17_, f18_, f19_, f20_, f21_, f22_, f23_⟩ := hrm
  clear hr
  have hr := hrw
  rw [f1_, f2_, f3_, f4_, f5_, f6_, f7_, f8_, f9_, f10_, f11_, f12_, f13_, f14_, f15_, f16_, f17_, f18_, f19_, f20_, f21_, f22_, f23_] at hm
  have hvq_ := syn_nm hy hcl hvl
  cases hr
  have h0 := hfG10.get h0 (by decide)
  have h148 := hfG10.get h148 (by decide)
  have hp := hp.fr hfG10 hlG10 hsG10 (by decide)
  change ab_W _ _ _ G10 402 [some (vR 0), some (vR 18), some (vR 80), some (vR 148), some (vz i), none, none] [vz w13, vz w6] _
  refine ab_icmp_eq (tgt := 931) d_LA_law_402 (by decide) (fun _ => ?_) (fun c => absurd (congrArg Int32.ofInt hvq_) c)
  exact K _ _ _ _ ⟨_, _, _, _, _, _, _, _, _, _, _, _, _, _, _, _, _, _, _, _, _, _, _, _, _, _, _, _, _, _, _, _, _, _, _, _, _, _, _, hp, hm, h0, h148, hy, hx, hz, hla_⟩
set_option maxRecDepth 100000 in
set_option maxHeartbeats 4000000 in
theorem lq_6 {X : ab_X} {Q : Outcome → ab_G → Prop} {o : Nat → Nat} {G : ab_G} {L : Nat} {f F : Int → Int} {lf : Nat} {t i : Int} (h : lwI o G L f F (lf + 1) t) (hff : ∀ k : Int, -2147483648 ≤ f k ∧ f k ≤ 2147483647) (hi : 0 ≤ i ∧ i + 6 ≤ ↑L ∧ ↑L ≤ (3072 : Int)) (n18 : ab_n0 = 18)
    (K : ∀ (o2 : Nat → Nat) (G2 : ab_G) (F2 : Int → Int) (t2 : Int), lwI o2 G2 L f F2 lf t2 → ab_W X ab_LW 2048 G2 931 [some (vR 0), some (vR 18), some (vR 80), some (vR 148), some (vz i), none, none] [] Q) : ab_W X ab_LW 2048 G 407 [some (vR 0), some (vR 18), some (vR 80), some (vR 148), some (vz i), none, none] [] Q := by
  obtain ⟨RD, FT, sz, PG, cw, fa, fp, sn, sf, xa, Fa, xb, Fb, xr, Fr, LA, ry, tq, td, th, gj, zj, fj, nj, sj, fb, fq, us, ul, uf, ua, up, ub, uv, uo, uO, im, mg, ke, hp, hm, h0, h148, hy, hx, hz, hla_⟩ := h
  refine ab_aload_n d_LA_law_407 rfl ?_
  obtain ⟨fs2, hfs2⟩ := hp.recv
  refine ab_callV (d' := 2047) (as := []) (st := []) (r := _) (w_subject (d := 2047)  hp  n18 (by decide)) (fun oc G2 h => by obtain ⟨_, _, _, _, _, _, _, _, _, _, _, _, _, _, _, _, _, _, _, _, _, h⟩ := h; exact ⟨_, h.1⟩) (by decide) m_PW_subject ml_LA_69 im_PW_subject se_PW_subject c_PW hfs2 (Nat.le_of_ble_eq_true rfl) d_LA_law_408 rfl ?_
  intro v G1 hq
  obtain ⟨oG1, SG1, RDG1, FTG1, szG1, PGG1, cwG1, faG1, fpG1, snG1, sfG1, xaG1, FaG1, xbG1, FbG1, xrG1, FrG1, LAG1, hfG1, hSG1, hp, hr⟩ := hq
  obtain ⟨hr, e1_, e2_, hcs, e3_, e4_, e5_, e6_, e7_, e8_, e9_, e10_, e11_, e12_, e13_, e14_, e15_⟩ := hr
  rw [e1_, e2_, e3_, e4_, e5_, e6_, e7_, e8_, e9_, e10_, e11_, e12_, e13_, e14_, e15_] at hp
  cases hr
  have h0 := hfG1.get h0 (nl_w hSG1 0 (by decide))
  have h148 := hfG1.get h148 (nl_w hSG1 348 (by decide))
  have hm := hm.fr hfG1 (fun l hl => by have := hSG1 l hl; omega)
  change ab_W _ _ _ G1 411 [some (vR 0), some (vR 18), some (vR 80), some (vR 148), some (vz i), none, none] [vz sz] _
  refine ab_aload_n d_LA_law_411 rfl ?_
  obtain ⟨fs5, hfs5⟩ := hm.recv
  refine ab_callV (d' := 2047) (as := []) (st := [vz sz]) (r := _) (w_MO_subject (d := 2047)  hm  (by decide)) (fun oc G2 h => by obtain ⟨_, _, _, _, _, _, _, _, _, _, _, _, _, _, _, _, _, _, _, _, _, _, _, _, h, _⟩ := h; obtain ⟨_, h⟩ := h; exact ⟨_, h⟩) (by decide) m_MO_subject ml_LA_72 im_MO_subject se_MO_subject c_MO hfs5 (Nat.le_of_ble_eq_true rfl) d_LA_law_412 rfl ?_
  intro v G4 hq
  obtain ⟨ryG4, tqG4, tdG4, thG4, gjG4, zjG4, fjG4, njG4, sjG4, fbG4, fqG4, usG4, ulG4, ufG4, uaG4, upG4, ubG4, uvG4, uoG4, uOG4, imG4, mgG4, keG4, hrm, hr, hfG4, hlG4, hsG4, t6, hm⟩ := hq
  obtain ⟨hrw, f1_, f2_, hcu, f3_, f4_, f5_, f6_, f7_, f8_, f9_, f10_, f11_, f12_, f13_, f14_, f15_, f16_, f17_, f18_, f19_, f20_, f21_, f22_⟩ := hrm
  clear hr
  have hr := hrw
  rw [f1_, f2_, f3_, f4_, f5_, f6_, f7_, f8_, f9_, f10_, f11_, f12_, f13_, f14_, f15_, f16_, f17_, f18_, f19_, f20_, f21_, f22_] at hm
  have hx := sy2_subj hx hy hcs hcu
  have hsd_ := hy.2.2.1
  have hsb_ := hy.2.2.2.1
  have hy := syn_zero hy
  cases hr
  have h0 := hfG4.get h0 (by decide)
  have h148 := hfG4.get h148 (by decide)
  have hp := hp.fr hfG4 hlG4 hsG4 (by decide)
  change ab_W _ _ _ G4 415 [some (vR 0), some (vR 18), some (vR 80), some (vR 148), some (vz i), none, none] [vz td, vz sz] _
  refine zz_icmp_eq (tgt := 931) d_LA_law_415 (by decide) (by omega) (by omega) (fun c8 => ?_) (fun c8 => absurd c8 (by omega))
  exact K _ _ _ _ ⟨_, _, _, _, _, _, _, _, _, _, _, _, _, _, _, _, _, _, _, _, _, _, _, _, _, _, _, _, _, _, _, _, _, _, _, _, _, _, _, hp, hm, h0, h148, hy, hx, hz, hla_⟩
set_option maxRecDepth 100000 in
set_option maxHeartbeats 4000000 in
theorem lq_7 {X : ab_X} {Q : Outcome → ab_G → Prop} {o : Nat → Nat} {G : ab_G} {L : Nat} {f F : Int → Int} {lf : Nat} {t i : Int} (h : lwI o G L f F (lf + 1) t) (hff : ∀ k : Int, -2147483648 ≤ f k ∧ f k ≤ 2147483647) (hi : 0 ≤ i ∧ i + 6 ≤ ↑L ∧ ↑L ≤ (3072 : Int)) (n18 : ab_n0 = 18)
    (K : ∀ (o2 : Nat → Nat) (G2 : ab_G) (F2 : Int → Int) (t2 : Int), lwI o2 G2 L f F2 lf t2 → ab_W X ab_LW 2048 G2 931 [some (vR 0), some (vR 18), some (vR 80), some (vR 148), some (vz i), none, none] [] Q) : ab_W X ab_LW 2048 G 420 [some (vR 0), some (vR 18), some (vR 80), some (vR 148), some (vz i), none, none] [] Q := by
  obtain ⟨RD, FT, sz, PG, cw, fa, fp, sn, sf, xa, Fa, xb, Fb, xr, Fr, LA, ry, tq, td, th, gj, zj, fj, nj, sj, fb, fq, us, ul, uf, ua, up, ub, uv, uo, uO, im, mg, ke, hp, hm, h0, h148, hy, hx, hz, hla_⟩ := h
  refine ab_aload_n d_LA_law_420 rfl ?_
  refine ab_aload_n d_LA_law_421 rfl ?_
  refine ab_iload d_LA_law_422 rfl ?_
  refine zz_iconst d_LA_law_424 ?_
  refine zz_iadd d_LA_law_425 ?_
  refine zz_iald d_LA_law_426 h0 (by omega) ?_
  have hq1 := hff (i + 1)
  refine ab_aload_n d_LA_law_427 rfl ?_
  refine ab_iload d_LA_law_428 rfl ?_
  refine zz_iconst d_LA_law_430 ?_
  refine zz_iadd d_LA_law_431 ?_
  refine zz_iald d_LA_law_432 h0 (by omega) ?_
  have hq2 := hff (i + 2)
  refine ab_aload_n d_LA_law_433 rfl ?_
  refine ab_iload d_LA_law_434 rfl ?_
  refine zz_iconst d_LA_law_436 ?_
  refine zz_iadd d_LA_law_437 ?_
  refine zz_iald d_LA_law_438 h0 (by omega) ?_
  have hq3 := hff (i + 3)
  refine ab_aload_n d_LA_law_439 rfl ?_
  refine ab_iload d_LA_law_440 rfl ?_
  refine zz_iconst d_LA_law_442 ?_
  refine zz_iadd d_LA_law_443 ?_
  refine zz_iald d_LA_law_444 h0 (by omega) ?_
  have hq4 := hff (i + 4)
  refine ab_aload_n d_LA_law_445 rfl ?_
  refine ab_callSW (d' := 2047) (as := [vR 18, vz (f (i + 1)), vz (f (i + 2)), vz (f (i + 3)), vz (f (i + 4)), vR 148]) (st := []) (c_LA_match (d := 2047) hp h148 (by omega) n18 (by decide)) (fun oc G2 h => by obtain ⟨_, _, _, _, _, _, _, _, _, _, _, _, _, _, _, _, _, _, _, _, h, _⟩ := h; exact ⟨_, h⟩) (by decide) m_LA_match (ab_t7 (List.mem_of_getElem? (i := 179) rfl)) st_LA_match (Nat.le_of_ble_eq_true rfl) d_LA_law_446 rfl ?_
  intro v G5 hq
  obtain ⟨oG5, SG5, FG5, k6, RDG5, FTG5, szG5, PGG5, cwG5, faG5, fpG5, snG5, sfG5, xaG5, FaG5, xbG5, FbG5, xrG5, FrG5, LAG5, hr, hfG5, hSG5, hp, h148, hrel⟩ := hq
  cases hr
  obtain ⟨hrl, e1_, e2_, e3_, e4_, e5_, e6_, e7_, e8_, e9_, e10_, e11_, e12_, e13_, e14_, e15_⟩ := hrel
  rw [e1_, e2_, e3_, e4_, e5_, e6_, e7_, e8_, e9_, e10_, e11_, e12_, e13_, e14_, e15_] at hp
  have h0 := hfG5.get h0 (nl_v hSG5 0 (by decide))
  have hm := hm.fr hfG5 (fun l hl => by have := hSG5 l hl; omega)
  change ab_W _ _ _ G5 449 [some (vR 0), some (vR 18), some (vR 80), some (vR 148), some (vz i), none, none] [vz k6] _
  refine ab_istore d_LA_law_449 (Nat.le_of_ble_eq_true rfl) (Nat.le_of_ble_eq_true rfl) rfl ?_
  change ab_W _ _ _ G5 451 [some (vR 0), some (vR 18), some (vR 80), some (vR 148), some (vz i), some (vz k6), none] [] _
  refine ab_aload_n d_LA_law_451 rfl ?_
  refine ab_aload_n d_LA_law_452 rfl ?_
  refine ab_iload d_LA_law_453 rfl ?_
  refine zz_iconst d_LA_law_455 ?_
  refine zz_iadd d_LA_law_456 ?_
  refine zz_iald d_LA_law_457 h0 (by omega) ?_
  have hq7 := hff (i + 1)
  refine ab_aload_n d_LA_law_458 rfl ?_
  refine ab_iload d_LA_law_459 rfl ?_
  refine zz_iconst d_LA_law_461 ?_
  refine zz_iadd d_LA_law_462 ?_
  refine zz_iald d_LA_law_463 h0 (by omega) ?_
  have hq8 := hff (i + 2)
  refine ab_aload_n d_LA_law_464 rfl ?_
  refine ab_iload d_LA_law_465 rfl ?_
  refine zz_iconst d_LA_law_467 ?_
  refine zz_iadd d_LA_law_468 ?_
  refine zz_iald d_LA_law_469 h0 (by omega) ?_
  have hq9 := hff (i + 3)
  refine ab_aload_n d_LA_law_470 rfl ?_
  refine ab_iload d_LA_law_471 rfl ?_
  refine zz_iconst d_LA_law_473 ?_
  refine zz_iadd d_LA_law_474 ?_
  refine zz_iald d_LA_law_475 h0 (by omega) ?_
  have hq10 := hff (i + 4)
  obtain ⟨fs12, hfs12⟩ := hm.recv
  refine ab_callV (d' := 2047) (as := [vz (f (i + 1)), vz (f (i + 2)), vz (f (i + 3)), vz (f (i + 4))]) (st := []) (r := _) (w_MO_match (d := 2047) (s := (f (i + 1))) (how := (f (i + 2))) (mc := (f (i + 3))) (fm := (f (i + 4))) hm (by omega) (by decide)) (fun oc G2 h => by obtain ⟨_, _, _, _, _, _, _, _, _, _, _, _, _, _, _, _, _, _, _, _, _, _, _, _, h, _⟩ := h; obtain ⟨_, h⟩ := h; exact ⟨_, h⟩) (by decide) m_MO_match ml_LA_76 im_MO_match se_MO_match c_MO hfs12 (Nat.le_of_ble_eq_true rfl) d_LA_law_476 rfl ?_
  intro v G11 hq
  obtain ⟨ryG11, tqG11, tdG11, thG11, gjG11, zjG11, fjG11, njG11, sjG11, fbG11, fqG11, usG11, ulG11, ufG11, uaG11, upG11, ubG11, uvG11, uoG11, uOG11, imG11, mgG11, keG11, hrm, hr, hfG11, hlG11, hsG11, t13, hm, hcm⟩ := hq
  obtain ⟨f1_, f2_, f3_, f4_, f5_, f6_, f7_, f8_, f9_, f10_, f11_, f12_, f13_, f14_, f15_, f16_, f17_, f18_, f19_, f20_⟩ := hrm
  rw [f1_, f2_, f3_, f4_, f5_, f6_, f7_, f8_, f9_, f10_, f11_, f12_, f13_, f14_, f15_, f16_, f17_, f18_, f19_, f20_] at hm
  obtain ⟨w14, hrw, hml⟩ := hcm
  clear hr
  have hr := hrw
  obtain ⟨htk_, hvw_, hkb_, hla_⟩ := sy2_mt hx hy hla_ hrl hml
  cases hr
  have h0 := hfG11.get h0 (by decide)
  have h148 := hfG11.get h148 (by decide)
  have hp := hp.fr hfG11 hlG11 hsG11 (by decide)
  change ab_W _ _ _ G11 479 [some (vR 0), some (vR 18), some (vR 80), some (vR 148), some (vz i), some (vz k6), none] [vz w14] _
  refine ab_istore d_LA_law_479 (Nat.le_of_ble_eq_true rfl) (Nat.le_of_ble_eq_true rfl) rfl ?_
  change ab_W _ _ _ G11 481 [some (vR 0), some (vR 18), some (vR 80), some (vR 148), some (vz i), some (vz k6), some (vz w14)] [] _
  refine ab_aload_n d_LA_law_481 rfl ?_
  obtain ⟨fs16, hfs16⟩ := hm.recv
  refine ab_callV (d' := 2047) (as := []) (st := []) (r := _) (w_MO_thrown (d := 2047)  hm  (by decide)) (fun oc G2 h => by obtain ⟨_, _, _, _, _, _, _, _, _, _, _, _, _, _, _, _, _, _, _, _, _, _, _, _, h, _⟩ := h; exact ⟨_, h⟩) (by decide) m_MO_thrown ml_LA_52 im_MO_thrown se_MO_thrown c_MO hfs16 (Nat.le_of_ble_eq_true rfl) d_LA_law_482 rfl ?_
  intro v G15 hq
  obtain ⟨ryG15, tqG15, tdG15, thG15, gjG15, zjG15, fjG15, njG15, sjG15, fbG15, fqG15, usG15, ulG15, ufG15, uaG15, upG15, ubG15, uvG15, uoG15, uOG15, imG15, mgG15, keG15, hrm, hr, hfG15, hlG15, hsG15, t17, hm⟩ := hq
  obtain ⟨f1_, f2_, f3_, f4_, f5_, f6_, f7_, f8_, f9_, f10_, f11_, f12_, f13_, f14_, f15_, f16_, f17_, f18_, f19_, f20_, f21_, f22_, f23_⟩ := hrm
  rw [f1_, f2_, f3_, f4_, f5_, f6_, f7_, f8_, f9_, f10_, f11_, f12_, f13_, f14_, f15_, f16_, f17_, f18_, f19_, f20_, f21_, f22_, f23_] at hm
  cases hr
  have h0 := hfG15.get h0 (by decide)
  have h148 := hfG15.get h148 (by decide)
  have hp := hp.fr hfG15 hlG15 hsG15 (by decide)
  change ab_W _ _ _ G15 485 [some (vR 0), some (vR 18), some (vR 80), some (vR 148), some (vz i), some (vz k6), some (vz w14)] [vz t13] _
  refine ab_iload d_LA_law_485 rfl ?_
  refine ab_icmp_eq (tgt := 492) d_LA_law_487 (by decide) (fun _ => ?_) (fun c => absurd (congrArg Int32.ofInt htk_) c)
  refine ab_iload d_LA_law_492 rfl ?_
  refine zz_if_ne (tgt := 509) d_LA_law_494 (by decide) (by omega) (fun c19 => ?_) (fun c19 => ?_)
  · refine ab_goto (tgt := 931) d_LA_law_509 (by decide) ?_
    refine ab_less (L' := [some (vR 0), some (vR 18), some (vR 80), some (vR 148), some (vz i), none, none]) (fun i v h => by rcases i with _ | _ | _ | _ | _ | _ | _ | i <;> first | exact h | (simp at h)) ?_
    exact K _ _ _ _ ⟨_, _, _, _, _, _, _, _, _, _, _, _, _, _, _, _, _, _, _, _, _, _, _, _, _, _, _, _, _, _, _, _, _, _, _, _, _, _, _, hp, hm, h0, h148, hy, hx, hz, hla_⟩
  · obtain ⟨hvw2_, hvw3_⟩ := hvw_ c19
    refine ab_aload_n d_LA_law_497 rfl ?_
    refine zz_iconst d_LA_law_498 ?_
    refine zz_lald d_LA_law_499 h148 (by omega) ?_
    refine ab_iload d_LA_law_500 rfl ?_
    refine zz_i2l d_LA_law_502 (by omega) ?_
    refine zz_lcmp d_LA_law_503 (by omega) (by omega) (fun c20a => by exfalso; omega) (fun c20a c20b => ?_) (fun c20a => by exfalso; omega)
    · refine zz_if_eq (tgt := 509) d_LA_law_504 (by decide) (by decide) (fun c21 => ?_) (fun c21 => absurd c21 (by decide))
      refine ab_goto (tgt := 931) d_LA_law_509 (by decide) ?_
      refine ab_less (L' := [some (vR 0), some (vR 18), some (vR 80), some (vR 148), some (vz i), none, none]) (fun i v h => by rcases i with _ | _ | _ | _ | _ | _ | _ | i <;> first | exact h | (simp at h)) ?_
      exact K _ _ _ _ ⟨_, _, _, _, _, _, _, _, _, _, _, _, _, _, _, _, _, _, _, _, _, _, _, _, _, _, _, _, _, _, _, _, _, _, _, _, _, _, _, hp, hm, h0, h148, hy, hx, hz, hla_⟩
set_option maxRecDepth 100000 in
set_option maxHeartbeats 4000000 in
theorem lq_8 {X : ab_X} {Q : Outcome → ab_G → Prop} {o : Nat → Nat} {G : ab_G} {L : Nat} {f F : Int → Int} {lf : Nat} {t i : Int} (h : lwI o G L f F (lf + 1) t) (hff : ∀ k : Int, -2147483648 ≤ f k ∧ f k ≤ 2147483647) (hi : 0 ≤ i ∧ i + 6 ≤ ↑L ∧ ↑L ≤ (3072 : Int)) (n18 : ab_n0 = 18)
    (K : ∀ (o2 : Nat → Nat) (G2 : ab_G) (F2 : Int → Int) (t2 : Int), lwI o2 G2 L f F2 lf t2 → ab_W X ab_LW 2048 G2 931 [some (vR 0), some (vR 18), some (vR 80), some (vR 148), some (vz i), none, none] [] Q) : ab_W X ab_LW 2048 G 512 [some (vR 0), some (vR 18), some (vR 80), some (vR 148), some (vz i), none, none] [] Q := by
  obtain ⟨RD, FT, sz, PG, cw, fa, fp, sn, sf, xa, Fa, xb, Fb, xr, Fr, LA, ry, tq, td, th, gj, zj, fj, nj, sj, fb, fq, us, ul, uf, ua, up, ub, uv, uo, uO, im, mg, ke, hp, hm, h0, h148, hy, hx, hz, hla_⟩ := h
  refine ab_aload_n d_LA_law_512 rfl ?_
  refine ab_aload_n d_LA_law_513 rfl ?_
  refine ab_iload d_LA_law_514 rfl ?_
  refine zz_iconst d_LA_law_516 ?_
  refine zz_iadd d_LA_law_517 ?_
  refine zz_iald d_LA_law_518 h0 (by omega) ?_
  have hq1 := hff (i + 1)
  refine ab_aload_n d_LA_law_519 rfl ?_
  refine ab_iload d_LA_law_520 rfl ?_
  refine zz_iconst d_LA_law_522 ?_
  refine zz_iadd d_LA_law_523 ?_
  refine zz_iald d_LA_law_524 h0 (by omega) ?_
  have hq2 := hff (i + 2)
  obtain ⟨fs4, hfs4⟩ := hp.recv
  refine ab_callV (d' := 2047) (as := [vz (f (i + 1)), vz (f (i + 2))]) (st := []) (r := _) (w_group (d := 2047) (k := (f (i + 1))) (wh := (f (i + 2))) hp (by omega) n18 (by decide)) (fun oc G2 h => by obtain ⟨_, _, _, _, _, _, _, _, _, _, _, _, _, _, _, _, _, _, _, _, _, h⟩ := h; obtain ⟨_, h, _⟩ := h; exact ⟨_, h⟩) (by decide) m_PW_group ml_LA_77 im_PW_group se_PW_group c_PW hfs4 (Nat.le_of_ble_eq_true rfl) d_LA_law_525 rfl ?_
  intro v G3 hq
  obtain ⟨oG3, SG3, RDG3, FTG3, szG3, PGG3, cwG3, faG3, fpG3, snG3, sfG3, xaG3, FaG3, xbG3, FbG3, xrG3, FrG3, LAG3, hfG3, hSG3, hp, hr⟩ := hq
  obtain ⟨w5, hr, hcl, e1_, e2_, e3_, e4_, e5_, e6_, e7_, e8_, e9_, e10_, e11_, e12_, e13_, e14_, e15_, e16_⟩ := hr
  rw [e1_, e2_, e3_, e4_, e5_, e6_, e7_, e8_, e9_, e10_, e11_, e12_, e13_, e14_, e15_, e16_] at hp
  cases hr
  have h0 := hfG3.get h0 (nl_w hSG3 0 (by decide))
  have h148 := hfG3.get h148 (nl_w hSG3 348 (by decide))
  have hm := hm.fr hfG3 (fun l hl => by have := hSG3 l hl; omega)
  change ab_W _ _ _ G3 528 [some (vR 0), some (vR 18), some (vR 80), some (vR 148), some (vz i), none, none] [vz w5] _
  refine ab_aload_n d_LA_law_528 rfl ?_
  refine ab_aload_n d_LA_law_529 rfl ?_
  refine ab_iload d_LA_law_530 rfl ?_
  refine zz_iconst d_LA_law_532 ?_
  refine zz_iadd d_LA_law_533 ?_
  refine zz_iald d_LA_law_534 h0 (by omega) ?_
  have hq6 := hff (i + 1)
  refine ab_aload_n d_LA_law_535 rfl ?_
  refine ab_iload d_LA_law_536 rfl ?_
  refine zz_iconst d_LA_law_538 ?_
  refine zz_iadd d_LA_law_539 ?_
  refine zz_iald d_LA_law_540 h0 (by omega) ?_
  have hq7 := hff (i + 2)
  obtain ⟨fs9, hfs9⟩ := hm.recv
  refine ab_callV (d' := 2047) (as := [vz (f (i + 1)), vz (f (i + 2))]) (st := [vz w5]) (r := _) (w_MO_group (d := 2047) (x := (f (i + 1))) (y := (f (i + 2))) hm (by omega) (by decide)) (fun oc G2 h => by obtain ⟨_, _, _, _, _, _, _, _, _, _, _, _, _, _, _, _, _, _, _, _, _, _, _, _, h, _⟩ := h; obtain ⟨_, h⟩ := h; exact ⟨_, h⟩) (by decide) m_MO_group ml_LA_80 im_MO_group se_MO_group c_MO hfs9 (Nat.le_of_ble_eq_true rfl) d_LA_law_541 rfl ?_
  intro v G8 hq
  obtain ⟨ryG8, tqG8, tdG8, thG8, gjG8, zjG8, fjG8, njG8, sjG8, fbG8, fqG8, usG8, ulG8, ufG8, uaG8, upG8, ubG8, uvG8, uoG8, uOG8, imG8, mgG8, keG8, hrm, hr, hfG8, hlG8, hsG8, t10, hm⟩ := hq
  obtain ⟨w11, hrw, hvl, f1_, f2_, f3_, f4_, f5_, f6_, f7_, f8_, f9_, f10_, f11_, f12_, f13_, f14_, f15_, f16_, f17_, f18_, f19_, f20_, f21_, f22_, f23_⟩ := hrm
  clear hr
  have hr := hrw
  rw [f1_, f2_, f3_, f4_, f5_, f6_, f7_, f8_, f9_, f10_, f11_, f12_, f13_, f14_, f15_, f16_, f17_, f18_, f19_, f20_, f21_, f22_, f23_] at hm
  have hvq_ := laE_gr hla_ hcl hvl
  cases hr
  have h0 := hfG8.get h0 (by decide)
  have h148 := hfG8.get h148 (by decide)
  have hp := hp.fr hfG8 hlG8 hsG8 (by decide)
  change ab_W _ _ _ G8 544 [some (vR 0), some (vR 18), some (vR 80), some (vR 148), some (vz i), none, none] [vz w11, vz w5] _
  refine ab_icmp_eq (tgt := 931) d_LA_law_544 (by decide) (fun _ => ?_) (fun c => absurd (congrArg Int32.ofInt hvq_) c)
  exact K _ _ _ _ ⟨_, _, _, _, _, _, _, _, _, _, _, _, _, _, _, _, _, _, _, _, _, _, _, _, _, _, _, _, _, _, _, _, _, _, _, _, _, _, _, hp, hm, h0, h148, hy, hx, hz, hla_⟩
set_option maxRecDepth 100000 in
set_option maxHeartbeats 4000000 in
theorem lq_9 {X : ab_X} {Q : Outcome → ab_G → Prop} {o : Nat → Nat} {G : ab_G} {L : Nat} {f F : Int → Int} {lf : Nat} {t i : Int} (h : lwI o G L f F (lf + 1) t) (hff : ∀ k : Int, -2147483648 ≤ f k ∧ f k ≤ 2147483647) (hi : 0 ≤ i ∧ i + 6 ≤ ↑L ∧ ↑L ≤ (3072 : Int)) (n18 : ab_n0 = 18)
    (K : ∀ (o2 : Nat → Nat) (G2 : ab_G) (F2 : Int → Int) (t2 : Int), lwI o2 G2 L f F2 lf t2 → ab_W X ab_LW 2048 G2 931 [some (vR 0), some (vR 18), some (vR 80), some (vR 148), some (vz i), none, none] [] Q) : ab_W X ab_LW 2048 G 549 [some (vR 0), some (vR 18), some (vR 80), some (vR 148), some (vz i), none, none] [] Q := by
  obtain ⟨RD, FT, sz, PG, cw, fa, fp, sn, sf, xa, Fa, xb, Fb, xr, Fr, LA, ry, tq, td, th, gj, zj, fj, nj, sj, fb, fq, us, ul, uf, ua, up, ub, uv, uo, uO, im, mg, ke, hp, hm, h0, h148, hy, hx, hz, hla_⟩ := h
  refine ab_aload_n d_LA_law_549 rfl ?_
  refine ab_aload_n d_LA_law_550 rfl ?_
  refine ab_iload d_LA_law_551 rfl ?_
  refine zz_iconst d_LA_law_553 ?_
  refine zz_iadd d_LA_law_554 ?_
  refine zz_iald d_LA_law_555 h0 (by omega) ?_
  have hq1 := hff (i + 1)
  refine ab_aload_n d_LA_law_556 rfl ?_
  refine ab_callSW (d' := 2047) (as := [vR 18, vz (f (i + 1)), vR 148]) (st := []) (c_LA_all (d := 2047) hp h148 (by omega) n18 (by decide)) (fun oc G2 h => by obtain ⟨_, _, _, _, _, _, _, _, _, _, _, _, _, _, _, _, _, _, _, _, h, _⟩ := h; exact ⟨_, h⟩) (by decide) m_LA_all (ab_t7 (List.mem_of_getElem? (i := 189) rfl)) st_LA_all (Nat.le_of_ble_eq_true rfl) d_LA_law_557 rfl ?_
  intro v G2 hq
  obtain ⟨oG2, SG2, FG2, k3, RDG2, FTG2, szG2, PGG2, cwG2, faG2, fpG2, snG2, sfG2, xaG2, FaG2, xbG2, FbG2, xrG2, FrG2, LAG2, hr, hfG2, hSG2, hp, h148, hrel⟩ := hq
  cases hr
  obtain ⟨hrl, e1_, e2_, e3_, e4_, e5_, e6_, e7_, e8_, e9_, e10_, e11_, e12_, e13_, e14_⟩ := hrel
  rw [e1_, e2_, e3_, e4_, e5_, e6_, e7_, e8_, e9_, e10_, e11_, e12_, e13_, e14_] at hp
  have h0 := hfG2.get h0 (nl_v hSG2 0 (by decide))
  have hm := hm.fr hfG2 (fun l hl => by have := hSG2 l hl; omega)
  change ab_W _ _ _ G2 560 [some (vR 0), some (vR 18), some (vR 80), some (vR 148), some (vz i), none, none] [vz k3] _
  refine ab_istore d_LA_law_560 (Nat.le_of_ble_eq_true rfl) (Nat.le_of_ble_eq_true rfl) rfl ?_
  change ab_W _ _ _ G2 562 [some (vR 0), some (vR 18), some (vR 80), some (vR 148), some (vz i), some (vz k3), none] [] _
  refine ab_aload_n d_LA_law_562 rfl ?_
  refine ab_aload_n d_LA_law_563 rfl ?_
  refine ab_iload d_LA_law_564 rfl ?_
  refine zz_iconst d_LA_law_566 ?_
  refine zz_iadd d_LA_law_567 ?_
  refine zz_iald d_LA_law_568 h0 (by omega) ?_
  have hq4 := hff (i + 1)
  obtain ⟨fs6, hfs6⟩ := hm.recv
  refine ab_callV (d' := 2047) (as := [vz (f (i + 1))]) (st := []) (r := _) (w_MO_all (d := 2047) (s := (f (i + 1))) hm (by omega) (by decide)) (fun oc G2 h => by obtain ⟨_, _, _, _, _, _, _, _, _, _, _, _, _, _, _, _, _, _, _, _, _, _, _, _, h, _⟩ := h; obtain ⟨_, h⟩ := h; exact ⟨_, h⟩) (by decide) m_MO_all ml_LA_84 im_MO_all se_MO_all c_MO hfs6 (Nat.le_of_ble_eq_true rfl) d_LA_law_569 rfl ?_
  intro v G5 hq
  obtain ⟨ryG5, tqG5, tdG5, thG5, gjG5, zjG5, fjG5, njG5, sjG5, fbG5, fqG5, usG5, ulG5, ufG5, uaG5, upG5, ubG5, uvG5, uoG5, uOG5, imG5, mgG5, keG5, hrm, hr, hfG5, hlG5, hsG5, t7, hm, hcm⟩ := hq
  obtain ⟨f1_, f2_, f3_, f4_, f5_, f6_, f7_, f8_, f9_, f10_, f11_, f12_, f13_, f14_, f15_, f16_, f17_, f18_, f19_, f20_, f21_⟩ := hrm
  rw [f1_, f2_, f3_, f4_, f5_, f6_, f7_, f8_, f9_, f10_, f11_, f12_, f13_, f14_, f15_, f16_, f17_, f18_, f19_, f20_, f21_] at hm
  obtain ⟨w8, hrw, hml⟩ := hcm
  clear hr
  have hr := hrw
  obtain ⟨htk_, hvw_, hkb_, hx⟩ := sy2_al hx hy hrl hml
  cases hr
  have h0 := hfG5.get h0 (by decide)
  have h148 := hfG5.get h148 (by decide)
  have hp := hp.fr hfG5 hlG5 hsG5 (by decide)
  change ab_W _ _ _ G5 572 [some (vR 0), some (vR 18), some (vR 80), some (vR 148), some (vz i), some (vz k3), none] [vz w8] _
  refine ab_istore d_LA_law_572 (Nat.le_of_ble_eq_true rfl) (Nat.le_of_ble_eq_true rfl) rfl ?_
  change ab_W _ _ _ G5 574 [some (vR 0), some (vR 18), some (vR 80), some (vR 148), some (vz i), some (vz k3), some (vz w8)] [] _
  refine ab_aload_n d_LA_law_574 rfl ?_
  obtain ⟨fs10, hfs10⟩ := hm.recv
  refine ab_callV (d' := 2047) (as := []) (st := []) (r := _) (w_MO_thrown (d := 2047)  hm  (by decide)) (fun oc G2 h => by obtain ⟨_, _, _, _, _, _, _, _, _, _, _, _, _, _, _, _, _, _, _, _, _, _, _, _, h, _⟩ := h; exact ⟨_, h⟩) (by decide) m_MO_thrown ml_LA_52 im_MO_thrown se_MO_thrown c_MO hfs10 (Nat.le_of_ble_eq_true rfl) d_LA_law_575 rfl ?_
  intro v G9 hq
  obtain ⟨ryG9, tqG9, tdG9, thG9, gjG9, zjG9, fjG9, njG9, sjG9, fbG9, fqG9, usG9, ulG9, ufG9, uaG9, upG9, ubG9, uvG9, uoG9, uOG9, imG9, mgG9, keG9, hrm, hr, hfG9, hlG9, hsG9, t11, hm⟩ := hq
  obtain ⟨f1_, f2_, f3_, f4_, f5_, f6_, f7_, f8_, f9_, f10_, f11_, f12_, f13_, f14_, f15_, f16_, f17_, f18_, f19_, f20_, f21_, f22_, f23_⟩ := hrm
  rw [f1_, f2_, f3_, f4_, f5_, f6_, f7_, f8_, f9_, f10_, f11_, f12_, f13_, f14_, f15_, f16_, f17_, f18_, f19_, f20_, f21_, f22_, f23_] at hm
  cases hr
  have h0 := hfG9.get h0 (by decide)
  have h148 := hfG9.get h148 (by decide)
  have hp := hp.fr hfG9 hlG9 hsG9 (by decide)
  change ab_W _ _ _ G9 578 [some (vR 0), some (vR 18), some (vR 80), some (vR 148), some (vz i), some (vz k3), some (vz w8)] [vz t7] _
  refine ab_iload d_LA_law_578 rfl ?_
  refine ab_icmp_eq (tgt := 585) d_LA_law_580 (by decide) (fun _ => ?_) (fun c => absurd (congrArg Int32.ofInt htk_) c)
  refine ab_iload d_LA_law_585 rfl ?_
  refine zz_if_ne (tgt := 602) d_LA_law_587 (by decide) (by omega) (fun c13 => ?_) (fun c13 => ?_)
  · refine ab_goto (tgt := 931) d_LA_law_602 (by decide) ?_
    refine ab_less (L' := [some (vR 0), some (vR 18), some (vR 80), some (vR 148), some (vz i), none, none]) (fun i v h => by rcases i with _ | _ | _ | _ | _ | _ | _ | i <;> first | exact h | (simp at h)) ?_
    exact K _ _ _ _ ⟨_, _, _, _, _, _, _, _, _, _, _, _, _, _, _, _, _, _, _, _, _, _, _, _, _, _, _, _, _, _, _, _, _, _, _, _, _, _, _, hp, hm, h0, h148, hy, hx, hz, hla_⟩
  · obtain ⟨hvw2_, hvw3_⟩ := hvw_ c13
    refine ab_aload_n d_LA_law_590 rfl ?_
    refine zz_iconst d_LA_law_591 ?_
    refine zz_lald d_LA_law_592 h148 (by omega) ?_
    refine ab_iload d_LA_law_593 rfl ?_
    refine zz_i2l d_LA_law_595 (by omega) ?_
    refine zz_lcmp d_LA_law_596 (by omega) (by omega) (fun c14a => by exfalso; omega) (fun c14a c14b => ?_) (fun c14a => by exfalso; omega)
    · refine zz_if_eq (tgt := 602) d_LA_law_597 (by decide) (by decide) (fun c15 => ?_) (fun c15 => absurd c15 (by decide))
      refine ab_goto (tgt := 931) d_LA_law_602 (by decide) ?_
      refine ab_less (L' := [some (vR 0), some (vR 18), some (vR 80), some (vR 148), some (vz i), none, none]) (fun i v h => by rcases i with _ | _ | _ | _ | _ | _ | _ | i <;> first | exact h | (simp at h)) ?_
      exact K _ _ _ _ ⟨_, _, _, _, _, _, _, _, _, _, _, _, _, _, _, _, _, _, _, _, _, _, _, _, _, _, _, _, _, _, _, _, _, _, _, _, _, _, _, hp, hm, h0, h148, hy, hx, hz, hla_⟩
