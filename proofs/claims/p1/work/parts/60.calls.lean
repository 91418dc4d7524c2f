set_option maxRecDepth 100000 in
set_option maxHeartbeats 4000000 in
theorem q_MO_match_0 {X : ab_X} {d : Nat} {G : ab_G} {xs : Nat → Int32} (hlen : G.length = 150) (hsl : ab_slots G = 1890759) (h80 : G[80]? = some (ab_ob 12 (m_fv (vI 0) (vI 0) (vI 0) (vI 0) (vI 0) (vI 0) (vI 0) (vI 0) (vI 0) (vI 0) (vI 0) (vI 0) (vI (-1)) (vI 0) (vI 0) (vI 0) (vI 0) (vI 0) (vI 0) (vI 0) (vI 0) (vI 0) (vI 0) (vI 0) (vI 0) (vI 0) (vI 0) (vI 0) (vI 0) (vI 0) (vI 0) (vI 0) (vI 0) (vI 0) (vI 0)))) (h112 : G[112]? = some (ab_zf 6 ((fun _ => 0)))) (hd : 1 ≤ d) : ab_F X d y_MO_match (.code y_MO_match b_MO_match 6 (some (.int))) [vR 80, vI (xs 1), vI (xs 2), vI (xs 3), vI (xs 4)] G (fun o G2 => o = .returned (some (vI 0)) ∧ ab_fr [80] G G2 ∧ G2.length = 150 ∧ ab_slots G2 = 1890759 ∧ G2[80]? = some (ab_ob 12 (m_fv (vI 1) (vI 0) (vI 0) (vI 0) (vI 0) (vI 0) (vI 0) (vI 0) (vI 0) (vI 0) (vI 0) (vI 0) (vI (-1)) (vI 0) (vI 0) (vI 0) (vI 0) (vI 0) (vI 0) (vI 0) (vI 0) (vI 0) (vI 0) (vI 0) (vI 0) (vI 0) (vI 0) (vI 0) (vI 0) (vI 0) (vI 0) (vI 0) (vI 0) (vI 0) (vI 0)))) := by
  refine ab_F_of (by decide +kernel) (Nat.le_of_ble_eq_true rfl) ?_
  obtain ⟨Q, hQ⟩ : ∃ z : Outcome → ab_G → Prop, z = (fun o G2 => o = .returned (some (vI 0)) ∧ ab_fr [80] G G2 ∧ G2.length = 150 ∧ ab_slots G2 = 1890759 ∧ G2[80]? = some (ab_ob 12 (m_fv (vI 1) (vI 0) (vI 0) (vI 0) (vI 0) (vI 0) (vI 0) (vI 0) (vI 0) (vI 0) (vI 0) (vI 0) (vI (-1)) (vI 0) (vI 0) (vI 0) (vI 0) (vI 0) (vI 0) (vI 0) (vI 0) (vI 0) (vI 0) (vI 0) (vI 0) (vI 0) (vI 0) (vI 0) (vI 0) (vI 0) (vI 0) (vI 0) (vI 0) (vI 0) (vI 0)))) := ⟨_, rfl⟩
  rw [← hQ]
  change ab_W X (ab_pl y_MO_match b_MO_match 6 (some (.int))) d G 0 [some (vR 80), some (vI (xs 1)), some (vI (xs 2)), some (vI (xs 3)), some (vI (xs 4)), none] [] Q
  have hfr : ab_fr [80] G G := ab_fr.rf
  refine ab_aload_n d_MO_match_0 rfl ?_
  refine ab_aload_n d_MO_match_1 rfl ?_
  refine ab_iload_n d_MO_match_2 rfl ?_
  refine ab_callV (d' := d - 1) (as := [vI (xs 1)]) (st := [vR 80]) (r := _) (q_MO_isThere_1 (xs := xs) hlen hsl h80 h112) (fun o G2 h => ⟨_, h.1⟩) (by omega) m_MO_isThere ml_MO_507 im_MO_isThere se_MO_isThere c_MO h80 (Nat.le_of_ble_eq_true rfl) d_MO_match_3 rfl ?_
  intro v G1 hq
  obtain ⟨hv, hfk, hlen, hsl⟩ := hq
  cases hv
  have h80 := hfk.get (by decide) h80
  have h112 := hfk.get (by decide) h112
  have hfr := hfr.cl hfk (by decide)
  change ab_W _ _ _ G1 6 [some (vR 80), some (vI (xs 1)), some (vI (xs 2)), some (vI (xs 3)), some (vI (xs 4)), none] [vI 0, vR 80] _
  refine ab_if_eq (tgt := 41) d_MO_match_6 (by decide) (fun _ => ?_) (fun c => absurd c (by decide))
  refine ab_iconst (v := 1) d_MO_match_41 (by decide) ?_
  refine ab_goto (tgt := 46) d_MO_match_42 (by decide) ?_
  refine ab_putf (fs := (m_fv (vI 0) (vI 0) (vI 0) (vI 0) (vI 0) (vI 0) (vI 0) (vI 0) (vI 0) (vI 0) (vI 0) (vI 0) (vI (-1)) (vI 0) (vI 0) (vI 0) (vI 0) (vI 0) (vI 0) (vI 0) (vI 0) (vI 0) (vI 0) (vI 0) (vI 0) (vI 0) (vI 0) (vI 0) (vI 0) (vI 0) (vI 0) (vI 0) (vI 0) (vI 0) (vI 0))) f_MO_220 (Or.inl rfl) d_MO_match_46 h80 (Nat.le_of_ble_eq_true rfl) (fun _ => ⟨rfl, rfl⟩) (by decide) ?_
  obtain ⟨G2, eG2⟩ : ∃ z : ab_G, z = List.set G1 80 (ab_ob 12 (m_fv (vI 1) (vI 0) (vI 0) (vI 0) (vI 0) (vI 0) (vI 0) (vI 0) (vI 0) (vI 0) (vI 0) (vI 0) (vI (-1)) (vI 0) (vI 0) (vI 0) (vI 0) (vI 0) (vI 0) (vI 0) (vI 0) (vI 0) (vI 0) (vI 0) (vI 0) (vI 0) (vI 0) (vI 0) (vI 0) (vI 0) (vI 0) (vI 0) (vI 0) (vI 0) (vI 0))) := ⟨_, rfl⟩
  have h112 := ab_keep eG2 (by decide) h112
  have hlen := ab_klen eG2 hlen
  have hsl := ab_ksl 102 eG2 h80 rfl rfl hsl
  have hfr := hfr.wr eG2 (by decide)
  have h80 := ab_kept eG2 h80
  change ab_W _ _ _ (List.set G1 80 (ab_ob 12 (m_fv (vI 1) (vI 0) (vI 0) (vI 0) (vI 0) (vI 0) (vI 0) (vI 0) (vI 0) (vI 0) (vI 0) (vI 0) (vI (-1)) (vI 0) (vI 0) (vI 0) (vI 0) (vI 0) (vI 0) (vI 0) (vI 0) (vI 0) (vI 0) (vI 0) (vI 0) (vI 0) (vI 0) (vI 0) (vI 0) (vI 0) (vI 0) (vI 0) (vI 0) (vI 0) (vI 0)))) 49 [some (vR 80), some (vI (xs 1)), some (vI (xs 2)), some (vI (xs 3)), some (vI (xs 4)), none] [] _
  rw [← eG2]
  refine ab_aload_n d_MO_match_49 rfl ?_
  refine ab_getf (fs := (m_fv (vI 1) (vI 0) (vI 0) (vI 0) (vI 0) (vI 0) (vI 0) (vI 0) (vI 0) (vI 0) (vI 0) (vI 0) (vI (-1)) (vI 0) (vI 0) (vI 0) (vI 0) (vI 0) (vI 0) (vI 0) (vI 0) (vI 0) (vI 0) (vI 0) (vI 0) (vI 0) (vI 0) (vI 0) (vI 0) (vI 0) (vI 0) (vI 0) (vI 0) (vI 0) (vI 0))) f_MO_220 d_MO_match_50 h80 rfl ?_
  refine ab_if_le (tgt := 58) d_MO_match_53 (by decide) (fun c => absurd c (by decide)) (fun _ => ?_)
  refine ab_iconst (v := 0) d_MO_match_56 (by decide) ?_
  exact ab_iret (rt := .int) rfl rfl d_MO_match_57 (by rw [hQ]; exact ⟨rfl, hfr, hlen, hsl, h80⟩)
set_option maxRecDepth 100000 in
set_option maxHeartbeats 4000000 in
theorem lc_7 {X : ab_X} {d : Nat} {G : ab_G} {xs : Nat → Int32} (hlen : G.length = 149) (hsl : ab_slots G = 1890753) (h0 : G[0]? = some (ab_if 6 (xs))) (h18 : G[18]? = some (ab_ob 0 [vR 19, vR 20, vR 22, vR 30, vR 31, vR 36, vR 37, vR 46, vR 51, vR 60, vR 69, vR 70, vR 72, vR 74, vR 76, vR 78, vI 0, vI 0])) (h30 : G[30]? = some (.inl (3, 6, .inr (.inr (.inr (.inr (fun _ => none))))))) (h80 : G[80]? = some (ab_ob 12 (m_fv (vI 0) (vI 0) (vI 0) (vI 0) (vI 0) (vI 0) (vI 0) (vI 0) (vI 0) (vI 0) (vI 0) (vI 0) (vI (-1)) (vI 0) (vI 0) (vI 0) (vI 0) (vI 0) (vI 0) (vI 0) (vI 0) (vI 0) (vI 0) (vI 0) (vI 0) (vI 0) (vI 0) (vI 0) (vI 0) (vI 0) (vI 0) (vI 0) (vI 0) (vI 0) (vI 0)))) (h112 : G[112]? = some (ab_zf 6 ((fun _ => 0)))) (hd : 8 ≤ d) : ab_W X ab_LW d G 420 [some (vR 0), some (vR 18), some (vR 80), some (vR 148), some (vI 0), none, none] [] (fun o _ => o = .returned (some (vI 1))) := by
  obtain ⟨Q, hQ⟩ : ∃ z : Outcome → ab_G → Prop, z = (fun o _ => o = .returned (some (vI 1))) := ⟨_, rfl⟩
  rw [← hQ]
  have hfr : ab_fr [80, 149] G G := ab_fr.rf
  refine ab_aload_n d_LA_law_420 rfl ?_
  refine ab_aload_n d_LA_law_421 rfl ?_
  refine ab_iload d_LA_law_422 rfl ?_
  refine ab_iconst (v := 1) d_LA_law_424 (by decide) ?_
  refine ab_iadd d_LA_law_425 ?_
  refine ab_topi (y := 1) (by decide) ?_
  refine ab_iald d_LA_law_426 h0 (by unfold vp_in; decide) ?_
  refine ab_topi (y := (xs 1)) rfl ?_
  refine ab_aload_n d_LA_law_427 rfl ?_
  refine ab_iload d_LA_law_428 rfl ?_
  refine ab_iconst (v := 2) d_LA_law_430 (by decide) ?_
  refine ab_iadd d_LA_law_431 ?_
  refine ab_topi (y := 2) (by decide) ?_
  refine ab_iald d_LA_law_432 h0 (by unfold vp_in; decide) ?_
  refine ab_topi (y := (xs 2)) rfl ?_
  refine ab_aload_n d_LA_law_433 rfl ?_
  refine ab_iload d_LA_law_434 rfl ?_
  refine ab_iconst (v := 3) d_LA_law_436 (by decide) ?_
  refine ab_iadd d_LA_law_437 ?_
  refine ab_topi (y := 3) (by decide) ?_
  refine ab_iald d_LA_law_438 h0 (by unfold vp_in; decide) ?_
  refine ab_topi (y := (xs 3)) rfl ?_
  refine ab_aload_n d_LA_law_439 rfl ?_
  refine ab_iload d_LA_law_440 rfl ?_
  refine ab_iconst (v := 4) d_LA_law_442 (by decide) ?_
  refine ab_iadd d_LA_law_443 ?_
  refine ab_topi (y := 4) (by decide) ?_
  refine ab_iald d_LA_law_444 h0 (by unfold vp_in; decide) ?_
  refine ab_topi (y := (xs 4)) rfl ?_
  refine ab_aload_n d_LA_law_445 rfl ?_
  refine ab_callSW (d' := d - 1) (as := [vR 18, vI (xs 1), vI (xs 2), vI (xs 3), vI (xs 4), vR 148]) (st := []) (q_LA_match_0 (xs := xs) hlen hsl h18 h30 (by omega)) (fun o G2 h => ⟨_, h.1⟩) (by omega) m_LA_match mw_LA_73 st_LA_match (Nat.le_of_ble_eq_true rfl) d_LA_law_446 rfl ?_
  intro v G1 hq
  obtain ⟨hv, hfk, hlen, hsl, h149⟩ := hq
  cases hv
  have h0 := hfk.get (by decide) h0
  have h18 := hfk.get (by decide) h18
  have h30 := hfk.get (by decide) h30
  have h80 := hfk.get (by decide) h80
  have h112 := hfk.get (by decide) h112
  have hfr := hfr.cl hfk (by decide)
  change ab_W _ _ _ G1 449 [some (vR 0), some (vR 18), some (vR 80), some (vR 148), some (vI 0), none, none] [vI 1] _
  refine ab_istore d_LA_law_449 (Nat.le_of_ble_eq_true rfl) (Nat.le_of_ble_eq_true rfl) rfl ?_
  change ab_W _ _ _ G1 451 [some (vR 0), some (vR 18), some (vR 80), some (vR 148), some (vI 0), some (vI 1), none] [] _
  refine ab_aload_n d_LA_law_451 rfl ?_
  refine ab_aload_n d_LA_law_452 rfl ?_
  refine ab_iload d_LA_law_453 rfl ?_
  refine ab_iconst (v := 1) d_LA_law_455 (by decide) ?_
  refine ab_iadd d_LA_law_456 ?_
  refine ab_topi (y := 1) (by decide) ?_
  refine ab_iald d_LA_law_457 h0 (by unfold vp_in; decide) ?_
  refine ab_topi (y := (xs 1)) rfl ?_
  refine ab_aload_n d_LA_law_458 rfl ?_
  refine ab_iload d_LA_law_459 rfl ?_
  refine ab_iconst (v := 2) d_LA_law_461 (by decide) ?_
  refine ab_iadd d_LA_law_462 ?_
  refine ab_topi (y := 2) (by decide) ?_
  refine ab_iald d_LA_law_463 h0 (by unfold vp_in; decide) ?_
  refine ab_topi (y := (xs 2)) rfl ?_
  refine ab_aload_n d_LA_law_464 rfl ?_
  refine ab_iload d_LA_law_465 rfl ?_
  refine ab_iconst (v := 3) d_LA_law_467 (by decide) ?_
  refine ab_iadd d_LA_law_468 ?_
  refine ab_topi (y := 3) (by decide) ?_
  refine ab_iald d_LA_law_469 h0 (by unfold vp_in; decide) ?_
  refine ab_topi (y := (xs 3)) rfl ?_
  refine ab_aload_n d_LA_law_470 rfl ?_
  refine ab_iload d_LA_law_471 rfl ?_
  refine ab_iconst (v := 4) d_LA_law_473 (by decide) ?_
  refine ab_iadd d_LA_law_474 ?_
  refine ab_topi (y := 4) (by decide) ?_
  refine ab_iald d_LA_law_475 h0 (by unfold vp_in; decide) ?_
  refine ab_topi (y := (xs 4)) rfl ?_
  refine ab_callV (d' := d - 1) (as := [vI (xs 1), vI (xs 2), vI (xs 3), vI (xs 4)]) (st := []) (r := _) (q_MO_match_0 (xs := xs) hlen hsl h80 h112 (by omega)) (fun o G2 h => ⟨_, h.1⟩) (by omega) m_MO_match ml_LA_76 im_MO_match se_MO_match c_MO h80 (Nat.le_of_ble_eq_true rfl) d_LA_law_476 rfl ?_
  intro v G2 hq
  obtain ⟨hv, hfk, hlen, hsl, h80⟩ := hq
  cases hv
  have h0 := hfk.get (by decide) h0
  have h18 := hfk.get (by decide) h18
  have h30 := hfk.get (by decide) h30
  have h112 := hfk.get (by decide) h112
  have h149 := hfk.get (by decide) h149
  have hfr := hfr.cl hfk (by decide)
  change ab_W _ _ _ G2 479 [some (vR 0), some (vR 18), some (vR 80), some (vR 148), some (vI 0), some (vI 1), none] [vI 0] _
  refine ab_istore d_LA_law_479 (Nat.le_of_ble_eq_true rfl) (Nat.le_of_ble_eq_true rfl) rfl ?_
  change ab_W _ _ _ G2 481 [some (vR 0), some (vR 18), some (vR 80), some (vR 148), some (vI 0), some (vI 1), some (vI 0)] [] _
  refine ab_aload_n d_LA_law_481 rfl ?_
  refine ab_callV (d' := d - 1) (as := []) (st := []) (r := _) (q_MO_thrown_0  hlen hsl h80) (fun o G2 h => ⟨_, h.1⟩) (by omega) m_MO_thrown ml_LA_52 im_MO_thrown se_MO_thrown c_MO h80 (Nat.le_of_ble_eq_true rfl) d_LA_law_482 rfl ?_
  intro v G3 hq
  obtain ⟨hv, hfk, hlen, hsl⟩ := hq
  cases hv
  have h0 := hfk.get (by decide) h0
  have h18 := hfk.get (by decide) h18
  have h30 := hfk.get (by decide) h30
  have h80 := hfk.get (by decide) h80
  have h112 := hfk.get (by decide) h112
  have h149 := hfk.get (by decide) h149
  have hfr := hfr.cl hfk (by decide)
  change ab_W _ _ _ G3 485 [some (vR 0), some (vR 18), some (vR 80), some (vR 148), some (vI 0), some (vI 1), some (vI 0)] [vI 1] _
  refine ab_iload d_LA_law_485 rfl ?_
  refine ab_icmp_eq (tgt := 492) d_LA_law_487 (by decide) (fun _ => ?_) (fun c => absurd c (by decide))
  refine ab_iload d_LA_law_492 rfl ?_
  refine ab_if_ne (tgt := 509) d_LA_law_494 (by decide) (fun _ => ?_) (fun c => absurd c (by decide))
  refine ab_goto (tgt := 931) d_LA_law_509 (by decide) ?_
  refine ab_iinc (v := 6) d_LA_law_931 rfl (by decide) (Nat.le_of_ble_eq_true rfl) (Nat.le_of_ble_eq_true rfl) rfl ?_
  change ab_W _ _ _ G3 934 [some (vR 0), some (vR 18), some (vR 80), some (vR 148), some (vI 6), some (vI 1), some (vI 0)] [] _
  refine ab_goto (tgt := 23) d_LA_law_934 (by decide) ?_
  refine ab_iload d_LA_law_23 rfl ?_
  refine ab_aload_n d_LA_law_25 rfl ?_
  refine ab_alen (v := 6) d_LA_law_26 h0 (by first | decide | rfl) ?_
  refine ab_bipush (v := 6) d_LA_law_27 (by decide) ?_
  refine ab_isub d_LA_law_29 ?_
  refine ab_topi (y := 0) (by decide) ?_
  refine ab_icmp_gt (tgt := 937) d_LA_law_30 (by decide) (fun _ => ?_) (fun c => absurd c (by decide))
  refine ab_iconst (v := 1) d_LA_law_937 (by decide) ?_
  exact ab_iret (rt := .boolean) rfl (by decide) d_LA_law_938 (by rw [hQ])
set_option maxRecDepth 100000 in
set_option maxHeartbeats 4000000 in
theorem q_PW_group_0 {X : ab_X} {d : Nat} {G : ab_G} {xs : Nat → Int32} (hlen : G.length = 149) (hsl : ab_slots G = 1890753) (h18 : G[18]? = some (ab_ob 0 [vR 19, vR 20, vR 22, vR 30, vR 31, vR 36, vR 37, vR 46, vR 51, vR 60, vR 69, vR 70, vR 72, vR 74, vR 76, vR 78, vI 0, vI 0])) (h69 : G[69]? = some (ab_if 20 ((fun j => if j < 20 then (-1) else 0)))) : ab_F X d y_PW_group (.code y_PW_group b_PW_group 3 (some (.int))) [vR 18, vI (xs 1), vI (xs 2)] G (fun o G2 => o = .returned (some (vI (-1))) ∧ ab_fr [] G G2 ∧ G2.length = 149 ∧ ab_slots G2 = 1890753) := by
  refine ab_F_of (by decide +kernel) (Nat.le_of_ble_eq_true rfl) ?_
  obtain ⟨Q, hQ⟩ : ∃ z : Outcome → ab_G → Prop, z = (fun o G2 => o = .returned (some (vI (-1))) ∧ ab_fr [] G G2 ∧ G2.length = 149 ∧ ab_slots G2 = 1890753) := ⟨_, rfl⟩
  rw [← hQ]
  change ab_W X (ab_pl y_PW_group b_PW_group 3 (some (.int))) d G 0 [some (vR 18), some (vI (xs 1)), some (vI (xs 2))] [] Q
  have hfr : ab_fr [] G G := ab_fr.rf
  refine ab_iload_n d_PW_group_0 rfl ?_
  refine ab_if_lt (tgt := 19) d_PW_group_1 (by decide) (fun c0 => ?_) (fun c0 => ?_)
  · refine ab_iconst (v := (-1)) d_PW_group_19 (by decide) ?_
    exact ab_iret (rt := .int) rfl rfl d_PW_group_20 (by rw [hQ]; exact ⟨rfl, hfr, hlen, hsl⟩)
  · refine ab_iload_n d_PW_group_4 rfl ?_
    refine ab_bipush (v := 9) d_PW_group_5 (by decide) ?_
    refine ab_icmp_gt (tgt := 19) d_PW_group_7 (by decide) (fun c1 => ?_) (fun c1 => ?_)
    · refine ab_iconst (v := (-1)) d_PW_group_19 (by decide) ?_
      exact ab_iret (rt := .int) rfl rfl d_PW_group_20 (by rw [hQ]; exact ⟨rfl, hfr, hlen, hsl⟩)
    · refine ab_iload_n d_PW_group_10 rfl ?_
      refine ab_if_lt (tgt := 19) d_PW_group_11 (by decide) (fun c2 => ?_) (fun c2 => ?_)
      · refine ab_iconst (v := (-1)) d_PW_group_19 (by decide) ?_
        exact ab_iret (rt := .int) rfl rfl d_PW_group_20 (by rw [hQ]; exact ⟨rfl, hfr, hlen, hsl⟩)
      · refine ab_iload_n d_PW_group_14 rfl ?_
        refine ab_iconst (v := 1) d_PW_group_15 (by decide) ?_
        refine ab_icmp_le (tgt := 21) d_PW_group_16 (by decide) (fun c3 => ?_) (fun c3 => ?_)
        · refine ab_aload_n d_PW_group_21 rfl ?_
          refine ab_getf (fs := [vR 19, vR 20, vR 22, vR 30, vR 31, vR 36, vR 37, vR 46, vR 51, vR 60, vR 69, vR 70, vR 72, vR 74, vR 76, vR 78, vI 0, vI 0]) f_PW_73 d_PW_group_22 h18 rfl ?_
          refine ab_iconst (v := 2) d_PW_group_25 (by decide) ?_
          refine ab_iload_n d_PW_group_26 rfl ?_
          refine ab_imul d_PW_group_27 ?_
          refine ab_iload_n d_PW_group_28 rfl ?_
          refine ab_iadd d_PW_group_29 ?_
          refine ab_iald d_PW_group_30 h69 (vp_in_iff.mpr (by have l0 := (show (0 : Int32).toInt = 0 by decide); have l1 := (show (1 : Int32).toInt = 1 by decide); have l2 := (show (2 : Int32).toInt = 2 by decide); have l3 := (show (9 : Int32).toInt = 9 by decide); simp only [Int32.le_iff_toInt_le, Int32.lt_iff_toInt_lt, ← Int32.toInt_inj] at c0 c1 c2 c3; have e0 : Int32.toInt (2 * (xs 1)) = Int32.toInt 2 * Int32.toInt (xs 1) := i32_mul (by simp only [l0, l1, l2, l3]; omega) (by simp only [l0, l1, l2, l3]; omega); have e1 : Int32.toInt ((2 * (xs 1)) + (xs 2)) = Int32.toInt (2 * (xs 1)) + Int32.toInt (xs 2) := i32_add (by simp only [l0, l1, l2, l3, e0]; omega) (by simp only [l0, l1, l2, l3, e0]; omega); (try simp only [l0, l1, l2, l3] at e0 e1); constructor <;> omega)) ?_
          refine ab_topi (y := (-1)) (if_pos (by rw [← Int32.toNat_toInt]; have l0 := (show (0 : Int32).toInt = 0 by decide); have l1 := (show (1 : Int32).toInt = 1 by decide); have l2 := (show (2 : Int32).toInt = 2 by decide); have l3 := (show (9 : Int32).toInt = 9 by decide); simp only [Int32.le_iff_toInt_le, Int32.lt_iff_toInt_lt, ← Int32.toInt_inj] at c0 c1 c2 c3; have e0 : Int32.toInt (2 * (xs 1)) = Int32.toInt 2 * Int32.toInt (xs 1) := i32_mul (by simp only [l0, l1, l2, l3]; omega) (by simp only [l0, l1, l2, l3]; omega); have e1 : Int32.toInt ((2 * (xs 1)) + (xs 2)) = Int32.toInt (2 * (xs 1)) + Int32.toInt (xs 2) := i32_add (by simp only [l0, l1, l2, l3, e0]; omega) (by simp only [l0, l1, l2, l3, e0]; omega); (try simp only [l0, l1, l2, l3] at e0 e1); omega)) ?_
          exact ab_iret (rt := .int) rfl rfl d_PW_group_31 (by rw [hQ]; exact ⟨rfl, hfr, hlen, hsl⟩)
        · refine ab_iconst (v := (-1)) d_PW_group_19 (by decide) ?_
          exact ab_iret (rt := .int) rfl rfl d_PW_group_20 (by rw [hQ]; exact ⟨rfl, hfr, hlen, hsl⟩)
set_option maxRecDepth 100000 in
set_option maxHeartbeats 4000000 in
theorem q_MO_group_0 {X : ab_X} {d : Nat} {G : ab_G} {xs : Nat → Int32} (hlen : G.length = 149) (hsl : ab_slots G = 1890753) (h80 : G[80]? = some (ab_ob 12 (m_fv (vI 0) (vI 0) (vI 0) (vI 0) (vI 0) (vI 0) (vI 0) (vI 0) (vI 0) (vI 0) (vI 0) (vI 0) (vI (-1)) (vI 0) (vI 0) (vI 0) (vI 0) (vI 0) (vI 0) (vI 0) (vI 0) (vI 0) (vI 0) (vI 0) (vI 0) (vI 0) (vI 0) (vI 0) (vI 0) (vI 0) (vI 0) (vI 0) (vI 0) (vI 0) (vI 0)))) : ab_F X d y_MO_group (.code y_MO_group b_MO_group 3 (some (.int))) [vR 80, vI (xs 1), vI (xs 2)] G (fun o G2 => o = .returned (some (vI (-1))) ∧ ab_fr [80] G G2 ∧ G2.length = 149 ∧ ab_slots G2 = 1890753 ∧ G2[80]? = some (ab_ob 12 (m_fv (vI 0) (vI 0) (vI 0) (vI 0) (vI 0) (vI 0) (vI 0) (vI 0) (vI 0) (vI 0) (vI 0) (vI 0) (vI (-1)) (vI 0) (vI 0) (vI 0) (vI 0) (vI 0) (vI 0) (vI 0) (vI 0) (vI 0) (vI 0) (vI 0) (vI 0) (vI 0) (vI 0) (vI 0) (vI 0) (vI 0) (vI 0) (vI 0) (vI 0) (vI 0) (vI 0)))) := by
  refine ab_F_of (by decide +kernel) (Nat.le_of_ble_eq_true rfl) ?_
  obtain ⟨Q, hQ⟩ : ∃ z : Outcome → ab_G → Prop, z = (fun o G2 => o = .returned (some (vI (-1))) ∧ ab_fr [80] G G2 ∧ G2.length = 149 ∧ ab_slots G2 = 1890753 ∧ G2[80]? = some (ab_ob 12 (m_fv (vI 0) (vI 0) (vI 0) (vI 0) (vI 0) (vI 0) (vI 0) (vI 0) (vI 0) (vI 0) (vI 0) (vI 0) (vI (-1)) (vI 0) (vI 0) (vI 0) (vI 0) (vI 0) (vI 0) (vI 0) (vI 0) (vI 0) (vI 0) (vI 0) (vI 0) (vI 0) (vI 0) (vI 0) (vI 0) (vI 0) (vI 0) (vI 0) (vI 0) (vI 0) (vI 0)))) := ⟨_, rfl⟩
  rw [← hQ]
  change ab_W X (ab_pl y_MO_group b_MO_group 3 (some (.int))) d G 0 [some (vR 80), some (vI (xs 1)), some (vI (xs 2))] [] Q
  have hfr : ab_fr [80] G G := ab_fr.rf
  refine ab_aload_n d_MO_group_0 rfl ?_
  refine ab_iconst (v := 0) d_MO_group_1 (by decide) ?_
  refine ab_putf (fs := (m_fv (vI 0) (vI 0) (vI 0) (vI 0) (vI 0) (vI 0) (vI 0) (vI 0) (vI 0) (vI 0) (vI 0) (vI 0) (vI (-1)) (vI 0) (vI 0) (vI 0) (vI 0) (vI 0) (vI 0) (vI 0) (vI 0) (vI 0) (vI 0) (vI 0) (vI 0) (vI 0) (vI 0) (vI 0) (vI 0) (vI 0) (vI 0) (vI 0) (vI 0) (vI 0) (vI 0))) f_MO_220 (Or.inl rfl) d_MO_group_2 h80 (Nat.le_of_ble_eq_true rfl) (fun _ => ⟨rfl, rfl⟩) (by decide) ?_
  obtain ⟨G1, eG1⟩ : ∃ z : ab_G, z = List.set G 80 (ab_ob 12 (m_fv (vI 0) (vI 0) (vI 0) (vI 0) (vI 0) (vI 0) (vI 0) (vI 0) (vI 0) (vI 0) (vI 0) (vI 0) (vI (-1)) (vI 0) (vI 0) (vI 0) (vI 0) (vI 0) (vI 0) (vI 0) (vI 0) (vI 0) (vI 0) (vI 0) (vI 0) (vI 0) (vI 0) (vI 0) (vI 0) (vI 0) (vI 0) (vI 0) (vI 0) (vI 0) (vI 0))) := ⟨_, rfl⟩
  have hlen := ab_klen eG1 hlen
  have hsl := ab_ksl 102 eG1 h80 rfl rfl hsl
  have hfr := hfr.wr eG1 (by decide)
  have h80 := ab_kept eG1 h80
  change ab_W _ _ _ (List.set G 80 (ab_ob 12 (m_fv (vI 0) (vI 0) (vI 0) (vI 0) (vI 0) (vI 0) (vI 0) (vI 0) (vI 0) (vI 0) (vI 0) (vI 0) (vI (-1)) (vI 0) (vI 0) (vI 0) (vI 0) (vI 0) (vI 0) (vI 0) (vI 0) (vI 0) (vI 0) (vI 0) (vI 0) (vI 0) (vI 0) (vI 0) (vI 0) (vI 0) (vI 0) (vI 0) (vI 0) (vI 0) (vI 0)))) 5 [some (vR 80), some (vI (xs 1)), some (vI (xs 2))] [] _
  rw [← eG1]
  refine ab_aload_n d_MO_group_5 rfl ?_
  refine ab_getf (fs := (m_fv (vI 0) (vI 0) (vI 0) (vI 0) (vI 0) (vI 0) (vI 0) (vI 0) (vI 0) (vI 0) (vI 0) (vI 0) (vI (-1)) (vI 0) (vI 0) (vI 0) (vI 0) (vI 0) (vI 0) (vI 0) (vI 0) (vI 0) (vI 0) (vI 0) (vI 0) (vI 0) (vI 0) (vI 0) (vI 0) (vI 0) (vI 0) (vI 0) (vI 0) (vI 0) (vI 0))) f_MO_563 d_MO_group_6 h80 rfl ?_
  refine ab_if_eq (tgt := 33) d_MO_group_9 (by decide) (fun _ => ?_) (fun c => absurd c (by decide))
  refine ab_iconst (v := (-1)) d_MO_group_33 (by decide) ?_
  refine ab_goto (tgt := 47) d_MO_group_34 (by decide) ?_
  exact ab_iret (rt := .int) rfl rfl d_MO_group_47 (by rw [hQ]; exact ⟨rfl, hfr, hlen, hsl, h80⟩)
set_option maxRecDepth 100000 in
set_option maxHeartbeats 4000000 in
theorem lc_8 {X : ab_X} {d : Nat} {G : ab_G} {xs : Nat → Int32} (hlen : G.length = 149) (hsl : ab_slots G = 1890753) (h0 : G[0]? = some (ab_if 6 (xs))) (h18 : G[18]? = some (ab_ob 0 [vR 19, vR 20, vR 22, vR 30, vR 31, vR 36, vR 37, vR 46, vR 51, vR 60, vR 69, vR 70, vR 72, vR 74, vR 76, vR 78, vI 0, vI 0])) (h69 : G[69]? = some (ab_if 20 ((fun j => if j < 20 then (-1) else 0)))) (h80 : G[80]? = some (ab_ob 12 (m_fv (vI 0) (vI 0) (vI 0) (vI 0) (vI 0) (vI 0) (vI 0) (vI 0) (vI 0) (vI 0) (vI 0) (vI 0) (vI (-1)) (vI 0) (vI 0) (vI 0) (vI 0) (vI 0) (vI 0) (vI 0) (vI 0) (vI 0) (vI 0) (vI 0) (vI 0) (vI 0) (vI 0) (vI 0) (vI 0) (vI 0) (vI 0) (vI 0) (vI 0) (vI 0) (vI 0)))) (hd : 1 ≤ d) : ab_W X ab_LW d G 512 [some (vR 0), some (vR 18), some (vR 80), some (vR 148), some (vI 0), none, none] [] (fun o _ => o = .returned (some (vI 1))) := by
  obtain ⟨Q, hQ⟩ : ∃ z : Outcome → ab_G → Prop, z = (fun o _ => o = .returned (some (vI 1))) := ⟨_, rfl⟩
  rw [← hQ]
  have hfr : ab_fr [80] G G := ab_fr.rf
  refine ab_aload_n d_LA_law_512 rfl ?_
  refine ab_aload_n d_LA_law_513 rfl ?_
  refine ab_iload d_LA_law_514 rfl ?_
  refine ab_iconst (v := 1) d_LA_law_516 (by decide) ?_
  refine ab_iadd d_LA_law_517 ?_
  refine ab_topi (y := 1) (by decide) ?_
  refine ab_iald d_LA_law_518 h0 (by unfold vp_in; decide) ?_
  refine ab_topi (y := (xs 1)) rfl ?_
  refine ab_aload_n d_LA_law_519 rfl ?_
  refine ab_iload d_LA_law_520 rfl ?_
  refine ab_iconst (v := 2) d_LA_law_522 (by decide) ?_
  refine ab_iadd d_LA_law_523 ?_
  refine ab_topi (y := 2) (by decide) ?_
  refine ab_iald d_LA_law_524 h0 (by unfold vp_in; decide) ?_
  refine ab_topi (y := (xs 2)) rfl ?_
  refine ab_callV (d' := d - 1) (as := [vI (xs 1), vI (xs 2)]) (st := []) (r := _) (q_PW_group_0 (xs := xs) hlen hsl h18 h69) (fun o G2 h => ⟨_, h.1⟩) (by omega) m_PW_group ml_LA_77 im_PW_group se_PW_group c_PW h18 (Nat.le_of_ble_eq_true rfl) d_LA_law_525 rfl ?_
  intro v G1 hq
  obtain ⟨hv, hfk, hlen, hsl⟩ := hq
  cases hv
  have h0 := hfk.get (by decide) h0
  have h18 := hfk.get (by decide) h18
  have h69 := hfk.get (by decide) h69
  have h80 := hfk.get (by decide) h80
  have hfr := hfr.cl hfk (by decide)
  change ab_W _ _ _ G1 528 [some (vR 0), some (vR 18), some (vR 80), some (vR 148), some (vI 0), none, none] [vI (-1)] _
  refine ab_aload_n d_LA_law_528 rfl ?_
  refine ab_aload_n d_LA_law_529 rfl ?_
  refine ab_iload d_LA_law_530 rfl ?_
  refine ab_iconst (v := 1) d_LA_law_532 (by decide) ?_
  refine ab_iadd d_LA_law_533 ?_
  refine ab_topi (y := 1) (by decide) ?_
  refine ab_iald d_LA_law_534 h0 (by unfold vp_in; decide) ?_
  refine ab_topi (y := (xs 1)) rfl ?_
  refine ab_aload_n d_LA_law_535 rfl ?_
  refine ab_iload d_LA_law_536 rfl ?_
  refine ab_iconst (v := 2) d_LA_law_538 (by decide) ?_
  refine ab_iadd d_LA_law_539 ?_
  refine ab_topi (y := 2) (by decide) ?_
  refine ab_iald d_LA_law_540 h0 (by unfold vp_in; decide) ?_
  refine ab_topi (y := (xs 2)) rfl ?_
  refine ab_callV (d' := d - 1) (as := [vI (xs 1), vI (xs 2)]) (st := [vI (-1)]) (r := _) (q_MO_group_0 (xs := xs) hlen hsl h80) (fun o G2 h => ⟨_, h.1⟩) (by omega) m_MO_group ml_LA_80 im_MO_group se_MO_group c_MO h80 (Nat.le_of_ble_eq_true rfl) d_LA_law_541 rfl ?_
  intro v G2 hq
  obtain ⟨hv, hfk, hlen, hsl, h80⟩ := hq
  cases hv
  have h0 := hfk.get (by decide) h0
  have h18 := hfk.get (by decide) h18
  have h69 := hfk.get (by decide) h69
  have hfr := hfr.cl hfk (by decide)
  change ab_W _ _ _ G2 544 [some (vR 0), some (vR 18), some (vR 80), some (vR 148), some (vI 0), none, none] [vI (-1), vI (-1)] _
  refine ab_icmp_eq (tgt := 931) d_LA_law_544 (by decide) (fun _ => ?_) (fun c => absurd c (by decide))
  refine ab_iinc (v := 6) d_LA_law_931 rfl (by decide) (Nat.le_of_ble_eq_true rfl) (Nat.le_of_ble_eq_true rfl) rfl ?_
  change ab_W _ _ _ G2 934 [some (vR 0), some (vR 18), some (vR 80), some (vR 148), some (vI 6), none, none] [] _
  refine ab_goto (tgt := 23) d_LA_law_934 (by decide) ?_
  refine ab_iload d_LA_law_23 rfl ?_
  refine ab_aload_n d_LA_law_25 rfl ?_
  refine ab_alen (v := 6) d_LA_law_26 h0 (by first | decide | rfl) ?_
  refine ab_bipush (v := 6) d_LA_law_27 (by decide) ?_
  refine ab_isub d_LA_law_29 ?_
  refine ab_topi (y := 0) (by decide) ?_
  refine ab_icmp_gt (tgt := 937) d_LA_law_30 (by decide) (fun _ => ?_) (fun c => absurd c (by decide))
  refine ab_iconst (v := 1) d_LA_law_937 (by decide) ?_
  exact ab_iret (rt := .boolean) rfl (by decide) d_LA_law_938 (by rw [hQ])
set_option maxRecDepth 100000 in
set_option maxHeartbeats 4000000 in
theorem q_PW_all_0 {X : ab_X} {d : Nat} {G : ab_G} {xs : Nat → Int32} (hlen : G.length = 149) (hsl : ab_slots G = 1890753) (h18 : G[18]? = some (ab_ob 0 [vR 19, vR 20, vR 22, vR 30, vR 31, vR 36, vR 37, vR 46, vR 51, vR 60, vR 69, vR 70, vR 72, vR 74, vR 76, vR 78, vI 0, vI 0])) (h30 : G[30]? = some (.inl (3, 6, .inr (.inr (.inr (.inr (fun _ => none))))))) (hd : 6 ≤ d) : ab_F X d y_PW_all (.code y_PW_all b_PW_all 5 (some (.int))) [vR 18, vI (xs 1)] G (fun o G2 => o = .threw 149 ∧ ab_fr [149] G G2 ∧ G2.length = 150 ∧ ab_slots G2 = 1890759 ∧ G2[149]? = some (ab_ob 13 [])) := by
  refine ab_F_of (by decide +kernel) (Nat.le_of_ble_eq_true rfl) ?_
  obtain ⟨Q, hQ⟩ : ∃ z : Outcome → ab_G → Prop, z = (fun o G2 => o = .threw 149 ∧ ab_fr [149] G G2 ∧ G2.length = 150 ∧ ab_slots G2 = 1890759 ∧ G2[149]? = some (ab_ob 13 [])) := ⟨_, rfl⟩
  rw [← hQ]
  change ab_W X (ab_pl y_PW_all b_PW_all 5 (some (.int))) d G 0 [some (vR 18), some (vI (xs 1)), none, none, none] [] Q
  have hfr : ab_fr [149] G G := ab_fr.rf
  refine ab_aload_n d_PW_all_0 rfl ?_
  refine ab_iload_n d_PW_all_1 rfl ?_
  refine ab_callV (d' := d - 1) (as := [vI (xs 1)]) (st := []) (r := _) (q_PW_programAt_0 (xs := xs) hlen hsl h18 h30) (fun o G2 h => ⟨_, h.1⟩) (by omega) m_PW_programAt ml_PW_148 im_PW_programAt se_PW_programAt c_PW h18 (Nat.le_of_ble_eq_true rfl) d_PW_all_2 rfl ?_
  intro v G1 hq
  obtain ⟨hv, hfk, hlen, hsl⟩ := hq
  cases hv
  have h18 := hfk.get (by decide) h18
  have h30 := hfk.get (by decide) h30
  have hfr := hfr.cl hfk (by decide)
  change ab_W _ _ _ G1 5 [some (vR 18), some (vI (xs 1)), none, none, none] [vN] _
  refine ab_astore_nN d_PW_all_5 (Nat.le_of_ble_eq_true rfl) (Nat.le_of_ble_eq_true rfl) rfl ?_
  change ab_W _ _ _ G1 6 [some (vR 18), some (vI (xs 1)), some (vN), none, none] [] _
  refine ab_aload_nN d_PW_all_6 rfl ?_
  refine ab_ifnonnullN d_PW_all_7 ?_
  refine ab_throw (tx := "no pattern there") (by decide) (fun c h => h) cl_PW_109 inst_IA ini_IA tw_PW_113 d_PW_all_10 d_PW_all_13 d_PW_all_14 d_PW_all_16 d_PW_all_19 (by omega) (by rw [hlen]; decide) (by rw [hsl]; decide) ?_
  rw [hlen]
  obtain ⟨G2, eG2⟩ : ∃ z : ab_G, z = G1 ++ [ab_ob 13 []] := ⟨_, rfl⟩
  have h18 := ab_akeep eG2 h18
  have h30 := ab_akeep eG2 h30
  have h149 := ab_anew1 eG2 hlen
  have hsl : ab_slots G2 = 1890759 := ab_asl (z := 6) eG2 hlen (by decide) hsl rfl (by decide)
  have hlen : G2.length = 150 := ab_alen1 eG2 hlen
  have hfr := hfr.ap eG2
  rw [← eG2, hQ]
  exact ⟨rfl, hfr, hlen, hsl, h149⟩
set_option maxRecDepth 100000 in
set_option maxHeartbeats 4000000 in
theorem q_LA_all_0 {X : ab_X} {d : Nat} {G : ab_G} {xs : Nat → Int32} (hlen : G.length = 149) (hsl : ab_slots G = 1890753) (h18 : G[18]? = some (ab_ob 0 [vR 19, vR 20, vR 22, vR 30, vR 31, vR 36, vR 37, vR 46, vR 51, vR 60, vR 69, vR 70, vR 72, vR 74, vR 76, vR 78, vI 0, vI 0])) (h30 : G[30]? = some (.inl (3, 6, .inr (.inr (.inr (.inr (fun _ => none))))))) (hd : 7 ≤ d) : ab_F X d y_LA_all (.codeWith y_LA_all b_LA_all 4 (some (.int)) [(0, 9, 12, 13)]) [vR 18, vI (xs 1), vR 148] G (fun o G2 => o = .returned (some (vI 1)) ∧ ab_fr [149] G G2 ∧ G2.length = 150 ∧ ab_slots G2 = 1890759 ∧ G2[149]? = some (ab_ob 13 [])) := by
  refine ab_F_ofW (by decide +kernel) (Nat.le_of_ble_eq_true rfl) ?_
  obtain ⟨Q, hQ⟩ : ∃ z : Outcome → ab_G → Prop, z = (fun o G2 => o = .returned (some (vI 1)) ∧ ab_fr [149] G G2 ∧ G2.length = 150 ∧ ab_slots G2 = 1890759 ∧ G2[149]? = some (ab_ob 13 [])) := ⟨_, rfl⟩
  rw [← hQ]
  change ab_W X (ab_plW y_LA_all b_LA_all 4 (some (.int)) [(0, 9, 12, 13)]) d G 0 [some (vR 18), some (vI (xs 1)), some (vR 148), none] [] Q
  have hfr : ab_fr [149] G G := ab_fr.rf
  refine ab_aload_n d_LA_all_0 rfl ?_
  refine ab_iconst (v := 0) d_LA_all_1 (by decide) ?_
  refine ab_aload_n d_LA_all_2 rfl ?_
  refine ab_iload_n d_LA_all_3 rfl ?_
  refine ab_callVT (d' := d - 1) (hp := 12) (ct := 13) (as := [vI (xs 1)]) (st := [vI 0, vR 148]) (q_PW_all_0 (xs := xs) hlen hsl h18 h30 (by omega)) (fun o G2 h => ⟨_, h.1, h.2.2.2.2⟩) (by omega) m_PW_all mw_LA_19 im_PW_all se_PW_all c_PW h18 (Nat.le_of_ble_eq_true rfl) d_LA_all_4 rfl (fun c hc => ab_hx hc (by decide)) (by decide) cl_LA_13 cast_IA ?_
  intro v G1 hq
  obtain ⟨hv, hfk, hlen, hsl, h149⟩ := hq
  cases hv
  have h18 := hfk.get (by decide) h18
  have h30 := hfk.get (by decide) h30
  have hfr := hfr.cl hfk (by decide)
  change ab_W _ _ _ G1 12 [some (vR 18), some (vI (xs 1)), some (vR 148), none] [vR 149] _
  refine ab_astore_n d_LA_all_12 (Nat.le_of_ble_eq_true rfl) (Nat.le_of_ble_eq_true rfl) rfl ?_
  change ab_W _ _ _ G1 13 [some (vR 18), some (vI (xs 1)), some (vR 148), some (vR 149)] [] _
  refine ab_iconst (v := 1) d_LA_all_13 (by decide) ?_
  exact ab_iret (rt := .int) rfl rfl d_LA_all_14 (by rw [hQ]; exact ⟨rfl, hfr, hlen, hsl, h149⟩)
set_option maxRecDepth 100000 in
set_option maxHeartbeats 4000000 in
theorem q_MO_all_0 {X : ab_X} {d : Nat} {G : ab_G} {xs : Nat → Int32} (hlen : G.length = 150) (hsl : ab_slots G = 1890759) (h80 : G[80]? = some (ab_ob 12 (m_fv (vI 0) (vI 0) (vI 0) (vI 0) (vI 0) (vI 0) (vI 0) (vI 0) (vI 0) (vI 0) (vI 0) (vI 0) (vI (-1)) (vI 0) (vI 0) (vI 0) (vI 0) (vI 0) (vI 0) (vI 0) (vI 0) (vI 0) (vI 0) (vI 0) (vI 0) (vI 0) (vI 0) (vI 0) (vI 0) (vI 0) (vI 0) (vI 0) (vI 0) (vI 0) (vI 0)))) (h112 : G[112]? = some (ab_zf 6 ((fun _ => 0)))) (hd : 1 ≤ d) : ab_F X d y_MO_all (.code y_MO_all b_MO_all 2 (some (.int))) [vR 80, vI (xs 1)] G (fun o G2 => o = .returned (some (vI 0)) ∧ ab_fr [80] G G2 ∧ G2.length = 150 ∧ ab_slots G2 = 1890759 ∧ G2[80]? = some (ab_ob 12 (m_fv (vI 1) (vI 0) (vI 0) (vI 0) (vI 0) (vI 0) (vI 0) (vI 0) (vI 0) (vI 0) (vI 0) (vI 0) (vI (-1)) (vI 0) (vI 0) (vI 0) (vI 0) (vI 0) (vI 0) (vI 0) (vI 0) (vI 0) (vI 0) (vI 0) (vI 0) (vI 0) (vI 0) (vI 0) (vI 0) (vI 0) (vI 0) (vI 0) (vI 0) (vI 0) (vI 0)))) := by
  refine ab_F_of (by decide +kernel) (Nat.le_of_ble_eq_true rfl) ?_
  obtain ⟨Q, hQ⟩ : ∃ z : Outcome → ab_G → Prop, z = (fun o G2 => o = .returned (some (vI 0)) ∧ ab_fr [80] G G2 ∧ G2.length = 150 ∧ ab_slots G2 = 1890759 ∧ G2[80]? = some (ab_ob 12 (m_fv (vI 1) (vI 0) (vI 0) (vI 0) (vI 0) (vI 0) (vI 0) (vI 0) (vI 0) (vI 0) (vI 0) (vI 0) (vI (-1)) (vI 0) (vI 0) (vI 0) (vI 0) (vI 0) (vI 0) (vI 0) (vI 0) (vI 0) (vI 0) (vI 0) (vI 0) (vI 0) (vI 0) (vI 0) (vI 0) (vI 0) (vI 0) (vI 0) (vI 0) (vI 0) (vI 0)))) := ⟨_, rfl⟩
  rw [← hQ]
  change ab_W X (ab_pl y_MO_all b_MO_all 2 (some (.int))) d G 0 [some (vR 80), some (vI (xs 1))] [] Q
  have hfr : ab_fr [80] G G := ab_fr.rf
  refine ab_aload_n d_MO_all_0 rfl ?_
  refine ab_aload_n d_MO_all_1 rfl ?_
  refine ab_iload_n d_MO_all_2 rfl ?_
  refine ab_callV (d' := d - 1) (as := [vI (xs 1)]) (st := [vR 80]) (r := _) (q_MO_isThere_1 (xs := xs) hlen hsl h80 h112) (fun o G2 h => ⟨_, h.1⟩) (by omega) m_MO_isThere ml_MO_507 im_MO_isThere se_MO_isThere c_MO h80 (Nat.le_of_ble_eq_true rfl) d_MO_all_3 rfl ?_
  intro v G1 hq
  obtain ⟨hv, hfk, hlen, hsl⟩ := hq
  cases hv
  have h80 := hfk.get (by decide) h80
  have h112 := hfk.get (by decide) h112
  have hfr := hfr.cl hfk (by decide)
  change ab_W _ _ _ G1 6 [some (vR 80), some (vI (xs 1))] [vI 0, vR 80] _
  refine ab_if_eq (tgt := 13) d_MO_all_6 (by decide) (fun _ => ?_) (fun c => absurd c (by decide))
  refine ab_iconst (v := 1) d_MO_all_13 (by decide) ?_
  refine ab_putf (fs := (m_fv (vI 0) (vI 0) (vI 0) (vI 0) (vI 0) (vI 0) (vI 0) (vI 0) (vI 0) (vI 0) (vI 0) (vI 0) (vI (-1)) (vI 0) (vI 0) (vI 0) (vI 0) (vI 0) (vI 0) (vI 0) (vI 0) (vI 0) (vI 0) (vI 0) (vI 0) (vI 0) (vI 0) (vI 0) (vI 0) (vI 0) (vI 0) (vI 0) (vI 0) (vI 0) (vI 0))) f_MO_220 (Or.inl rfl) d_MO_all_14 h80 (Nat.le_of_ble_eq_true rfl) (fun _ => ⟨rfl, rfl⟩) (by decide) ?_
  obtain ⟨G2, eG2⟩ : ∃ z : ab_G, z = List.set G1 80 (ab_ob 12 (m_fv (vI 1) (vI 0) (vI 0) (vI 0) (vI 0) (vI 0) (vI 0) (vI 0) (vI 0) (vI 0) (vI 0) (vI 0) (vI (-1)) (vI 0) (vI 0) (vI 0) (vI 0) (vI 0) (vI 0) (vI 0) (vI 0) (vI 0) (vI 0) (vI 0) (vI 0) (vI 0) (vI 0) (vI 0) (vI 0) (vI 0) (vI 0) (vI 0) (vI 0) (vI 0) (vI 0))) := ⟨_, rfl⟩
  have h112 := ab_keep eG2 (by decide) h112
  have hlen := ab_klen eG2 hlen
  have hsl := ab_ksl 102 eG2 h80 rfl rfl hsl
  have hfr := hfr.wr eG2 (by decide)
  have h80 := ab_kept eG2 h80
  change ab_W _ _ _ (List.set G1 80 (ab_ob 12 (m_fv (vI 1) (vI 0) (vI 0) (vI 0) (vI 0) (vI 0) (vI 0) (vI 0) (vI 0) (vI 0) (vI 0) (vI 0) (vI (-1)) (vI 0) (vI 0) (vI 0) (vI 0) (vI 0) (vI 0) (vI 0) (vI 0) (vI 0) (vI 0) (vI 0) (vI 0) (vI 0) (vI 0) (vI 0) (vI 0) (vI 0) (vI 0) (vI 0) (vI 0) (vI 0) (vI 0)))) 17 [some (vR 80), some (vI (xs 1))] [] _
  rw [← eG2]
  refine ab_aload_n d_MO_all_17 rfl ?_
  refine ab_getf (fs := (m_fv (vI 1) (vI 0) (vI 0) (vI 0) (vI 0) (vI 0) (vI 0) (vI 0) (vI 0) (vI 0) (vI 0) (vI 0) (vI (-1)) (vI 0) (vI 0) (vI 0) (vI 0) (vI 0) (vI 0) (vI 0) (vI 0) (vI 0) (vI 0) (vI 0) (vI 0) (vI 0) (vI 0) (vI 0) (vI 0) (vI 0) (vI 0) (vI 0) (vI 0) (vI 0) (vI 0))) f_MO_220 d_MO_all_18 h80 rfl ?_
  refine ab_if_le (tgt := 26) d_MO_all_21 (by decide) (fun c => absurd c (by decide)) (fun _ => ?_)
  refine ab_iconst (v := 0) d_MO_all_24 (by decide) ?_
  exact ab_iret (rt := .int) rfl rfl d_MO_all_25 (by rw [hQ]; exact ⟨rfl, hfr, hlen, hsl, h80⟩)
set_option maxRecDepth 100000 in
set_option maxHeartbeats 4000000 in
theorem lc_9 {X : ab_X} {d : Nat} {G : ab_G} {xs : Nat → Int32} (hlen : G.length = 149) (hsl : ab_slots G = 1890753) (h0 : G[0]? = some (ab_if 6 (xs))) (h18 : G[18]? = some (ab_ob 0 [vR 19, vR 20, vR 22, vR 30, vR 31, vR 36, vR 37, vR 46, vR 51, vR 60, vR 69, vR 70, vR 72, vR 74, vR 76, vR 78, vI 0, vI 0])) (h30 : G[30]? = some (.inl (3, 6, .inr (.inr (.inr (.inr (fun _ => none))))))) (h80 : G[80]? = some (ab_ob 12 (m_fv (vI 0) (vI 0) (vI 0) (vI 0) (vI 0) (vI 0) (vI 0) (vI 0) (vI 0) (vI 0) (vI 0) (vI 0) (vI (-1)) (vI 0) (vI 0) (vI 0) (vI 0) (vI 0) (vI 0) (vI 0) (vI 0) (vI 0) (vI 0) (vI 0) (vI 0) (vI 0) (vI 0) (vI 0) (vI 0) (vI 0) (vI 0) (vI 0) (vI 0) (vI 0) (vI 0)))) (h112 : G[112]? = some (ab_zf 6 ((fun _ => 0)))) (hd : 8 ≤ d) : ab_W X ab_LW d G 549 [some (vR 0), some (vR 18), some (vR 80), some (vR 148), some (vI 0), none, none] [] (fun o _ => o = .returned (some (vI 1))) := by
  obtain ⟨Q, hQ⟩ : ∃ z : Outcome → ab_G → Prop, z = (fun o _ => o = .returned (some (vI 1))) := ⟨_, rfl⟩
  rw [← hQ]
  have hfr : ab_fr [80, 149] G G := ab_fr.rf
  refine ab_aload_n d_LA_law_549 rfl ?_
  refine ab_aload_n d_LA_law_550 rfl ?_
  refine ab_iload d_LA_law_551 rfl ?_
  refine ab_iconst (v := 1) d_LA_law_553 (by decide) ?_
  refine ab_iadd d_LA_law_554 ?_
  refine ab_topi (y := 1) (by decide) ?_
  refine ab_iald d_LA_law_555 h0 (by unfold vp_in; decide) ?_
  refine ab_topi (y := (xs 1)) rfl ?_
  refine ab_aload_n d_LA_law_556 rfl ?_
  refine ab_callSW (d' := d - 1) (as := [vR 18, vI (xs 1), vR 148]) (st := []) (q_LA_all_0 (xs := xs) hlen hsl h18 h30 (by omega)) (fun o G2 h => ⟨_, h.1⟩) (by omega) m_LA_all mw_LA_81 st_LA_all (Nat.le_of_ble_eq_true rfl) d_LA_law_557 rfl ?_
  intro v G1 hq
  obtain ⟨hv, hfk, hlen, hsl, h149⟩ := hq
  cases hv
  have h0 := hfk.get (by decide) h0
  have h18 := hfk.get (by decide) h18
  have h30 := hfk.get (by decide) h30
  have h80 := hfk.get (by decide) h80
  have h112 := hfk.get (by decide) h112
  have hfr := hfr.cl hfk (by decide)
  change ab_W _ _ _ G1 560 [some (vR 0), some (vR 18), some (vR 80), some (vR 148), some (vI 0), none, none] [vI 1] _
  refine ab_istore d_LA_law_560 (Nat.le_of_ble_eq_true rfl) (Nat.le_of_ble_eq_true rfl) rfl ?_
  change ab_W _ _ _ G1 562 [some (vR 0), some (vR 18), some (vR 80), some (vR 148), some (vI 0), some (vI 1), none] [] _
  refine ab_aload_n d_LA_law_562 rfl ?_
  refine ab_aload_n d_LA_law_563 rfl ?_
  refine ab_iload d_LA_law_564 rfl ?_
  refine ab_iconst (v := 1) d_LA_law_566 (by decide) ?_
  refine ab_iadd d_LA_law_567 ?_
  refine ab_topi (y := 1) (by decide) ?_
  refine ab_iald d_LA_law_568 h0 (by unfold vp_in; decide) ?_
  refine ab_topi (y := (xs 1)) rfl ?_
  refine ab_callV (d' := d - 1) (as := [vI (xs 1)]) (st := []) (r := _) (q_MO_all_0 (xs := xs) hlen hsl h80 h112 (by omega)) (fun o G2 h => ⟨_, h.1⟩) (by omega) m_MO_all ml_LA_84 im_MO_all se_MO_all c_MO h80 (Nat.le_of_ble_eq_true rfl) d_LA_law_569 rfl ?_
  intro v G2 hq
  obtain ⟨hv, hfk, hlen, hsl, h80⟩ := hq
  cases hv
  have h0 := hfk.get (by decide) h0
  have h18 := hfk.get (by decide) h18
  have h30 := hfk.get (by decide) h30
  have h112 := hfk.get (by decide) h112
  have h149 := hfk.get (by decide) h149
  have hfr := hfr.cl hfk (by decide)
  change ab_W _ _ _ G2 572 [some (vR 0), some (vR 18), some (vR 80), some (vR 148), some (vI 0), some (vI 1), none] [vI 0] _
  refine ab_istore d_LA_law_572 (Nat.le_of_ble_eq_true rfl) (Nat.le_of_ble_eq_true rfl) rfl ?_
  change ab_W _ _ _ G2 574 [some (vR 0), some (vR 18), some (vR 80), some (vR 148), some (vI 0), some (vI 1), some (vI 0)] [] _
  refine ab_aload_n d_LA_law_574 rfl ?_
  refine ab_callV (d' := d - 1) (as := []) (st := []) (r := _) (q_MO_thrown_0  hlen hsl h80) (fun o G2 h => ⟨_, h.1⟩) (by omega) m_MO_thrown ml_LA_52 im_MO_thrown se_MO_thrown c_MO h80 (Nat.le_of_ble_eq_true rfl) d_LA_law_575 rfl ?_
  intro v G3 hq
  obtain ⟨hv, hfk, hlen, hsl⟩ := hq
  cases hv
  have h0 := hfk.get (by decide) h0
  have h18 := hfk.get (by decide) h18
  have h30 := hfk.get (by decide) h30
  have h80 := hfk.get (by decide) h80
  have h112 := hfk.get (by decide) h112
  have h149 := hfk.get (by decide) h149
  have hfr := hfr.cl hfk (by decide)
  change ab_W _ _ _ G3 578 [some (vR 0), some (vR 18), some (vR 80), some (vR 148), some (vI 0), some (vI 1), some (vI 0)] [vI 1] _
  refine ab_iload d_LA_law_578 rfl ?_
  refine ab_icmp_eq (tgt := 585) d_LA_law_580 (by decide) (fun _ => ?_) (fun c => absurd c (by decide))
  refine ab_iload d_LA_law_585 rfl ?_
  refine ab_if_ne (tgt := 602) d_LA_law_587 (by decide) (fun _ => ?_) (fun c => absurd c (by decide))
  refine ab_goto (tgt := 931) d_LA_law_602 (by decide) ?_
  refine ab_iinc (v := 6) d_LA_law_931 rfl (by decide) (Nat.le_of_ble_eq_true rfl) (Nat.le_of_ble_eq_true rfl) rfl ?_
  change ab_W _ _ _ G3 934 [some (vR 0), some (vR 18), some (vR 80), some (vR 148), some (vI 6), some (vI 1), some (vI 0)] [] _
  refine ab_goto (tgt := 23) d_LA_law_934 (by decide) ?_
  refine ab_iload d_LA_law_23 rfl ?_
  refine ab_aload_n d_LA_law_25 rfl ?_
  refine ab_alen (v := 6) d_LA_law_26 h0 (by first | decide | rfl) ?_
  refine ab_bipush (v := 6) d_LA_law_27 (by decide) ?_
  refine ab_isub d_LA_law_29 ?_
  refine ab_topi (y := 0) (by decide) ?_
  refine ab_icmp_gt (tgt := 937) d_LA_law_30 (by decide) (fun _ => ?_) (fun c => absurd c (by decide))
  refine ab_iconst (v := 1) d_LA_law_937 (by decide) ?_
  exact ab_iret (rt := .boolean) rfl (by decide) d_LA_law_938 (by rw [hQ])
set_option maxRecDepth 100000 in
set_option maxHeartbeats 4000000 in
theorem q_PW_pairAt_0 {X : ab_X} {d : Nat} {G : ab_G} {xs : Nat → Int32} (hlen : G.length = 149) (hsl : ab_slots G = 1890753) (h70 : G[70]? = some (ab_ob 7 [vI 4002, vR 71, vI 0])) : ab_F X d y_PW_pairAt (.code y_PW_pairAt b_PW_pairAt 4 (some (.int))) [vR 70, vI (xs 1), vI (xs 2)] G (fun o G2 => o = .returned (some (vI (-1))) ∧ ab_fr [] G G2 ∧ G2.length = 149 ∧ ab_slots G2 = 1890753) := by
  refine ab_F_of (by decide +kernel) (Nat.le_of_ble_eq_true rfl) ?_
  obtain ⟨Q, hQ⟩ : ∃ z : Outcome → ab_G → Prop, z = (fun o G2 => o = .returned (some (vI (-1))) ∧ ab_fr [] G G2 ∧ G2.length = 149 ∧ ab_slots G2 = 1890753) := ⟨_, rfl⟩
  rw [← hQ]
  change ab_W X (ab_pl y_PW_pairAt b_PW_pairAt 4 (some (.int))) d G 0 [some (vR 70), some (vI (xs 1)), some (vI (xs 2)), none] [] Q
  have hfr : ab_fr [] G G := ab_fr.rf
  refine ab_iload_n d_PW_pairAt_0 rfl ?_
  refine ab_if_lt (tgt := 27) d_PW_pairAt_1 (by decide) (fun c0 => ?_) (fun c0 => ?_)
  · refine ab_iconst (v := 0) d_PW_pairAt_27 (by decide) ?_
    refine ab_istore_n d_PW_pairAt_28 (Nat.le_of_ble_eq_true rfl) (Nat.le_of_ble_eq_true rfl) rfl ?_
    change ab_W _ _ _ G 29 [some (vR 70), some (vI (xs 1)), some (vI (xs 2)), some (vI 0)] [] _
    refine ab_iload_n d_PW_pairAt_29 rfl ?_
    refine ab_if_eq (tgt := 45) d_PW_pairAt_30 (by decide) (fun _ => ?_) (fun c => absurd c (by decide))
    refine ab_iconst (v := (-1)) d_PW_pairAt_45 (by decide) ?_
    exact ab_iret (rt := .int) rfl rfl d_PW_pairAt_46 (by rw [hQ]; exact ⟨rfl, hfr, hlen, hsl⟩)
  · refine ab_iload_n d_PW_pairAt_4 rfl ?_
    refine ab_aload_n d_PW_pairAt_5 rfl ?_
    refine ab_getf (fs := [vI 4002, vR 71, vI 0]) f_PW_101 d_PW_pairAt_6 h70 rfl ?_
    refine ab_iconst (v := 2) d_PW_pairAt_9 (by decide) ?_
    refine ab_idiv d_PW_pairAt_10 (by decide) ?_
    refine ab_topi (y := 0) (by decide) ?_
    refine ab_icmp_ge (tgt := 27) d_PW_pairAt_11 (by decide) (fun c1 => ?_) (fun c1 => ?_)
    · refine ab_iconst (v := 0) d_PW_pairAt_27 (by decide) ?_
      refine ab_istore_n d_PW_pairAt_28 (Nat.le_of_ble_eq_true rfl) (Nat.le_of_ble_eq_true rfl) rfl ?_
      change ab_W _ _ _ G 29 [some (vR 70), some (vI (xs 1)), some (vI (xs 2)), some (vI 0)] [] _
      refine ab_iload_n d_PW_pairAt_29 rfl ?_
      refine ab_if_eq (tgt := 45) d_PW_pairAt_30 (by decide) (fun _ => ?_) (fun c => absurd c (by decide))
      refine ab_iconst (v := (-1)) d_PW_pairAt_45 (by decide) ?_
      exact ab_iret (rt := .int) rfl rfl d_PW_pairAt_46 (by rw [hQ]; exact ⟨rfl, hfr, hlen, hsl⟩)
    · exfalso; have l0 := (show (0 : Int32).toInt = 0 by decide); simp only [Int32.le_iff_toInt_le, Int32.lt_iff_toInt_lt, ← Int32.toInt_inj] at c0 c1; omega
set_option maxRecDepth 100000 in
set_option maxHeartbeats 4000000 in
theorem q_PW_found_0 {X : ab_X} {d : Nat} {G : ab_G} {xs : Nat → Int32} (hlen : G.length = 149) (hsl : ab_slots G = 1890753) (h18 : G[18]? = some (ab_ob 0 [vR 19, vR 20, vR 22, vR 30, vR 31, vR 36, vR 37, vR 46, vR 51, vR 60, vR 69, vR 70, vR 72, vR 74, vR 76, vR 78, vI 0, vI 0])) (h70 : G[70]? = some (ab_ob 7 [vI 4002, vR 71, vI 0])) (hd : 1 ≤ d) : ab_F X d y_PW_found (.code y_PW_found b_PW_found 3 (some (.int))) [vR 18, vI (xs 1), vI (xs 2)] G (fun o G2 => o = .returned (some (vI (-1))) ∧ ab_fr [] G G2 ∧ G2.length = 149 ∧ ab_slots G2 = 1890753) := by
  refine ab_F_of (by decide +kernel) (Nat.le_of_ble_eq_true rfl) ?_
  obtain ⟨Q, hQ⟩ : ∃ z : Outcome → ab_G → Prop, z = (fun o G2 => o = .returned (some (vI (-1))) ∧ ab_fr [] G G2 ∧ G2.length = 149 ∧ ab_slots G2 = 1890753) := ⟨_, rfl⟩
  rw [← hQ]
  change ab_W X (ab_pl y_PW_found b_PW_found 3 (some (.int))) d G 0 [some (vR 18), some (vI (xs 1)), some (vI (xs 2))] [] Q
  have hfr : ab_fr [] G G := ab_fr.rf
  refine ab_aload_n d_PW_found_0 rfl ?_
  refine ab_getf (fs := [vR 19, vR 20, vR 22, vR 30, vR 31, vR 36, vR 37, vR 46, vR 51, vR 60, vR 69, vR 70, vR 72, vR 74, vR 76, vR 78, vI 0, vI 0]) f_PW_76 d_PW_found_1 h18 rfl ?_
  refine ab_iload_n d_PW_found_4 rfl ?_
  refine ab_iload_n d_PW_found_5 rfl ?_
  refine ab_callS (d' := d - 1) (as := [vR 70, vI (xs 1), vI (xs 2)]) (st := []) (q_PW_pairAt_0 (xs := xs) hlen hsl h70) (fun o G2 h => ⟨_, h.1⟩) (by omega) m_PW_pairAt ml_PW_200 st_PW_pairAt (Nat.le_of_ble_eq_true rfl) d_PW_found_6 rfl ?_
  intro v G1 hq
  obtain ⟨hv, hfk, hlen, hsl⟩ := hq
  cases hv
  have h18 := hfk.get (by decide) h18
  have h70 := hfk.get (by decide) h70
  have hfr := hfr.cl hfk (by decide)
  change ab_W _ _ _ G1 9 [some (vR 18), some (vI (xs 1)), some (vI (xs 2))] [vI (-1)] _
  exact ab_iret (rt := .int) rfl rfl d_PW_found_9 (by rw [hQ]; exact ⟨rfl, hfr, hlen, hsl⟩)
set_option maxRecDepth 100000 in
set_option maxHeartbeats 4000000 in
theorem q_MO_found_0 {X : ab_X} {d : Nat} {G : ab_G} {xs : Nat → Int32} (hlen : G.length = 149) (hsl : ab_slots G = 1890753) (h80 : G[80]? = some (ab_ob 12 (m_fv (vI 0) (vI 0) (vI 0) (vI 0) (vI 0) (vI 0) (vI 0) (vI 0) (vI 0) (vI 0) (vI 0) (vI 0) (vI (-1)) (vI 0) (vI 0) (vI 0) (vI 0) (vI 0) (vI 0) (vI 0) (vI 0) (vI 0) (vI 0) (vI 0) (vI 0) (vI 0) (vI 0) (vI 0) (vI 0) (vI 0) (vI 0) (vI 0) (vI 0) (vI 0) (vI 0)))) : ab_F X d y_MO_found (.code y_MO_found b_MO_found 3 (some (.int))) [vR 80, vI (xs 1), vI (xs 2)] G (fun o G2 => o = .returned (some (vI (-1))) ∧ ab_fr [80] G G2 ∧ G2.length = 149 ∧ ab_slots G2 = 1890753 ∧ G2[80]? = some (ab_ob 12 (m_fv (vI 0) (vI 0) (vI 0) (vI 0) (vI 0) (vI 0) (vI 0) (vI 0) (vI 0) (vI 0) (vI 0) (vI 0) (vI (-1)) (vI 0) (vI 0) (vI 0) (vI 0) (vI 0) (vI 0) (vI 0) (vI 0) (vI 0) (vI 0) (vI 0) (vI 0) (vI 0) (vI 0) (vI 0) (vI 0) (vI 0) (vI 0) (vI 0) (vI 0) (vI 0) (vI 0)))) := by
  refine ab_F_of (by decide +kernel) (Nat.le_of_ble_eq_true rfl) ?_
  obtain ⟨Q, hQ⟩ : ∃ z : Outcome → ab_G → Prop, z = (fun o G2 => o = .returned (some (vI (-1))) ∧ ab_fr [80] G G2 ∧ G2.length = 149 ∧ ab_slots G2 = 1890753 ∧ G2[80]? = some (ab_ob 12 (m_fv (vI 0) (vI 0) (vI 0) (vI 0) (vI 0) (vI 0) (vI 0) (vI 0) (vI 0) (vI 0) (vI 0) (vI 0) (vI (-1)) (vI 0) (vI 0) (vI 0) (vI 0) (vI 0) (vI 0) (vI 0) (vI 0) (vI 0) (vI 0) (vI 0) (vI 0) (vI 0) (vI 0) (vI 0) (vI 0) (vI 0) (vI 0) (vI 0) (vI 0) (vI 0) (vI 0)))) := ⟨_, rfl⟩
  rw [← hQ]
  change ab_W X (ab_pl y_MO_found b_MO_found 3 (some (.int))) d G 0 [some (vR 80), some (vI (xs 1)), some (vI (xs 2))] [] Q
  have hfr : ab_fr [80] G G := ab_fr.rf
  refine ab_aload_n d_MO_found_0 rfl ?_
  refine ab_iconst (v := 0) d_MO_found_1 (by decide) ?_
  refine ab_putf (fs := (m_fv (vI 0) (vI 0) (vI 0) (vI 0) (vI 0) (vI 0) (vI 0) (vI 0) (vI 0) (vI 0) (vI 0) (vI 0) (vI (-1)) (vI 0) (vI 0) (vI 0) (vI 0) (vI 0) (vI 0) (vI 0) (vI 0) (vI 0) (vI 0) (vI 0) (vI 0) (vI 0) (vI 0) (vI 0) (vI 0) (vI 0) (vI 0) (vI 0) (vI 0) (vI 0) (vI 0))) f_MO_220 (Or.inl rfl) d_MO_found_2 h80 (Nat.le_of_ble_eq_true rfl) (fun _ => ⟨rfl, rfl⟩) (by decide) ?_
  obtain ⟨G1, eG1⟩ : ∃ z : ab_G, z = List.set G 80 (ab_ob 12 (m_fv (vI 0) (vI 0) (vI 0) (vI 0) (vI 0) (vI 0) (vI 0) (vI 0) (vI 0) (vI 0) (vI 0) (vI 0) (vI (-1)) (vI 0) (vI 0) (vI 0) (vI 0) (vI 0) (vI 0) (vI 0) (vI 0) (vI 0) (vI 0) (vI 0) (vI 0) (vI 0) (vI 0) (vI 0) (vI 0) (vI 0) (vI 0) (vI 0) (vI 0) (vI 0) (vI 0))) := ⟨_, rfl⟩
  have hlen := ab_klen eG1 hlen
  have hsl := ab_ksl 102 eG1 h80 rfl rfl hsl
  have hfr := hfr.wr eG1 (by decide)
  have h80 := ab_kept eG1 h80
  change ab_W _ _ _ (List.set G 80 (ab_ob 12 (m_fv (vI 0) (vI 0) (vI 0) (vI 0) (vI 0) (vI 0) (vI 0) (vI 0) (vI 0) (vI 0) (vI 0) (vI 0) (vI (-1)) (vI 0) (vI 0) (vI 0) (vI 0) (vI 0) (vI 0) (vI 0) (vI 0) (vI 0) (vI 0) (vI 0) (vI 0) (vI 0) (vI 0) (vI 0) (vI 0) (vI 0) (vI 0) (vI 0) (vI 0) (vI 0) (vI 0)))) 5 [some (vR 80), some (vI (xs 1)), some (vI (xs 2))] [] _
  rw [← eG1]
  refine ab_iload_n d_MO_found_5 rfl ?_
  refine ab_if_lt (tgt := 26) d_MO_found_6 (by decide) (fun c0 => ?_) (fun c0 => ?_)
  · refine ab_iconst (v := (-1)) d_MO_found_26 (by decide) ?_
    refine ab_goto (tgt := 40) d_MO_found_27 (by decide) ?_
    exact ab_iret (rt := .int) rfl rfl d_MO_found_40 (by rw [hQ]; exact ⟨rfl, hfr, hlen, hsl, h80⟩)
  · refine ab_iload_n d_MO_found_9 rfl ?_
    refine ab_aload_n d_MO_found_10 rfl ?_
    refine ab_getf (fs := (m_fv (vI 0) (vI 0) (vI 0) (vI 0) (vI 0) (vI 0) (vI 0) (vI 0) (vI 0) (vI 0) (vI 0) (vI 0) (vI (-1)) (vI 0) (vI 0) (vI 0) (vI 0) (vI 0) (vI 0) (vI 0) (vI 0) (vI 0) (vI 0) (vI 0) (vI 0) (vI 0) (vI 0) (vI 0) (vI 0) (vI 0) (vI 0) (vI 0) (vI 0) (vI 0) (vI 0))) f_MO_579 d_MO_found_11 h80 rfl ?_
    refine ab_icmp_ge (tgt := 26) d_MO_found_14 (by decide) (fun c1 => ?_) (fun c1 => ?_)
    · refine ab_iconst (v := (-1)) d_MO_found_26 (by decide) ?_
      refine ab_goto (tgt := 40) d_MO_found_27 (by decide) ?_
      exact ab_iret (rt := .int) rfl rfl d_MO_found_40 (by rw [hQ]; exact ⟨rfl, hfr, hlen, hsl, h80⟩)
    · exfalso; have l0 := (show (0 : Int32).toInt = 0 by decide); simp only [Int32.le_iff_toInt_le, Int32.lt_iff_toInt_lt, ← Int32.toInt_inj] at c0 c1; omega
set_option maxRecDepth 100000 in
set_option maxHeartbeats 4000000 in
theorem lc_10 {X : ab_X} {d : Nat} {G : ab_G} {xs : Nat → Int32} (hlen : G.length = 149) (hsl : ab_slots G = 1890753) (h0 : G[0]? = some (ab_if 6 (xs))) (h18 : G[18]? = some (ab_ob 0 [vR 19, vR 20, vR 22, vR 30, vR 31, vR 36, vR 37, vR 46, vR 51, vR 60, vR 69, vR 70, vR 72, vR 74, vR 76, vR 78, vI 0, vI 0])) (h70 : G[70]? = some (ab_ob 7 [vI 4002, vR 71, vI 0])) (h80 : G[80]? = some (ab_ob 12 (m_fv (vI 0) (vI 0) (vI 0) (vI 0) (vI 0) (vI 0) (vI 0) (vI 0) (vI 0) (vI 0) (vI 0) (vI 0) (vI (-1)) (vI 0) (vI 0) (vI 0) (vI 0) (vI 0) (vI 0) (vI 0) (vI 0) (vI 0) (vI 0) (vI 0) (vI 0) (vI 0) (vI 0) (vI 0) (vI 0) (vI 0) (vI 0) (vI 0) (vI 0) (vI 0) (vI 0)))) (hd : 2 ≤ d) : ab_W X ab_LW d G 605 [some (vR 0), some (vR 18), some (vR 80), some (vR 148), some (vI 0), none, none] [] (fun o _ => o = .returned (some (vI 1))) := by
  obtain ⟨Q, hQ⟩ : ∃ z : Outcome → ab_G → Prop, z = (fun o _ => o = .returned (some (vI 1))) := ⟨_, rfl⟩
  rw [← hQ]
  have hfr : ab_fr [80] G G := ab_fr.rf
  refine ab_aload_n d_LA_law_605 rfl ?_
  refine ab_aload_n d_LA_law_606 rfl ?_
  refine ab_iload d_LA_law_607 rfl ?_
  refine ab_iconst (v := 1) d_LA_law_609 (by decide) ?_
  refine ab_iadd d_LA_law_610 ?_
  refine ab_topi (y := 1) (by decide) ?_
  refine ab_iald d_LA_law_611 h0 (by unfold vp_in; decide) ?_
  refine ab_topi (y := (xs 1)) rfl ?_
  refine ab_aload_n d_LA_law_612 rfl ?_
  refine ab_iload d_LA_law_613 rfl ?_
  refine ab_iconst (v := 2) d_LA_law_615 (by decide) ?_
  refine ab_iadd d_LA_law_616 ?_
  refine ab_topi (y := 2) (by decide) ?_
  refine ab_iald d_LA_law_617 h0 (by unfold vp_in; decide) ?_
  refine ab_topi (y := (xs 2)) rfl ?_
  refine ab_callV (d' := d - 1) (as := [vI (xs 1), vI (xs 2)]) (st := []) (r := _) (q_PW_found_0 (xs := xs) hlen hsl h18 h70 (by omega)) (fun o G2 h => ⟨_, h.1⟩) (by omega) m_PW_found ml_LA_85 im_PW_found se_PW_found c_PW h18 (Nat.le_of_ble_eq_true rfl) d_LA_law_618 rfl ?_
  intro v G1 hq
  obtain ⟨hv, hfk, hlen, hsl⟩ := hq
  cases hv
  have h0 := hfk.get (by decide) h0
  have h18 := hfk.get (by decide) h18
  have h70 := hfk.get (by decide) h70
  have h80 := hfk.get (by decide) h80
  have hfr := hfr.cl hfk (by decide)
  change ab_W _ _ _ G1 621 [some (vR 0), some (vR 18), some (vR 80), some (vR 148), some (vI 0), none, none] [vI (-1)] _
  refine ab_aload_n d_LA_law_621 rfl ?_
  refine ab_aload_n d_LA_law_622 rfl ?_
  refine ab_iload d_LA_law_623 rfl ?_
  refine ab_iconst (v := 1) d_LA_law_625 (by decide) ?_
  refine ab_iadd d_LA_law_626 ?_
  refine ab_topi (y := 1) (by decide) ?_
  refine ab_iald d_LA_law_627 h0 (by unfold vp_in; decide) ?_
  refine ab_topi (y := (xs 1)) rfl ?_
  refine ab_aload_n d_LA_law_628 rfl ?_
  refine ab_iload d_LA_law_629 rfl ?_
  refine ab_iconst (v := 2) d_LA_law_631 (by decide) ?_
  refine ab_iadd d_LA_law_632 ?_
  refine ab_topi (y := 2) (by decide) ?_
  refine ab_iald d_LA_law_633 h0 (by unfold vp_in; decide) ?_
  refine ab_topi (y := (xs 2)) rfl ?_
  refine ab_callV (d' := d - 1) (as := [vI (xs 1), vI (xs 2)]) (st := [vI (-1)]) (r := _) (q_MO_found_0 (xs := xs) hlen hsl h80) (fun o G2 h => ⟨_, h.1⟩) (by omega) m_MO_found ml_LA_88 im_MO_found se_MO_found c_MO h80 (Nat.le_of_ble_eq_true rfl) d_LA_law_634 rfl ?_
  intro v G2 hq
  obtain ⟨hv, hfk, hlen, hsl, h80⟩ := hq
  cases hv
  have h0 := hfk.get (by decide) h0
  have h18 := hfk.get (by decide) h18
  have h70 := hfk.get (by decide) h70
  have hfr := hfr.cl hfk (by decide)
  change ab_W _ _ _ G2 637 [some (vR 0), some (vR 18), some (vR 80), some (vR 148), some (vI 0), none, none] [vI (-1), vI (-1)] _
  refine ab_icmp_eq (tgt := 931) d_LA_law_637 (by decide) (fun _ => ?_) (fun c => absurd c (by decide))
  refine ab_iinc (v := 6) d_LA_law_931 rfl (by decide) (Nat.le_of_ble_eq_true rfl) (Nat.le_of_ble_eq_true rfl) rfl ?_
  change ab_W _ _ _ G2 934 [some (vR 0), some (vR 18), some (vR 80), some (vR 148), some (vI 6), none, none] [] _
  refine ab_goto (tgt := 23) d_LA_law_934 (by decide) ?_
  refine ab_iload d_LA_law_23 rfl ?_
  refine ab_aload_n d_LA_law_25 rfl ?_
  refine ab_alen (v := 6) d_LA_law_26 h0 (by first | decide | rfl) ?_
  refine ab_bipush (v := 6) d_LA_law_27 (by decide) ?_
  refine ab_isub d_LA_law_29 ?_
  refine ab_topi (y := 0) (by decide) ?_
  refine ab_icmp_gt (tgt := 937) d_LA_law_30 (by decide) (fun _ => ?_) (fun c => absurd c (by decide))
  refine ab_iconst (v := 1) d_LA_law_937 (by decide) ?_
  exact ab_iret (rt := .boolean) rfl (by decide) d_LA_law_938 (by rw [hQ])
set_option maxRecDepth 100000 in
set_option maxHeartbeats 4000000 in
theorem q_PW_replace_0 {X : ab_X} {d : Nat} {G : ab_G} {xs : Nat → Int32} (hlen : G.length = 149) (hsl : ab_slots G = 1890753) (h18 : G[18]? = some (ab_ob 0 [vR 19, vR 20, vR 22, vR 30, vR 31, vR 36, vR 37, vR 46, vR 51, vR 60, vR 69, vR 70, vR 72, vR 74, vR 76, vR 78, vI 0, vI 0])) (h30 : G[30]? = some (.inl (3, 6, .inr (.inr (.inr (.inr (fun _ => none))))))) (hd : 6 ≤ d) : ab_F X d y_PW_replace (.code y_PW_replace b_PW_replace 8 (some (.int))) [vR 18, vI (xs 1)] G (fun o G2 => o = .threw 149 ∧ ab_fr [149] G G2 ∧ G2.length = 150 ∧ ab_slots G2 = 1890759 ∧ G2[149]? = some (ab_ob 13 [])) := by
  refine ab_F_of (by decide +kernel) (Nat.le_of_ble_eq_true rfl) ?_
  obtain ⟨Q, hQ⟩ : ∃ z : Outcome → ab_G → Prop, z = (fun o G2 => o = .threw 149 ∧ ab_fr [149] G G2 ∧ G2.length = 150 ∧ ab_slots G2 = 1890759 ∧ G2[149]? = some (ab_ob 13 [])) := ⟨_, rfl⟩
  rw [← hQ]
  change ab_W X (ab_pl y_PW_replace b_PW_replace 8 (some (.int))) d G 0 [some (vR 18), some (vI (xs 1)), none, none, none, none, none, none] [] Q
  have hfr : ab_fr [149] G G := ab_fr.rf
  refine ab_aload_n d_PW_replace_0 rfl ?_
  refine ab_iload_n d_PW_replace_1 rfl ?_
  refine ab_callV (d' := d - 1) (as := [vI (xs 1)]) (st := []) (r := _) (q_PW_programAt_0 (xs := xs) hlen hsl h18 h30) (fun o G2 h => ⟨_, h.1⟩) (by omega) m_PW_programAt ml_PW_148 im_PW_programAt se_PW_programAt c_PW h18 (Nat.le_of_ble_eq_true rfl) d_PW_replace_2 rfl ?_
  intro v G1 hq
  obtain ⟨hv, hfk, hlen, hsl⟩ := hq
  cases hv
  have h18 := hfk.get (by decide) h18
  have h30 := hfk.get (by decide) h30
  have hfr := hfr.cl hfk (by decide)
  change ab_W _ _ _ G1 5 [some (vR 18), some (vI (xs 1)), none, none, none, none, none, none] [vN] _
  refine ab_astore_nN d_PW_replace_5 (Nat.le_of_ble_eq_true rfl) (Nat.le_of_ble_eq_true rfl) rfl ?_
  change ab_W _ _ _ G1 6 [some (vR 18), some (vI (xs 1)), some (vN), none, none, none, none, none] [] _
  refine ab_aload_nN d_PW_replace_6 rfl ?_
  refine ab_ifnonnullN d_PW_replace_7 ?_
  refine ab_throw (tx := "no pattern there") (by decide) (fun c h => h) cl_PW_109 inst_IA ini_IA tw_PW_113 d_PW_replace_10 d_PW_replace_13 d_PW_replace_14 d_PW_replace_16 d_PW_replace_19 (by omega) (by rw [hlen]; decide) (by rw [hsl]; decide) ?_
  rw [hlen]
  obtain ⟨G2, eG2⟩ : ∃ z : ab_G, z = G1 ++ [ab_ob 13 []] := ⟨_, rfl⟩
  have h18 := ab_akeep eG2 h18
  have h30 := ab_akeep eG2 h30
  have h149 := ab_anew1 eG2 hlen
  have hsl : ab_slots G2 = 1890759 := ab_asl (z := 6) eG2 hlen (by decide) hsl rfl (by decide)
  have hlen : G2.length = 150 := ab_alen1 eG2 hlen
  have hfr := hfr.ap eG2
  rw [← eG2, hQ]
  exact ⟨rfl, hfr, hlen, hsl, h149⟩
set_option maxRecDepth 100000 in
set_option maxHeartbeats 4000000 in
theorem q_LA_replace_0 {X : ab_X} {d : Nat} {G : ab_G} {xs : Nat → Int32} (hlen : G.length = 149) (hsl : ab_slots G = 1890753) (h18 : G[18]? = some (ab_ob 0 [vR 19, vR 20, vR 22, vR 30, vR 31, vR 36, vR 37, vR 46, vR 51, vR 60, vR 69, vR 70, vR 72, vR 74, vR 76, vR 78, vI 0, vI 0])) (h30 : G[30]? = some (.inl (3, 6, .inr (.inr (.inr (.inr (fun _ => none))))))) (hd : 7 ≤ d) : ab_F X d y_LA_replace (.codeWith y_LA_replace b_LA_replace 4 (some (.int)) [(0, 9, 12, 13)]) [vR 18, vI (xs 1), vR 148] G (fun o G2 => o = .returned (some (vI 1)) ∧ ab_fr [149] G G2 ∧ G2.length = 150 ∧ ab_slots G2 = 1890759 ∧ G2[149]? = some (ab_ob 13 [])) := by
  refine ab_F_ofW (by decide +kernel) (Nat.le_of_ble_eq_true rfl) ?_
  obtain ⟨Q, hQ⟩ : ∃ z : Outcome → ab_G → Prop, z = (fun o G2 => o = .returned (some (vI 1)) ∧ ab_fr [149] G G2 ∧ G2.length = 150 ∧ ab_slots G2 = 1890759 ∧ G2[149]? = some (ab_ob 13 [])) := ⟨_, rfl⟩
  rw [← hQ]
  change ab_W X (ab_plW y_LA_replace b_LA_replace 4 (some (.int)) [(0, 9, 12, 13)]) d G 0 [some (vR 18), some (vI (xs 1)), some (vR 148), none] [] Q
  have hfr : ab_fr [149] G G := ab_fr.rf
  refine ab_aload_n d_LA_replace_0 rfl ?_
  refine ab_iconst (v := 0) d_LA_replace_1 (by decide) ?_
  refine ab_aload_n d_LA_replace_2 rfl ?_
  refine ab_iload_n d_LA_replace_3 rfl ?_
  refine ab_callVT (d' := d - 1) (hp := 12) (ct := 13) (as := [vI (xs 1)]) (st := [vI 0, vR 148]) (q_PW_replace_0 (xs := xs) hlen hsl h18 h30 (by omega)) (fun o G2 h => ⟨_, h.1, h.2.2.2.2⟩) (by omega) m_PW_replace mw_LA_23 im_PW_replace se_PW_replace c_PW h18 (Nat.le_of_ble_eq_true rfl) d_LA_replace_4 rfl (fun c hc => ab_hx hc (by decide)) (by decide) cl_LA_13 cast_IA ?_
  intro v G1 hq
  obtain ⟨hv, hfk, hlen, hsl, h149⟩ := hq
  cases hv
  have h18 := hfk.get (by decide) h18
  have h30 := hfk.get (by decide) h30
  have hfr := hfr.cl hfk (by decide)
  change ab_W _ _ _ G1 12 [some (vR 18), some (vI (xs 1)), some (vR 148), none] [vR 149] _
  refine ab_astore_n d_LA_replace_12 (Nat.le_of_ble_eq_true rfl) (Nat.le_of_ble_eq_true rfl) rfl ?_
  change ab_W _ _ _ G1 13 [some (vR 18), some (vI (xs 1)), some (vR 148), some (vR 149)] [] _
  refine ab_iconst (v := 1) d_LA_replace_13 (by decide) ?_
  exact ab_iret (rt := .int) rfl rfl d_LA_replace_14 (by rw [hQ]; exact ⟨rfl, hfr, hlen, hsl, h149⟩)
set_option maxRecDepth 100000 in
set_option maxHeartbeats 4000000 in
theorem q_MO_replace_0 {X : ab_X} {d : Nat} {G : ab_G} {xs : Nat → Int32} (hlen : G.length = 150) (hsl : ab_slots G = 1890759) (h80 : G[80]? = some (ab_ob 12 (m_fv (vI 0) (vI 0) (vI 0) (vI 0) (vI 0) (vI 0) (vI 0) (vI 0) (vI 0) (vI 0) (vI 0) (vI 0) (vI (-1)) (vI 0) (vI 0) (vI 0) (vI 0) (vI 0) (vI 0) (vI 0) (vI 0) (vI 0) (vI 0) (vI 0) (vI 0) (vI 0) (vI 0) (vI 0) (vI 0) (vI 0) (vI 0) (vI 0) (vI 0) (vI 0) (vI 0)))) (h112 : G[112]? = some (ab_zf 6 ((fun _ => 0)))) (hd : 1 ≤ d) : ab_F X d y_MO_replace (.code y_MO_replace b_MO_replace 5 (some (.int))) [vR 80, vI (xs 1)] G (fun o G2 => o = .returned (some (vI 0)) ∧ ab_fr [80] G G2 ∧ G2.length = 150 ∧ ab_slots G2 = 1890759 ∧ G2[80]? = some (ab_ob 12 (m_fv (vI 1) (vI 0) (vI 0) (vI 0) (vI 0) (vI 0) (vI 0) (vI 0) (vI 0) (vI 0) (vI 0) (vI 0) (vI (-1)) (vI 0) (vI 0) (vI 0) (vI 0) (vI 0) (vI 0) (vI 0) (vI 0) (vI 0) (vI 0) (vI 0) (vI 0) (vI 0) (vI 0) (vI 0) (vI 0) (vI 0) (vI 0) (vI 0) (vI 0) (vI 0) (vI 0)))) := by
  refine ab_F_of (by decide +kernel) (Nat.le_of_ble_eq_true rfl) ?_
  obtain ⟨Q, hQ⟩ : ∃ z : Outcome → ab_G → Prop, z = (fun o G2 => o = .returned (some (vI 0)) ∧ ab_fr [80] G G2 ∧ G2.length = 150 ∧ ab_slots G2 = 1890759 ∧ G2[80]? = some (ab_ob 12 (m_fv (vI 1) (vI 0) (vI 0) (vI 0) (vI 0) (vI 0) (vI 0) (vI 0) (vI 0) (vI 0) (vI 0) (vI 0) (vI (-1)) (vI 0) (vI 0) (vI 0) (vI 0) (vI 0) (vI 0) (vI 0) (vI 0) (vI 0) (vI 0) (vI 0) (vI 0) (vI 0) (vI 0) (vI 0) (vI 0) (vI 0) (vI 0) (vI 0) (vI 0) (vI 0) (vI 0)))) := ⟨_, rfl⟩
  rw [← hQ]
  change ab_W X (ab_pl y_MO_replace b_MO_replace 5 (some (.int))) d G 0 [some (vR 80), some (vI (xs 1)), none, none, none] [] Q
  have hfr : ab_fr [80] G G := ab_fr.rf
  refine ab_aload_n d_MO_replace_0 rfl ?_
  refine ab_aload_n d_MO_replace_1 rfl ?_
  refine ab_iload_n d_MO_replace_2 rfl ?_
  refine ab_callV (d' := d - 1) (as := [vI (xs 1)]) (st := [vR 80]) (r := _) (q_MO_isThere_1 (xs := xs) hlen hsl h80 h112) (fun o G2 h => ⟨_, h.1⟩) (by omega) m_MO_isThere ml_MO_507 im_MO_isThere se_MO_isThere c_MO h80 (Nat.le_of_ble_eq_true rfl) d_MO_replace_3 rfl ?_
  intro v G1 hq
  obtain ⟨hv, hfk, hlen, hsl⟩ := hq
  cases hv
  have h80 := hfk.get (by decide) h80
  have h112 := hfk.get (by decide) h112
  have hfr := hfr.cl hfk (by decide)
  change ab_W _ _ _ G1 6 [some (vR 80), some (vI (xs 1)), none, none, none] [vI 0, vR 80] _
  refine ab_if_eq (tgt := 13) d_MO_replace_6 (by decide) (fun _ => ?_) (fun c => absurd c (by decide))
  refine ab_iconst (v := 1) d_MO_replace_13 (by decide) ?_
  refine ab_putf (fs := (m_fv (vI 0) (vI 0) (vI 0) (vI 0) (vI 0) (vI 0) (vI 0) (vI 0) (vI 0) (vI 0) (vI 0) (vI 0) (vI (-1)) (vI 0) (vI 0) (vI 0) (vI 0) (vI 0) (vI 0) (vI 0) (vI 0) (vI 0) (vI 0) (vI 0) (vI 0) (vI 0) (vI 0) (vI 0) (vI 0) (vI 0) (vI 0) (vI 0) (vI 0) (vI 0) (vI 0))) f_MO_220 (Or.inl rfl) d_MO_replace_14 h80 (Nat.le_of_ble_eq_true rfl) (fun _ => ⟨rfl, rfl⟩) (by decide) ?_
  obtain ⟨G2, eG2⟩ : ∃ z : ab_G, z = List.set G1 80 (ab_ob 12 (m_fv (vI 1) (vI 0) (vI 0) (vI 0) (vI 0) (vI 0) (vI 0) (vI 0) (vI 0) (vI 0) (vI 0) (vI 0) (vI (-1)) (vI 0) (vI 0) (vI 0) (vI 0) (vI 0) (vI 0) (vI 0) (vI 0) (vI 0) (vI 0) (vI 0) (vI 0) (vI 0) (vI 0) (vI 0) (vI 0) (vI 0) (vI 0) (vI 0) (vI 0) (vI 0) (vI 0))) := ⟨_, rfl⟩
  have h112 := ab_keep eG2 (by decide) h112
  have hlen := ab_klen eG2 hlen
  have hsl := ab_ksl 102 eG2 h80 rfl rfl hsl
  have hfr := hfr.wr eG2 (by decide)
  have h80 := ab_kept eG2 h80
  change ab_W _ _ _ (List.set G1 80 (ab_ob 12 (m_fv (vI 1) (vI 0) (vI 0) (vI 0) (vI 0) (vI 0) (vI 0) (vI 0) (vI 0) (vI 0) (vI 0) (vI 0) (vI (-1)) (vI 0) (vI 0) (vI 0) (vI 0) (vI 0) (vI 0) (vI 0) (vI 0) (vI 0) (vI 0) (vI 0) (vI 0) (vI 0) (vI 0) (vI 0) (vI 0) (vI 0) (vI 0) (vI 0) (vI 0) (vI 0) (vI 0)))) 17 [some (vR 80), some (vI (xs 1)), none, none, none] [] _
  rw [← eG2]
  refine ab_aload_n d_MO_replace_17 rfl ?_
  refine ab_getf (fs := (m_fv (vI 1) (vI 0) (vI 0) (vI 0) (vI 0) (vI 0) (vI 0) (vI 0) (vI 0) (vI 0) (vI 0) (vI 0) (vI (-1)) (vI 0) (vI 0) (vI 0) (vI 0) (vI 0) (vI 0) (vI 0) (vI 0) (vI 0) (vI 0) (vI 0) (vI 0) (vI 0) (vI 0) (vI 0) (vI 0) (vI 0) (vI 0) (vI 0) (vI 0) (vI 0) (vI 0))) f_MO_220 d_MO_replace_18 h80 rfl ?_
  refine ab_if_le (tgt := 26) d_MO_replace_21 (by decide) (fun c => absurd c (by decide)) (fun _ => ?_)
  refine ab_iconst (v := 0) d_MO_replace_24 (by decide) ?_
  exact ab_iret (rt := .int) rfl rfl d_MO_replace_25 (by rw [hQ]; exact ⟨rfl, hfr, hlen, hsl, h80⟩)
set_option maxRecDepth 100000 in
set_option maxHeartbeats 4000000 in
theorem lc_11 {X : ab_X} {d : Nat} {G : ab_G} {xs : Nat → Int32} (hlen : G.length = 149) (hsl : ab_slots G = 1890753) (h0 : G[0]? = some (ab_if 6 (xs))) (h18 : G[18]? = some (ab_ob 0 [vR 19, vR 20, vR 22, vR 30, vR 31, vR 36, vR 37, vR 46, vR 51, vR 60, vR 69, vR 70, vR 72, vR 74, vR 76, vR 78, vI 0, vI 0])) (h30 : G[30]? = some (.inl (3, 6, .inr (.inr (.inr (.inr (fun _ => none))))))) (h80 : G[80]? = some (ab_ob 12 (m_fv (vI 0) (vI 0) (vI 0) (vI 0) (vI 0) (vI 0) (vI 0) (vI 0) (vI 0) (vI 0) (vI 0) (vI 0) (vI (-1)) (vI 0) (vI 0) (vI 0) (vI 0) (vI 0) (vI 0) (vI 0) (vI 0) (vI 0) (vI 0) (vI 0) (vI 0) (vI 0) (vI 0) (vI 0) (vI 0) (vI 0) (vI 0) (vI 0) (vI 0) (vI 0) (vI 0)))) (h112 : G[112]? = some (ab_zf 6 ((fun _ => 0)))) (hd : 8 ≤ d) : ab_W X ab_LW d G 642 [some (vR 0), some (vR 18), some (vR 80), some (vR 148), some (vI 0), none, none] [] (fun o _ => o = .returned (some (vI 1))) := by
  obtain ⟨Q, hQ⟩ : ∃ z : Outcome → ab_G → Prop, z = (fun o _ => o = .returned (some (vI 1))) := ⟨_, rfl⟩
  rw [← hQ]
  have hfr : ab_fr [80, 149] G G := ab_fr.rf
  refine ab_aload_n d_LA_law_642 rfl ?_
  refine ab_aload_n d_LA_law_643 rfl ?_
  refine ab_iload d_LA_law_644 rfl ?_
  refine ab_iconst (v := 1) d_LA_law_646 (by decide) ?_
  refine ab_iadd d_LA_law_647 ?_
  refine ab_topi (y := 1) (by decide) ?_
  refine ab_iald d_LA_law_648 h0 (by unfold vp_in; decide) ?_
  refine ab_topi (y := (xs 1)) rfl ?_
  refine ab_aload_n d_LA_law_649 rfl ?_
  refine ab_callSW (d' := d - 1) (as := [vR 18, vI (xs 1), vR 148]) (st := []) (q_LA_replace_0 (xs := xs) hlen hsl h18 h30 (by omega)) (fun o G2 h => ⟨_, h.1⟩) (by omega) m_LA_replace mw_LA_89 st_LA_replace (Nat.le_of_ble_eq_true rfl) d_LA_law_650 rfl ?_
  intro v G1 hq
  obtain ⟨hv, hfk, hlen, hsl, h149⟩ := hq
  cases hv
  have h0 := hfk.get (by decide) h0
  have h18 := hfk.get (by decide) h18
  have h30 := hfk.get (by decide) h30
  have h80 := hfk.get (by decide) h80
  have h112 := hfk.get (by decide) h112
  have hfr := hfr.cl hfk (by decide)
  change ab_W _ _ _ G1 653 [some (vR 0), some (vR 18), some (vR 80), some (vR 148), some (vI 0), none, none] [vI 1] _
  refine ab_istore d_LA_law_653 (Nat.le_of_ble_eq_true rfl) (Nat.le_of_ble_eq_true rfl) rfl ?_
  change ab_W _ _ _ G1 655 [some (vR 0), some (vR 18), some (vR 80), some (vR 148), some (vI 0), some (vI 1), none] [] _
  refine ab_aload_n d_LA_law_655 rfl ?_
  refine ab_aload_n d_LA_law_656 rfl ?_
  refine ab_iload d_LA_law_657 rfl ?_
  refine ab_iconst (v := 1) d_LA_law_659 (by decide) ?_
  refine ab_iadd d_LA_law_660 ?_
  refine ab_topi (y := 1) (by decide) ?_
  refine ab_iald d_LA_law_661 h0 (by unfold vp_in; decide) ?_
  refine ab_topi (y := (xs 1)) rfl ?_
  refine ab_callV (d' := d - 1) (as := [vI (xs 1)]) (st := []) (r := _) (q_MO_replace_0 (xs := xs) hlen hsl h80 h112 (by omega)) (fun o G2 h => ⟨_, h.1⟩) (by omega) m_MO_replace ml_LA_91 im_MO_replace se_MO_replace c_MO h80 (Nat.le_of_ble_eq_true rfl) d_LA_law_662 rfl ?_
  intro v G2 hq
  obtain ⟨hv, hfk, hlen, hsl, h80⟩ := hq
  cases hv
  have h0 := hfk.get (by decide) h0
  have h18 := hfk.get (by decide) h18
  have h30 := hfk.get (by decide) h30
  have h112 := hfk.get (by decide) h112
  have h149 := hfk.get (by decide) h149
  have hfr := hfr.cl hfk (by decide)
  change ab_W _ _ _ G2 665 [some (vR 0), some (vR 18), some (vR 80), some (vR 148), some (vI 0), some (vI 1), none] [vI 0] _
  refine ab_istore d_LA_law_665 (Nat.le_of_ble_eq_true rfl) (Nat.le_of_ble_eq_true rfl) rfl ?_
  change ab_W _ _ _ G2 667 [some (vR 0), some (vR 18), some (vR 80), some (vR 148), some (vI 0), some (vI 1), some (vI 0)] [] _
  refine ab_aload_n d_LA_law_667 rfl ?_
  refine ab_callV (d' := d - 1) (as := []) (st := []) (r := _) (q_MO_thrown_0  hlen hsl h80) (fun o G2 h => ⟨_, h.1⟩) (by omega) m_MO_thrown ml_LA_52 im_MO_thrown se_MO_thrown c_MO h80 (Nat.le_of_ble_eq_true rfl) d_LA_law_668 rfl ?_
  intro v G3 hq
  obtain ⟨hv, hfk, hlen, hsl⟩ := hq
  cases hv
  have h0 := hfk.get (by decide) h0
  have h18 := hfk.get (by decide) h18
  have h30 := hfk.get (by decide) h30
  have h80 := hfk.get (by decide) h80
  have h112 := hfk.get (by decide) h112
  have h149 := hfk.get (by decide) h149
  have hfr := hfr.cl hfk (by decide)
  change ab_W _ _ _ G3 671 [some (vR 0), some (vR 18), some (vR 80), some (vR 148), some (vI 0), some (vI 1), some (vI 0)] [vI 1] _
  refine ab_iload d_LA_law_671 rfl ?_
  refine ab_icmp_eq (tgt := 678) d_LA_law_673 (by decide) (fun _ => ?_) (fun c => absurd c (by decide))
  refine ab_iload d_LA_law_678 rfl ?_
  refine ab_if_ne (tgt := 695) d_LA_law_680 (by decide) (fun _ => ?_) (fun c => absurd c (by decide))
  refine ab_goto (tgt := 931) d_LA_law_695 (by decide) ?_
  refine ab_iinc (v := 6) d_LA_law_931 rfl (by decide) (Nat.le_of_ble_eq_true rfl) (Nat.le_of_ble_eq_true rfl) rfl ?_
  change ab_W _ _ _ G3 934 [some (vR 0), some (vR 18), some (vR 80), some (vR 148), some (vI 6), some (vI 1), some (vI 0)] [] _
  refine ab_goto (tgt := 23) d_LA_law_934 (by decide) ?_
  refine ab_iload d_LA_law_23 rfl ?_
  refine ab_aload_n d_LA_law_25 rfl ?_
  refine ab_alen (v := 6) d_LA_law_26 h0 (by first | decide | rfl) ?_
  refine ab_bipush (v := 6) d_LA_law_27 (by decide) ?_
  refine ab_isub d_LA_law_29 ?_
  refine ab_topi (y := 0) (by decide) ?_
  refine ab_icmp_gt (tgt := 937) d_LA_law_30 (by decide) (fun _ => ?_) (fun c => absurd c (by decide))
  refine ab_iconst (v := 1) d_LA_law_937 (by decide) ?_
  exact ab_iret (rt := .boolean) rfl (by decide) d_LA_law_938 (by rw [hQ])
set_option maxRecDepth 100000 in
set_option maxHeartbeats 4000000 in
theorem q_PW_split_0 {X : ab_X} {d : Nat} {G : ab_G} {xs : Nat → Int32} (hlen : G.length = 149) (hsl : ab_slots G = 1890753) (h18 : G[18]? = some (ab_ob 0 [vR 19, vR 20, vR 22, vR 30, vR 31, vR 36, vR 37, vR 46, vR 51, vR 60, vR 69, vR 70, vR 72, vR 74, vR 76, vR 78, vI 0, vI 0])) (h30 : G[30]? = some (.inl (3, 6, .inr (.inr (.inr (.inr (fun _ => none))))))) (hd : 6 ≤ d) : ab_F X d y_PW_split (.code y_PW_split b_PW_split 7 (some (.int))) [vR 18, vI (xs 1)] G (fun o G2 => o = .threw 149 ∧ ab_fr [149] G G2 ∧ G2.length = 150 ∧ ab_slots G2 = 1890759 ∧ G2[149]? = some (ab_ob 13 [])) := by
  refine ab_F_of (by decide +kernel) (Nat.le_of_ble_eq_true rfl) ?_
  obtain ⟨Q, hQ⟩ : ∃ z : Outcome → ab_G → Prop, z = (fun o G2 => o = .threw 149 ∧ ab_fr [149] G G2 ∧ G2.length = 150 ∧ ab_slots G2 = 1890759 ∧ G2[149]? = some (ab_ob 13 [])) := ⟨_, rfl⟩
  rw [← hQ]
  change ab_W X (ab_pl y_PW_split b_PW_split 7 (some (.int))) d G 0 [some (vR 18), some (vI (xs 1)), none, none, none, none, none] [] Q
  have hfr : ab_fr [149] G G := ab_fr.rf
  refine ab_aload_n d_PW_split_0 rfl ?_
  refine ab_iload_n d_PW_split_1 rfl ?_
  refine ab_callV (d' := d - 1) (as := [vI (xs 1)]) (st := []) (r := _) (q_PW_programAt_0 (xs := xs) hlen hsl h18 h30) (fun o G2 h => ⟨_, h.1⟩) (by omega) m_PW_programAt ml_PW_148 im_PW_programAt se_PW_programAt c_PW h18 (Nat.le_of_ble_eq_true rfl) d_PW_split_2 rfl ?_
  intro v G1 hq
  obtain ⟨hv, hfk, hlen, hsl⟩ := hq
  cases hv
  have h18 := hfk.get (by decide) h18
  have h30 := hfk.get (by decide) h30
  have hfr := hfr.cl hfk (by decide)
  change ab_W _ _ _ G1 5 [some (vR 18), some (vI (xs 1)), none, none, none, none, none] [vN] _
  refine ab_astore_nN d_PW_split_5 (Nat.le_of_ble_eq_true rfl) (Nat.le_of_ble_eq_true rfl) rfl ?_
  change ab_W _ _ _ G1 6 [some (vR 18), some (vI (xs 1)), some (vN), none, none, none, none] [] _
  refine ab_aload_nN d_PW_split_6 rfl ?_
  refine ab_ifnonnullN d_PW_split_7 ?_
  refine ab_throw (tx := "no pattern there") (by decide) (fun c h => h) cl_PW_109 inst_IA ini_IA tw_PW_113 d_PW_split_10 d_PW_split_13 d_PW_split_14 d_PW_split_16 d_PW_split_19 (by omega) (by rw [hlen]; decide) (by rw [hsl]; decide) ?_
  rw [hlen]
  obtain ⟨G2, eG2⟩ : ∃ z : ab_G, z = G1 ++ [ab_ob 13 []] := ⟨_, rfl⟩
  have h18 := ab_akeep eG2 h18
  have h30 := ab_akeep eG2 h30
  have h149 := ab_anew1 eG2 hlen
  have hsl : ab_slots G2 = 1890759 := ab_asl (z := 6) eG2 hlen (by decide) hsl rfl (by decide)
  have hlen : G2.length = 150 := ab_alen1 eG2 hlen
  have hfr := hfr.ap eG2
  rw [← eG2, hQ]
  exact ⟨rfl, hfr, hlen, hsl, h149⟩
set_option maxRecDepth 100000 in
set_option maxHeartbeats 4000000 in
theorem q_LA_split_0 {X : ab_X} {d : Nat} {G : ab_G} {xs : Nat → Int32} (hlen : G.length = 149) (hsl : ab_slots G = 1890753) (h18 : G[18]? = some (ab_ob 0 [vR 19, vR 20, vR 22, vR 30, vR 31, vR 36, vR 37, vR 46, vR 51, vR 60, vR 69, vR 70, vR 72, vR 74, vR 76, vR 78, vI 0, vI 0])) (h30 : G[30]? = some (.inl (3, 6, .inr (.inr (.inr (.inr (fun _ => none))))))) (hd : 7 ≤ d) : ab_F X d y_LA_split (.codeWith y_LA_split b_LA_split 4 (some (.int)) [(0, 9, 12, 13)]) [vR 18, vI (xs 1), vR 148] G (fun o G2 => o = .returned (some (vI 1)) ∧ ab_fr [149] G G2 ∧ G2.length = 150 ∧ ab_slots G2 = 1890759 ∧ G2[149]? = some (ab_ob 13 [])) := by
  refine ab_F_ofW (by decide +kernel) (Nat.le_of_ble_eq_true rfl) ?_
  obtain ⟨Q, hQ⟩ : ∃ z : Outcome → ab_G → Prop, z = (fun o G2 => o = .returned (some (vI 1)) ∧ ab_fr [149] G G2 ∧ G2.length = 150 ∧ ab_slots G2 = 1890759 ∧ G2[149]? = some (ab_ob 13 [])) := ⟨_, rfl⟩
  rw [← hQ]
  change ab_W X (ab_plW y_LA_split b_LA_split 4 (some (.int)) [(0, 9, 12, 13)]) d G 0 [some (vR 18), some (vI (xs 1)), some (vR 148), none] [] Q
  have hfr : ab_fr [149] G G := ab_fr.rf
  refine ab_aload_n d_LA_split_0 rfl ?_
  refine ab_iconst (v := 0) d_LA_split_1 (by decide) ?_
  refine ab_aload_n d_LA_split_2 rfl ?_
  refine ab_iload_n d_LA_split_3 rfl ?_
  refine ab_callVT (d' := d - 1) (hp := 12) (ct := 13) (as := [vI (xs 1)]) (st := [vI 0, vR 148]) (q_PW_split_0 (xs := xs) hlen hsl h18 h30 (by omega)) (fun o G2 h => ⟨_, h.1, h.2.2.2.2⟩) (by omega) m_PW_split mw_LA_26 im_PW_split se_PW_split c_PW h18 (Nat.le_of_ble_eq_true rfl) d_LA_split_4 rfl (fun c hc => ab_hx hc (by decide)) (by decide) cl_LA_13 cast_IA ?_
  intro v G1 hq
  obtain ⟨hv, hfk, hlen, hsl, h149⟩ := hq
  cases hv
  have h18 := hfk.get (by decide) h18
  have h30 := hfk.get (by decide) h30
  have hfr := hfr.cl hfk (by decide)
  change ab_W _ _ _ G1 12 [some (vR 18), some (vI (xs 1)), some (vR 148), none] [vR 149] _
  refine ab_astore_n d_LA_split_12 (Nat.le_of_ble_eq_true rfl) (Nat.le_of_ble_eq_true rfl) rfl ?_
  change ab_W _ _ _ G1 13 [some (vR 18), some (vI (xs 1)), some (vR 148), some (vR 149)] [] _
  refine ab_iconst (v := 1) d_LA_split_13 (by decide) ?_
  exact ab_iret (rt := .int) rfl rfl d_LA_split_14 (by rw [hQ]; exact ⟨rfl, hfr, hlen, hsl, h149⟩)
set_option maxRecDepth 100000 in
set_option maxHeartbeats 4000000 in
theorem q_MO_split1_0 {X : ab_X} {d : Nat} {G : ab_G} {xs : Nat → Int32} (hlen : G.length = 150) (hsl : ab_slots G = 1890759) (h80 : G[80]? = some (ab_ob 12 (m_fv (vI 0) (vI 0) (vI 0) (vI 0) (vI 0) (vI 0) (vI 0) (vI 0) (vI 0) (vI 0) (vI 0) (vI 0) (vI (-1)) (vI 0) (vI 0) (vI 0) (vI 0) (vI 0) (vI 0) (vI 0) (vI 0) (vI 0) (vI 0) (vI 0) (vI 0) (vI 0) (vI 0) (vI 0) (vI 0) (vI 0) (vI 0) (vI 0) (vI 0) (vI 0) (vI 0)))) (h112 : G[112]? = some (ab_zf 6 ((fun _ => 0)))) (hd : 1 ≤ d) : ab_F X d y_MO_split1 (.code y_MO_split1 b_MO_split1 3 (some (.int))) [vR 80, vI (xs 1)] G (fun o G2 => o = .returned (some (vI 0)) ∧ ab_fr [80] G G2 ∧ G2.length = 150 ∧ ab_slots G2 = 1890759 ∧ G2[80]? = some (ab_ob 12 (m_fv (vI 1) (vI 0) (vI 0) (vI 0) (vI 0) (vI 0) (vI 0) (vI 0) (vI 0) (vI 0) (vI 0) (vI 0) (vI (-1)) (vI 0) (vI 0) (vI 0) (vI 0) (vI 0) (vI 0) (vI 0) (vI 0) (vI 0) (vI 0) (vI 0) (vI 0) (vI 0) (vI 0) (vI 0) (vI 0) (vI 0) (vI 0) (vI 0) (vI 0) (vI 0) (vI 0)))) := by
  refine ab_F_of (by decide +kernel) (Nat.le_of_ble_eq_true rfl) ?_
  obtain ⟨Q, hQ⟩ : ∃ z : Outcome → ab_G → Prop, z = (fun o G2 => o = .returned (some (vI 0)) ∧ ab_fr [80] G G2 ∧ G2.length = 150 ∧ ab_slots G2 = 1890759 ∧ G2[80]? = some (ab_ob 12 (m_fv (vI 1) (vI 0) (vI 0) (vI 0) (vI 0) (vI 0) (vI 0) (vI 0) (vI 0) (vI 0) (vI 0) (vI 0) (vI (-1)) (vI 0) (vI 0) (vI 0) (vI 0) (vI 0) (vI 0) (vI 0) (vI 0) (vI 0) (vI 0) (vI 0) (vI 0) (vI 0) (vI 0) (vI 0) (vI 0) (vI 0) (vI 0) (vI 0) (vI 0) (vI 0) (vI 0)))) := ⟨_, rfl⟩
  rw [← hQ]
  change ab_W X (ab_pl y_MO_split1 b_MO_split1 3 (some (.int))) d G 0 [some (vR 80), some (vI (xs 1)), none] [] Q
  have hfr : ab_fr [80] G G := ab_fr.rf
  refine ab_aload_n d_MO_split1_0 rfl ?_
  refine ab_aload_n d_MO_split1_1 rfl ?_
  refine ab_iload_n d_MO_split1_2 rfl ?_
  refine ab_callV (d' := d - 1) (as := [vI (xs 1)]) (st := [vR 80]) (r := _) (q_MO_isThere_1 (xs := xs) hlen hsl h80 h112) (fun o G2 h => ⟨_, h.1⟩) (by omega) m_MO_isThere ml_MO_507 im_MO_isThere se_MO_isThere c_MO h80 (Nat.le_of_ble_eq_true rfl) d_MO_split1_3 rfl ?_
  intro v G1 hq
  obtain ⟨hv, hfk, hlen, hsl⟩ := hq
  cases hv
  have h80 := hfk.get (by decide) h80
  have h112 := hfk.get (by decide) h112
  have hfr := hfr.cl hfk (by decide)
  change ab_W _ _ _ G1 6 [some (vR 80), some (vI (xs 1)), none] [vI 0, vR 80] _
  refine ab_if_eq (tgt := 13) d_MO_split1_6 (by decide) (fun _ => ?_) (fun c => absurd c (by decide))
  refine ab_iconst (v := 1) d_MO_split1_13 (by decide) ?_
  refine ab_putf (fs := (m_fv (vI 0) (vI 0) (vI 0) (vI 0) (vI 0) (vI 0) (vI 0) (vI 0) (vI 0) (vI 0) (vI 0) (vI 0) (vI (-1)) (vI 0) (vI 0) (vI 0) (vI 0) (vI 0) (vI 0) (vI 0) (vI 0) (vI 0) (vI 0) (vI 0) (vI 0) (vI 0) (vI 0) (vI 0) (vI 0) (vI 0) (vI 0) (vI 0) (vI 0) (vI 0) (vI 0))) f_MO_220 (Or.inl rfl) d_MO_split1_14 h80 (Nat.le_of_ble_eq_true rfl) (fun _ => ⟨rfl, rfl⟩) (by decide) ?_
  obtain ⟨G2, eG2⟩ : ∃ z : ab_G, z = List.set G1 80 (ab_ob 12 (m_fv (vI 1) (vI 0) (vI 0) (vI 0) (vI 0) (vI 0) (vI 0) (vI 0) (vI 0) (vI 0) (vI 0) (vI 0) (vI (-1)) (vI 0) (vI 0) (vI 0) (vI 0) (vI 0) (vI 0) (vI 0) (vI 0) (vI 0) (vI 0) (vI 0) (vI 0) (vI 0) (vI 0) (vI 0) (vI 0) (vI 0) (vI 0) (vI 0) (vI 0) (vI 0) (vI 0))) := ⟨_, rfl⟩
  have h112 := ab_keep eG2 (by decide) h112
  have hlen := ab_klen eG2 hlen
  have hsl := ab_ksl 102 eG2 h80 rfl rfl hsl
  have hfr := hfr.wr eG2 (by decide)
  have h80 := ab_kept eG2 h80
  change ab_W _ _ _ (List.set G1 80 (ab_ob 12 (m_fv (vI 1) (vI 0) (vI 0) (vI 0) (vI 0) (vI 0) (vI 0) (vI 0) (vI 0) (vI 0) (vI 0) (vI 0) (vI (-1)) (vI 0) (vI 0) (vI 0) (vI 0) (vI 0) (vI 0) (vI 0) (vI 0) (vI 0) (vI 0) (vI 0) (vI 0) (vI 0) (vI 0) (vI 0) (vI 0) (vI 0) (vI 0) (vI 0) (vI 0) (vI 0) (vI 0)))) 17 [some (vR 80), some (vI (xs 1)), none] [] _
  rw [← eG2]
  refine ab_aload_n d_MO_split1_17 rfl ?_
  refine ab_getf (fs := (m_fv (vI 1) (vI 0) (vI 0) (vI 0) (vI 0) (vI 0) (vI 0) (vI 0) (vI 0) (vI 0) (vI 0) (vI 0) (vI (-1)) (vI 0) (vI 0) (vI 0) (vI 0) (vI 0) (vI 0) (vI 0) (vI 0) (vI 0) (vI 0) (vI 0) (vI 0) (vI 0) (vI 0) (vI 0) (vI 0) (vI 0) (vI 0) (vI 0) (vI 0) (vI 0) (vI 0))) f_MO_220 d_MO_split1_18 h80 rfl ?_
  refine ab_if_le (tgt := 26) d_MO_split1_21 (by decide) (fun c => absurd c (by decide)) (fun _ => ?_)
  refine ab_iconst (v := 0) d_MO_split1_24 (by decide) ?_
  exact ab_iret (rt := .int) rfl rfl d_MO_split1_25 (by rw [hQ]; exact ⟨rfl, hfr, hlen, hsl, h80⟩)
