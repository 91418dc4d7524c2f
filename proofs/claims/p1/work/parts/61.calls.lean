set_option maxRecDepth 100000 in
set_option maxHeartbeats 4000000 in
theorem lc_12 {X : ab_X} {d : Nat} {G : ab_G} {xs : Nat → Int32} (hlen : G.length = 149) (hsl : ab_slots G = 1890753) (h0 : G[0]? = some (ab_if 6 (xs))) (h18 : G[18]? = some (ab_ob 0 [vR 19, vR 20, vR 22, vR 30, vR 31, vR 36, vR 37, vR 46, vR 51, vR 60, vR 69, vR 70, vR 72, vR 74, vR 76, vR 78, vI 0, vI 0])) (h30 : G[30]? = some (.inl (3, 6, .inr (.inr (.inr (.inr (fun _ => none))))))) (h80 : G[80]? = some (ab_ob 12 (m_fv (vI 0) (vI 0) (vI 0) (vI 0) (vI 0) (vI 0) (vI 0) (vI 0) (vI 0) (vI 0) (vI 0) (vI 0) (vI (-1)) (vI 0) (vI 0) (vI 0) (vI 0) (vI 0) (vI 0) (vI 0) (vI 0) (vI 0) (vI 0) (vI 0) (vI 0) (vI 0) (vI 0) (vI 0) (vI 0) (vI 0) (vI 0) (vI 0) (vI 0) (vI 0) (vI 0)))) (h112 : G[112]? = some (ab_zf 6 ((fun _ => 0)))) (hd : 8 ≤ d) : ab_W X ab_LW d G 698 [some (vR 0), some (vR 18), some (vR 80), some (vR 148), some (vI 0), none, none] [] (fun o _ => o = .returned (some (vI 1))) := by
  obtain ⟨Q, hQ⟩ : ∃ z : Outcome → ab_G → Prop, z = (fun o _ => o = .returned (some (vI 1))) := ⟨_, rfl⟩
  rw [← hQ]
  have hfr : ab_fr [80, 149] G G := ab_fr.rf
  refine ab_aload_n d_LA_law_698 rfl ?_
  refine ab_aload_n d_LA_law_699 rfl ?_
  refine ab_iload d_LA_law_700 rfl ?_
  refine ab_iconst (v := 1) d_LA_law_702 (by decide) ?_
  refine ab_iadd d_LA_law_703 ?_
  refine ab_topi (y := 1) (by decide) ?_
  refine ab_iald d_LA_law_704 h0 (by unfold vp_in; decide) ?_
  refine ab_topi (y := (xs 1)) rfl ?_
  refine ab_aload_n d_LA_law_705 rfl ?_
  refine ab_callSW (d' := d - 1) (as := [vR 18, vI (xs 1), vR 148]) (st := []) (q_LA_split_0 (xs := xs) hlen hsl h18 h30 (by omega)) (fun o G2 h => ⟨_, h.1⟩) (by omega) m_LA_split mw_LA_92 st_LA_split (Nat.le_of_ble_eq_true rfl) d_LA_law_706 rfl ?_
  intro v G1 hq
  obtain ⟨hv, hfk, hlen, hsl, h149⟩ := hq
  cases hv
  have h0 := hfk.get (by decide) h0
  have h18 := hfk.get (by decide) h18
  have h30 := hfk.get (by decide) h30
  have h80 := hfk.get (by decide) h80
  have h112 := hfk.get (by decide) h112
  have hfr := hfr.cl hfk (by decide)
  change ab_W _ _ _ G1 709 [some (vR 0), some (vR 18), some (vR 80), some (vR 148), some (vI 0), none, none] [vI 1] _
  refine ab_istore d_LA_law_709 (Nat.le_of_ble_eq_true rfl) (Nat.le_of_ble_eq_true rfl) rfl ?_
  change ab_W _ _ _ G1 711 [some (vR 0), some (vR 18), some (vR 80), some (vR 148), some (vI 0), some (vI 1), none] [] _
  refine ab_aload_n d_LA_law_711 rfl ?_
  refine ab_aload_n d_LA_law_712 rfl ?_
  refine ab_iload d_LA_law_713 rfl ?_
  refine ab_iconst (v := 1) d_LA_law_715 (by decide) ?_
  refine ab_iadd d_LA_law_716 ?_
  refine ab_topi (y := 1) (by decide) ?_
  refine ab_iald d_LA_law_717 h0 (by unfold vp_in; decide) ?_
  refine ab_topi (y := (xs 1)) rfl ?_
  refine ab_callV (d' := d - 1) (as := [vI (xs 1)]) (st := []) (r := _) (q_MO_split1_0 (xs := xs) hlen hsl h80 h112 (by omega)) (fun o G2 h => ⟨_, h.1⟩) (by omega) m_MO_split1 ml_LA_94 im_MO_split1 se_MO_split1 c_MO h80 (Nat.le_of_ble_eq_true rfl) d_LA_law_718 rfl ?_
  intro v G2 hq
  obtain ⟨hv, hfk, hlen, hsl, h80⟩ := hq
  cases hv
  have h0 := hfk.get (by decide) h0
  have h18 := hfk.get (by decide) h18
  have h30 := hfk.get (by decide) h30
  have h112 := hfk.get (by decide) h112
  have h149 := hfk.get (by decide) h149
  have hfr := hfr.cl hfk (by decide)
  change ab_W _ _ _ G2 721 [some (vR 0), some (vR 18), some (vR 80), some (vR 148), some (vI 0), some (vI 1), none] [vI 0] _
  refine ab_istore d_LA_law_721 (Nat.le_of_ble_eq_true rfl) (Nat.le_of_ble_eq_true rfl) rfl ?_
  change ab_W _ _ _ G2 723 [some (vR 0), some (vR 18), some (vR 80), some (vR 148), some (vI 0), some (vI 1), some (vI 0)] [] _
  refine ab_aload_n d_LA_law_723 rfl ?_
  refine ab_callV (d' := d - 1) (as := []) (st := []) (r := _) (q_MO_thrown_0  hlen hsl h80) (fun o G2 h => ⟨_, h.1⟩) (by omega) m_MO_thrown ml_LA_52 im_MO_thrown se_MO_thrown c_MO h80 (Nat.le_of_ble_eq_true rfl) d_LA_law_724 rfl ?_
  intro v G3 hq
  obtain ⟨hv, hfk, hlen, hsl⟩ := hq
  cases hv
  have h0 := hfk.get (by decide) h0
  have h18 := hfk.get (by decide) h18
  have h30 := hfk.get (by decide) h30
  have h80 := hfk.get (by decide) h80
  have h112 := hfk.get (by decide) h112
  have h149 := hfk.get (by decide) h149
  have hfr := hfr.cl hfk (by decide)
  change ab_W _ _ _ G3 727 [some (vR 0), some (vR 18), some (vR 80), some (vR 148), some (vI 0), some (vI 1), some (vI 0)] [vI 1] _
  refine ab_iload d_LA_law_727 rfl ?_
  refine ab_icmp_eq (tgt := 734) d_LA_law_729 (by decide) (fun _ => ?_) (fun c => absurd c (by decide))
  refine ab_iload d_LA_law_734 rfl ?_
  refine ab_if_ne (tgt := 751) d_LA_law_736 (by decide) (fun _ => ?_) (fun c => absurd c (by decide))
  refine ab_goto (tgt := 931) d_LA_law_751 (by decide) ?_
  refine ab_iinc (v := 6) d_LA_law_931 rfl (by decide) (Nat.le_of_ble_eq_true rfl) (Nat.le_of_ble_eq_true rfl) rfl ?_
  change ab_W _ _ _ G3 934 [some (vR 0), some (vR 18), some (vR 80), some (vR 148), some (vI 6), some (vI 1), some (vI 0)] [] _
  refine ab_goto (tgt := 23) d_LA_law_934 (by decide) ?_
  refine ab_iload d_LA_law_23 rfl ?_
  refine ab_aload_n d_LA_law_25 rfl ?_
  refine ab_alen (v := 6) d_LA_law_26 h0 (by first | decide | rfl) ?_
  refine ab_bipush (v := 6) d_LA_law_27 (by decide) ?_
  refine ab_isub d_LA_law_29 ?_
  refine ab_topi (y := 0) (by decide) ?_
  refine ab_icmp_gt (tgt := 937) d_LA_law_30 (by decide) (fun _ => ?_) (fun c => absurd c (by decide))
  refine ab_iconst (v := 1) d_LA_law_937 (by decide) ?_
  exact ab_iret (rt := .boolean) rfl (by decide) d_LA_law_938 (by rw [hQ])
set_option maxRecDepth 100000 in
set_option maxHeartbeats 4000000 in
theorem q_PW_pairAt_1 {X : ab_X} {d : Nat} {G : ab_G} {xs : Nat → Int32} (hlen : G.length = 149) (hsl : ab_slots G = 1890753) (h72 : G[72]? = some (ab_ob 7 [vI 4004, vR 73, vI 0])) : ab_F X d y_PW_pairAt (.code y_PW_pairAt b_PW_pairAt 4 (some (.int))) [vR 72, vI (xs 1), vI (xs 2)] G (fun o G2 => o = .returned (some (vI (-1))) ∧ ab_fr [] G G2 ∧ G2.length = 149 ∧ ab_slots G2 = 1890753) := by
  refine ab_F_of (by decide +kernel) (Nat.le_of_ble_eq_true rfl) ?_
  obtain ⟨Q, hQ⟩ : ∃ z : Outcome → ab_G → Prop, z = (fun o G2 => o = .returned (some (vI (-1))) ∧ ab_fr [] G G2 ∧ G2.length = 149 ∧ ab_slots G2 = 1890753) := ⟨_, rfl⟩
  rw [← hQ]
  change ab_W X (ab_pl y_PW_pairAt b_PW_pairAt 4 (some (.int))) d G 0 [some (vR 72), some (vI (xs 1)), some (vI (xs 2)), none] [] Q
  have hfr : ab_fr [] G G := ab_fr.rf
  refine ab_iload_n d_PW_pairAt_0 rfl ?_
  refine ab_if_lt (tgt := 27) d_PW_pairAt_1 (by decide) (fun c0 => ?_) (fun c0 => ?_)
  · refine ab_iconst (v := 0) d_PW_pairAt_27 (by decide) ?_
    refine ab_istore_n d_PW_pairAt_28 (Nat.le_of_ble_eq_true rfl) (Nat.le_of_ble_eq_true rfl) rfl ?_
    change ab_W _ _ _ G 29 [some (vR 72), some (vI (xs 1)), some (vI (xs 2)), some (vI 0)] [] _
    refine ab_iload_n d_PW_pairAt_29 rfl ?_
    refine ab_if_eq (tgt := 45) d_PW_pairAt_30 (by decide) (fun _ => ?_) (fun c => absurd c (by decide))
    refine ab_iconst (v := (-1)) d_PW_pairAt_45 (by decide) ?_
    exact ab_iret (rt := .int) rfl rfl d_PW_pairAt_46 (by rw [hQ]; exact ⟨rfl, hfr, hlen, hsl⟩)
  · refine ab_iload_n d_PW_pairAt_4 rfl ?_
    refine ab_aload_n d_PW_pairAt_5 rfl ?_
    refine ab_getf (fs := [vI 4004, vR 73, vI 0]) f_PW_101 d_PW_pairAt_6 h72 rfl ?_
    refine ab_iconst (v := 2) d_PW_pairAt_9 (by decide) ?_
    refine ab_idiv d_PW_pairAt_10 (by decide) ?_
    refine ab_topi (y := 0) (by decide) ?_
    refine ab_icmp_ge (tgt := 27) d_PW_pairAt_11 (by decide) (fun c1 => ?_) (fun c1 => ?_)
    · refine ab_iconst (v := 0) d_PW_pairAt_27 (by decide) ?_
      refine ab_istore_n d_PW_pairAt_28 (Nat.le_of_ble_eq_true rfl) (Nat.le_of_ble_eq_true rfl) rfl ?_
      change ab_W _ _ _ G 29 [some (vR 72), some (vI (xs 1)), some (vI (xs 2)), some (vI 0)] [] _
      refine ab_iload_n d_PW_pairAt_29 rfl ?_
      refine ab_if_eq (tgt := 45) d_PW_pairAt_30 (by decide) (fun _ => ?_) (fun c => absurd c (by decide))
      refine ab_iconst (v := (-1)) d_PW_pairAt_45 (by decide) ?_
      exact ab_iret (rt := .int) rfl rfl d_PW_pairAt_46 (by rw [hQ]; exact ⟨rfl, hfr, hlen, hsl⟩)
    · exfalso; have l0 := (show (0 : Int32).toInt = 0 by decide); simp only [Int32.le_iff_toInt_le, Int32.lt_iff_toInt_lt, ← Int32.toInt_inj] at c0 c1; omega
set_option maxRecDepth 100000 in
set_option maxHeartbeats 4000000 in
theorem q_PW_piece_0 {X : ab_X} {d : Nat} {G : ab_G} {xs : Nat → Int32} (hlen : G.length = 149) (hsl : ab_slots G = 1890753) (h18 : G[18]? = some (ab_ob 0 [vR 19, vR 20, vR 22, vR 30, vR 31, vR 36, vR 37, vR 46, vR 51, vR 60, vR 69, vR 70, vR 72, vR 74, vR 76, vR 78, vI 0, vI 0])) (h72 : G[72]? = some (ab_ob 7 [vI 4004, vR 73, vI 0])) (hd : 1 ≤ d) : ab_F X d y_PW_piece (.code y_PW_piece b_PW_piece 3 (some (.int))) [vR 18, vI (xs 1), vI (xs 2)] G (fun o G2 => o = .returned (some (vI (-1))) ∧ ab_fr [] G G2 ∧ G2.length = 149 ∧ ab_slots G2 = 1890753) := by
  refine ab_F_of (by decide +kernel) (Nat.le_of_ble_eq_true rfl) ?_
  obtain ⟨Q, hQ⟩ : ∃ z : Outcome → ab_G → Prop, z = (fun o G2 => o = .returned (some (vI (-1))) ∧ ab_fr [] G G2 ∧ G2.length = 149 ∧ ab_slots G2 = 1890753) := ⟨_, rfl⟩
  rw [← hQ]
  change ab_W X (ab_pl y_PW_piece b_PW_piece 3 (some (.int))) d G 0 [some (vR 18), some (vI (xs 1)), some (vI (xs 2))] [] Q
  have hfr : ab_fr [] G G := ab_fr.rf
  refine ab_aload_n d_PW_piece_0 rfl ?_
  refine ab_getf (fs := [vR 19, vR 20, vR 22, vR 30, vR 31, vR 36, vR 37, vR 46, vR 51, vR 60, vR 69, vR 70, vR 72, vR 74, vR 76, vR 78, vI 0, vI 0]) f_PW_79 d_PW_piece_1 h18 rfl ?_
  refine ab_iload_n d_PW_piece_4 rfl ?_
  refine ab_iload_n d_PW_piece_5 rfl ?_
  refine ab_callS (d' := d - 1) (as := [vR 72, vI (xs 1), vI (xs 2)]) (st := []) (q_PW_pairAt_1 (xs := xs) hlen hsl h72) (fun o G2 h => ⟨_, h.1⟩) (by omega) m_PW_pairAt ml_PW_200 st_PW_pairAt (Nat.le_of_ble_eq_true rfl) d_PW_piece_6 rfl ?_
  intro v G1 hq
  obtain ⟨hv, hfk, hlen, hsl⟩ := hq
  cases hv
  have h18 := hfk.get (by decide) h18
  have h72 := hfk.get (by decide) h72
  have hfr := hfr.cl hfk (by decide)
  change ab_W _ _ _ G1 9 [some (vR 18), some (vI (xs 1)), some (vI (xs 2))] [vI (-1)] _
  exact ab_iret (rt := .int) rfl rfl d_PW_piece_9 (by rw [hQ]; exact ⟨rfl, hfr, hlen, hsl⟩)
set_option maxRecDepth 100000 in
set_option maxHeartbeats 4000000 in
theorem q_MO_piece_0 {X : ab_X} {d : Nat} {G : ab_G} {xs : Nat → Int32} (hlen : G.length = 149) (hsl : ab_slots G = 1890753) (h80 : G[80]? = some (ab_ob 12 (m_fv (vI 0) (vI 0) (vI 0) (vI 0) (vI 0) (vI 0) (vI 0) (vI 0) (vI 0) (vI 0) (vI 0) (vI 0) (vI (-1)) (vI 0) (vI 0) (vI 0) (vI 0) (vI 0) (vI 0) (vI 0) (vI 0) (vI 0) (vI 0) (vI 0) (vI 0) (vI 0) (vI 0) (vI 0) (vI 0) (vI 0) (vI 0) (vI 0) (vI 0) (vI 0) (vI 0)))) : ab_F X d y_MO_piece (.code y_MO_piece b_MO_piece 3 (some (.int))) [vR 80, vI (xs 1), vI (xs 2)] G (fun o G2 => o = .returned (some (vI (-1))) ∧ ab_fr [80] G G2 ∧ G2.length = 149 ∧ ab_slots G2 = 1890753 ∧ G2[80]? = some (ab_ob 12 (m_fv (vI 0) (vI 0) (vI 0) (vI 0) (vI 0) (vI 0) (vI 0) (vI 0) (vI 0) (vI 0) (vI 0) (vI 0) (vI (-1)) (vI 0) (vI 0) (vI 0) (vI 0) (vI 0) (vI 0) (vI 0) (vI 0) (vI 0) (vI 0) (vI 0) (vI 0) (vI 0) (vI 0) (vI 0) (vI 0) (vI 0) (vI 0) (vI 0) (vI 0) (vI 0) (vI 0)))) := by
  refine ab_F_of (by decide +kernel) (Nat.le_of_ble_eq_true rfl) ?_
  obtain ⟨Q, hQ⟩ : ∃ z : Outcome → ab_G → Prop, z = (fun o G2 => o = .returned (some (vI (-1))) ∧ ab_fr [80] G G2 ∧ G2.length = 149 ∧ ab_slots G2 = 1890753 ∧ G2[80]? = some (ab_ob 12 (m_fv (vI 0) (vI 0) (vI 0) (vI 0) (vI 0) (vI 0) (vI 0) (vI 0) (vI 0) (vI 0) (vI 0) (vI 0) (vI (-1)) (vI 0) (vI 0) (vI 0) (vI 0) (vI 0) (vI 0) (vI 0) (vI 0) (vI 0) (vI 0) (vI 0) (vI 0) (vI 0) (vI 0) (vI 0) (vI 0) (vI 0) (vI 0) (vI 0) (vI 0) (vI 0) (vI 0)))) := ⟨_, rfl⟩
  rw [← hQ]
  change ab_W X (ab_pl y_MO_piece b_MO_piece 3 (some (.int))) d G 0 [some (vR 80), some (vI (xs 1)), some (vI (xs 2))] [] Q
  have hfr : ab_fr [80] G G := ab_fr.rf
  refine ab_aload_n d_MO_piece_0 rfl ?_
  refine ab_iconst (v := 0) d_MO_piece_1 (by decide) ?_
  refine ab_putf (fs := (m_fv (vI 0) (vI 0) (vI 0) (vI 0) (vI 0) (vI 0) (vI 0) (vI 0) (vI 0) (vI 0) (vI 0) (vI 0) (vI (-1)) (vI 0) (vI 0) (vI 0) (vI 0) (vI 0) (vI 0) (vI 0) (vI 0) (vI 0) (vI 0) (vI 0) (vI 0) (vI 0) (vI 0) (vI 0) (vI 0) (vI 0) (vI 0) (vI 0) (vI 0) (vI 0) (vI 0))) f_MO_220 (Or.inl rfl) d_MO_piece_2 h80 (Nat.le_of_ble_eq_true rfl) (fun _ => ⟨rfl, rfl⟩) (by decide) ?_
  obtain ⟨G1, eG1⟩ : ∃ z : ab_G, z = List.set G 80 (ab_ob 12 (m_fv (vI 0) (vI 0) (vI 0) (vI 0) (vI 0) (vI 0) (vI 0) (vI 0) (vI 0) (vI 0) (vI 0) (vI 0) (vI (-1)) (vI 0) (vI 0) (vI 0) (vI 0) (vI 0) (vI 0) (vI 0) (vI 0) (vI 0) (vI 0) (vI 0) (vI 0) (vI 0) (vI 0) (vI 0) (vI 0) (vI 0) (vI 0) (vI 0) (vI 0) (vI 0) (vI 0))) := ⟨_, rfl⟩
  have hlen := ab_klen eG1 hlen
  have hsl := ab_ksl 102 eG1 h80 rfl rfl hsl
  have hfr := hfr.wr eG1 (by decide)
  have h80 := ab_kept eG1 h80
  change ab_W _ _ _ (List.set G 80 (ab_ob 12 (m_fv (vI 0) (vI 0) (vI 0) (vI 0) (vI 0) (vI 0) (vI 0) (vI 0) (vI 0) (vI 0) (vI 0) (vI 0) (vI (-1)) (vI 0) (vI 0) (vI 0) (vI 0) (vI 0) (vI 0) (vI 0) (vI 0) (vI 0) (vI 0) (vI 0) (vI 0) (vI 0) (vI 0) (vI 0) (vI 0) (vI 0) (vI 0) (vI 0) (vI 0) (vI 0) (vI 0)))) 5 [some (vR 80), some (vI (xs 1)), some (vI (xs 2))] [] _
  rw [← eG1]
  refine ab_iload_n d_MO_piece_5 rfl ?_
  refine ab_if_lt (tgt := 26) d_MO_piece_6 (by decide) (fun c0 => ?_) (fun c0 => ?_)
  · refine ab_iconst (v := (-1)) d_MO_piece_26 (by decide) ?_
    refine ab_goto (tgt := 40) d_MO_piece_27 (by decide) ?_
    exact ab_iret (rt := .int) rfl rfl d_MO_piece_40 (by rw [hQ]; exact ⟨rfl, hfr, hlen, hsl, h80⟩)
  · refine ab_iload_n d_MO_piece_9 rfl ?_
    refine ab_aload_n d_MO_piece_10 rfl ?_
    refine ab_getf (fs := (m_fv (vI 0) (vI 0) (vI 0) (vI 0) (vI 0) (vI 0) (vI 0) (vI 0) (vI 0) (vI 0) (vI 0) (vI 0) (vI (-1)) (vI 0) (vI 0) (vI 0) (vI 0) (vI 0) (vI 0) (vI 0) (vI 0) (vI 0) (vI 0) (vI 0) (vI 0) (vI 0) (vI 0) (vI 0) (vI 0) (vI 0) (vI 0) (vI 0) (vI 0) (vI 0) (vI 0))) f_MO_588 d_MO_piece_11 h80 rfl ?_
    refine ab_icmp_ge (tgt := 26) d_MO_piece_14 (by decide) (fun c1 => ?_) (fun c1 => ?_)
    · refine ab_iconst (v := (-1)) d_MO_piece_26 (by decide) ?_
      refine ab_goto (tgt := 40) d_MO_piece_27 (by decide) ?_
      exact ab_iret (rt := .int) rfl rfl d_MO_piece_40 (by rw [hQ]; exact ⟨rfl, hfr, hlen, hsl, h80⟩)
    · exfalso; have l0 := (show (0 : Int32).toInt = 0 by decide); simp only [Int32.le_iff_toInt_le, Int32.lt_iff_toInt_lt, ← Int32.toInt_inj] at c0 c1; omega
set_option maxRecDepth 100000 in
set_option maxHeartbeats 4000000 in
theorem lc_13 {X : ab_X} {d : Nat} {G : ab_G} {xs : Nat → Int32} (hlen : G.length = 149) (hsl : ab_slots G = 1890753) (h0 : G[0]? = some (ab_if 6 (xs))) (h18 : G[18]? = some (ab_ob 0 [vR 19, vR 20, vR 22, vR 30, vR 31, vR 36, vR 37, vR 46, vR 51, vR 60, vR 69, vR 70, vR 72, vR 74, vR 76, vR 78, vI 0, vI 0])) (h72 : G[72]? = some (ab_ob 7 [vI 4004, vR 73, vI 0])) (h80 : G[80]? = some (ab_ob 12 (m_fv (vI 0) (vI 0) (vI 0) (vI 0) (vI 0) (vI 0) (vI 0) (vI 0) (vI 0) (vI 0) (vI 0) (vI 0) (vI (-1)) (vI 0) (vI 0) (vI 0) (vI 0) (vI 0) (vI 0) (vI 0) (vI 0) (vI 0) (vI 0) (vI 0) (vI 0) (vI 0) (vI 0) (vI 0) (vI 0) (vI 0) (vI 0) (vI 0) (vI 0) (vI 0) (vI 0)))) (hd : 2 ≤ d) : ab_W X ab_LW d G 754 [some (vR 0), some (vR 18), some (vR 80), some (vR 148), some (vI 0), none, none] [] (fun o _ => o = .returned (some (vI 1))) := by
  obtain ⟨Q, hQ⟩ : ∃ z : Outcome → ab_G → Prop, z = (fun o _ => o = .returned (some (vI 1))) := ⟨_, rfl⟩
  rw [← hQ]
  have hfr : ab_fr [80] G G := ab_fr.rf
  refine ab_aload_n d_LA_law_754 rfl ?_
  refine ab_aload_n d_LA_law_755 rfl ?_
  refine ab_iload d_LA_law_756 rfl ?_
  refine ab_iconst (v := 1) d_LA_law_758 (by decide) ?_
  refine ab_iadd d_LA_law_759 ?_
  refine ab_topi (y := 1) (by decide) ?_
  refine ab_iald d_LA_law_760 h0 (by unfold vp_in; decide) ?_
  refine ab_topi (y := (xs 1)) rfl ?_
  refine ab_aload_n d_LA_law_761 rfl ?_
  refine ab_iload d_LA_law_762 rfl ?_
  refine ab_iconst (v := 2) d_LA_law_764 (by decide) ?_
  refine ab_iadd d_LA_law_765 ?_
  refine ab_topi (y := 2) (by decide) ?_
  refine ab_iald d_LA_law_766 h0 (by unfold vp_in; decide) ?_
  refine ab_topi (y := (xs 2)) rfl ?_
  refine ab_callV (d' := d - 1) (as := [vI (xs 1), vI (xs 2)]) (st := []) (r := _) (q_PW_piece_0 (xs := xs) hlen hsl h18 h72 (by omega)) (fun o G2 h => ⟨_, h.1⟩) (by omega) m_PW_piece ml_LA_95 im_PW_piece se_PW_piece c_PW h18 (Nat.le_of_ble_eq_true rfl) d_LA_law_767 rfl ?_
  intro v G1 hq
  obtain ⟨hv, hfk, hlen, hsl⟩ := hq
  cases hv
  have h0 := hfk.get (by decide) h0
  have h18 := hfk.get (by decide) h18
  have h72 := hfk.get (by decide) h72
  have h80 := hfk.get (by decide) h80
  have hfr := hfr.cl hfk (by decide)
  change ab_W _ _ _ G1 770 [some (vR 0), some (vR 18), some (vR 80), some (vR 148), some (vI 0), none, none] [vI (-1)] _
  refine ab_aload_n d_LA_law_770 rfl ?_
  refine ab_aload_n d_LA_law_771 rfl ?_
  refine ab_iload d_LA_law_772 rfl ?_
  refine ab_iconst (v := 1) d_LA_law_774 (by decide) ?_
  refine ab_iadd d_LA_law_775 ?_
  refine ab_topi (y := 1) (by decide) ?_
  refine ab_iald d_LA_law_776 h0 (by unfold vp_in; decide) ?_
  refine ab_topi (y := (xs 1)) rfl ?_
  refine ab_aload_n d_LA_law_777 rfl ?_
  refine ab_iload d_LA_law_778 rfl ?_
  refine ab_iconst (v := 2) d_LA_law_780 (by decide) ?_
  refine ab_iadd d_LA_law_781 ?_
  refine ab_topi (y := 2) (by decide) ?_
  refine ab_iald d_LA_law_782 h0 (by unfold vp_in; decide) ?_
  refine ab_topi (y := (xs 2)) rfl ?_
  refine ab_callV (d' := d - 1) (as := [vI (xs 1), vI (xs 2)]) (st := [vI (-1)]) (r := _) (q_MO_piece_0 (xs := xs) hlen hsl h80) (fun o G2 h => ⟨_, h.1⟩) (by omega) m_MO_piece ml_LA_98 im_MO_piece se_MO_piece c_MO h80 (Nat.le_of_ble_eq_true rfl) d_LA_law_783 rfl ?_
  intro v G2 hq
  obtain ⟨hv, hfk, hlen, hsl, h80⟩ := hq
  cases hv
  have h0 := hfk.get (by decide) h0
  have h18 := hfk.get (by decide) h18
  have h72 := hfk.get (by decide) h72
  have hfr := hfr.cl hfk (by decide)
  change ab_W _ _ _ G2 786 [some (vR 0), some (vR 18), some (vR 80), some (vR 148), some (vI 0), none, none] [vI (-1), vI (-1)] _
  refine ab_icmp_eq (tgt := 931) d_LA_law_786 (by decide) (fun _ => ?_) (fun c => absurd c (by decide))
  refine ab_iinc (v := 6) d_LA_law_931 rfl (by decide) (Nat.le_of_ble_eq_true rfl) (Nat.le_of_ble_eq_true rfl) rfl ?_
  change ab_W _ _ _ G2 934 [some (vR 0), some (vR 18), some (vR 80), some (vR 148), some (vI 6), none, none] [] _
  refine ab_goto (tgt := 23) d_LA_law_934 (by decide) ?_
  refine ab_iload d_LA_law_23 rfl ?_
  refine ab_aload_n d_LA_law_25 rfl ?_
  refine ab_alen (v := 6) d_LA_law_26 h0 (by first | decide | rfl) ?_
  refine ab_bipush (v := 6) d_LA_law_27 (by decide) ?_
  refine ab_isub d_LA_law_29 ?_
  refine ab_topi (y := 0) (by decide) ?_
  refine ab_icmp_gt (tgt := 937) d_LA_law_30 (by decide) (fun _ => ?_) (fun c => absurd c (by decide))
  refine ab_iconst (v := 1) d_LA_law_937 (by decide) ?_
  exact ab_iret (rt := .boolean) rfl (by decide) d_LA_law_938 (by rw [hQ])
set_option maxRecDepth 100000 in
set_option maxHeartbeats 4000000 in
theorem q_PW_settle_0 {X : ab_X} {d : Nat} {G : ab_G}  (hlen : G.length = 149) (hsl : ab_slots G = 1890753) (h18 : G[18]? = some (ab_ob 0 [vR 19, vR 20, vR 22, vR 30, vR 31, vR 36, vR 37, vR 46, vR 51, vR 60, vR 69, vR 70, vR 72, vR 74, vR 76, vR 78, vI 0, vI 0])) (h31 : G[31]? = some (ab_ob 9 [vR 32, vR 33, vR 34, vR 35, vI 0])) (h37 : G[37]? = some (ab_ob 11 [vR 38, vR 39, vR 40, vR 41, vR 42, vR 43, vI 0, vI 0, vR 44, vI 0, vR 45, vI 0, vN, vN, vI 0, vI 0, vJ 0])) (h46 : G[46]? = some (ab_ob 2 [vR 47, vR 48, vR 49, vI 0, vI 0, vR 50, vI 0, vI 0, vI 0, vI 0, vN, vN, vJ 0])) (h51 : G[51]? = some (ab_ob 3 [vR 52, vR 53, vR 54, vR 55, vR 57, vR 58, vR 59, vI 0, vI 0, vI 0, vN, vN, vI 0, vI 0, vJ 0])) (h60 : G[60]? = some (ab_ob 8 [vI 32, vN, vI 0, vI 0, vR 61, vI 0, vR 62, vR 63, vR 64, vR 65, vI 0, vR 66, vI 0, vR 67, vI 0, vR 68, vI 0, vJ 0])) : ab_F X d y_PW_settle (.code y_PW_settle b_PW_settle 7 none) [vR 18, vI 0, vI 0] G (fun o G2 => o = .returned none ∧ ab_fr [37, 46, 51, 60] G G2 ∧ G2.length = 149 ∧ ab_slots G2 = 1890753 ∧ G2[37]? = some (ab_ob 11 [vR 38, vR 39, vR 40, vR 41, vR 42, vR 43, vI 0, vI 0, vR 44, vI 0, vR 45, vI 0, vN, vN, vI 0, vI 0, vJ 0]) ∧ G2[46]? = some (ab_ob 2 [vR 47, vR 48, vR 49, vI 0, vI 0, vR 50, vI 0, vI 0, vI 0, vI 0, vN, vN, vJ 0]) ∧ G2[51]? = some (ab_ob 3 [vR 52, vR 53, vR 54, vR 55, vR 57, vR 58, vR 59, vI 0, vI 0, vI 0, vN, vN, vI 0, vI 0, vJ 0]) ∧ G2[60]? = some (ab_ob 8 [vI 32, vN, vI 0, vI 0, vR 61, vI 0, vR 62, vR 63, vR 64, vR 65, vI 0, vR 66, vI 0, vR 67, vI 0, vR 68, vI 0, vJ 0])) := by
  refine ab_F_of (by decide +kernel) (Nat.le_of_ble_eq_true rfl) ?_
  obtain ⟨Q, hQ⟩ : ∃ z : Outcome → ab_G → Prop, z = (fun o G2 => o = .returned none ∧ ab_fr [37, 46, 51, 60] G G2 ∧ G2.length = 149 ∧ ab_slots G2 = 1890753 ∧ G2[37]? = some (ab_ob 11 [vR 38, vR 39, vR 40, vR 41, vR 42, vR 43, vI 0, vI 0, vR 44, vI 0, vR 45, vI 0, vN, vN, vI 0, vI 0, vJ 0]) ∧ G2[46]? = some (ab_ob 2 [vR 47, vR 48, vR 49, vI 0, vI 0, vR 50, vI 0, vI 0, vI 0, vI 0, vN, vN, vJ 0]) ∧ G2[51]? = some (ab_ob 3 [vR 52, vR 53, vR 54, vR 55, vR 57, vR 58, vR 59, vI 0, vI 0, vI 0, vN, vN, vI 0, vI 0, vJ 0]) ∧ G2[60]? = some (ab_ob 8 [vI 32, vN, vI 0, vI 0, vR 61, vI 0, vR 62, vR 63, vR 64, vR 65, vI 0, vR 66, vI 0, vR 67, vI 0, vR 68, vI 0, vJ 0])) := ⟨_, rfl⟩
  rw [← hQ]
  change ab_W X (ab_pl y_PW_settle b_PW_settle 7 none) d G 0 [some (vR 18), some (vI 0), some (vI 0), none, none, none, none] [] Q
  have hfr : ab_fr [37, 46, 51, 60] G G := ab_fr.rf
  refine ab_ldc2 (v := 400) d_PW_settle_0 cn_PW_253 ?_
  refine ab_iload_n d_PW_settle_3 rfl ?_
  refine ab_bipush (v := 20) d_PW_settle_4 (by decide) ?_
  refine ab_iadd d_PW_settle_6 ?_
  refine ab_topi (y := 20) (by decide) ?_
  refine ab_i2l d_PW_settle_7 ?_
  refine ab_topl (y := 20) (by decide) ?_
  refine ab_lmul d_PW_settle_8 ?_
  refine ab_topl (y := 8000) (by decide) ?_
  refine ab_aload_n d_PW_settle_9 rfl ?_
  refine ab_getf (fs := [vR 19, vR 20, vR 22, vR 30, vR 31, vR 36, vR 37, vR 46, vR 51, vR 60, vR 69, vR 70, vR 72, vR 74, vR 76, vR 78, vI 0, vI 0]) f_PW_38 d_PW_settle_10 h18 rfl ?_
  refine ab_getf (fs := [vR 32, vR 33, vR 34, vR 35, vI 0]) f_PW_164 d_PW_settle_13 h31 rfl ?_
  refine ab_bipush (v := 20) d_PW_settle_16 (by decide) ?_
  refine ab_iadd d_PW_settle_18 ?_
  refine ab_topi (y := 20) (by decide) ?_
  refine ab_i2l d_PW_settle_19 ?_
  refine ab_topl (y := 20) (by decide) ?_
  refine ab_lmul d_PW_settle_20 ?_
  refine ab_topl (y := 160000) (by decide) ?_
  refine ab_iload_n d_PW_settle_21 rfl ?_
  refine ab_iconst (v := 1) d_PW_settle_22 (by decide) ?_
  refine ab_iadd d_PW_settle_23 ?_
  refine ab_topi (y := 1) (by decide) ?_
  refine ab_i2l d_PW_settle_24 ?_
  refine ab_topl (y := 1) (by decide) ?_
  refine ab_lmul d_PW_settle_25 ?_
  refine ab_topl (y := 160000) (by decide) ?_
  refine ab_lstore_n d_PW_settle_26 (Nat.le_of_ble_eq_true rfl) (Nat.le_of_ble_eq_true rfl) rfl ?_
  change ab_W _ _ _ G 27 [some (vR 18), some (vI 0), some (vI 0), some (vJ 160000), none, none, none] [] _
  refine ab_aload_n d_PW_settle_27 rfl ?_
  refine ab_getf (fs := [vR 19, vR 20, vR 22, vR 30, vR 31, vR 36, vR 37, vR 46, vR 51, vR 60, vR 69, vR 70, vR 72, vR 74, vR 76, vR 78, vI 0, vI 0]) f_PW_48 d_PW_settle_28 h18 rfl ?_
  refine ab_getf (fs := [vR 38, vR 39, vR 40, vR 41, vR 42, vR 43, vI 0, vI 0, vR 44, vI 0, vR 45, vI 0, vN, vN, vI 0, vI 0, vJ 0]) f_PW_255 d_PW_settle_31 h37 rfl ?_
  refine ab_aload_n d_PW_settle_34 rfl ?_
  refine ab_getf (fs := [vR 19, vR 20, vR 22, vR 30, vR 31, vR 36, vR 37, vR 46, vR 51, vR 60, vR 69, vR 70, vR 72, vR 74, vR 76, vR 78, vI 0, vI 0]) f_PW_55 d_PW_settle_35 h18 rfl ?_
  refine ab_getf (fs := [vR 47, vR 48, vR 49, vI 0, vI 0, vR 50, vI 0, vI 0, vI 0, vI 0, vN, vN, vJ 0]) f_PW_259 d_PW_settle_38 h46 rfl ?_
  refine ab_ladd d_PW_settle_41 ?_
  refine ab_topl (y := 0) (by decide) ?_
  refine ab_aload_n d_PW_settle_42 rfl ?_
  refine ab_getf (fs := [vR 19, vR 20, vR 22, vR 30, vR 31, vR 36, vR 37, vR 46, vR 51, vR 60, vR 69, vR 70, vR 72, vR 74, vR 76, vR 78, vI 0, vI 0]) f_PW_62 d_PW_settle_43 h18 rfl ?_
  refine ab_getf (fs := [vR 52, vR 53, vR 54, vR 55, vR 57, vR 58, vR 59, vI 0, vI 0, vI 0, vN, vN, vI 0, vI 0, vJ 0]) f_PW_260 d_PW_settle_46 h51 rfl ?_
  refine ab_ladd d_PW_settle_49 ?_
  refine ab_topl (y := 0) (by decide) ?_
  refine ab_aload_n d_PW_settle_50 rfl ?_
  refine ab_getf (fs := [vR 19, vR 20, vR 22, vR 30, vR 31, vR 36, vR 37, vR 46, vR 51, vR 60, vR 69, vR 70, vR 72, vR 74, vR 76, vR 78, vI 0, vI 0]) f_PW_69 d_PW_settle_51 h18 rfl ?_
  refine ab_getf (fs := [vI 32, vN, vI 0, vI 0, vR 61, vI 0, vR 62, vR 63, vR 64, vR 65, vI 0, vR 66, vI 0, vR 67, vI 0, vR 68, vI 0, vJ 0]) f_PW_261 d_PW_settle_54 h60 rfl ?_
  refine ab_ladd d_PW_settle_57 ?_
  refine ab_topl (y := 0) (by decide) ?_
  refine ab_lstore d_PW_settle_58 (Nat.le_of_ble_eq_true rfl) (Nat.le_of_ble_eq_true rfl) rfl ?_
  change ab_W _ _ _ G 60 [some (vR 18), some (vI 0), some (vI 0), some (vJ 160000), none, some (vJ 0), none] [] _
  refine ab_lload d_PW_settle_60 rfl ?_
  refine ab_lload_n d_PW_settle_62 rfl ?_
  refine ab_lcmp d_PW_settle_63 ?_
  refine ab_topi (y := (-1)) (by decide +kernel) ?_
  refine ab_if_le (tgt := 77) d_PW_settle_64 (by decide) (fun _ => ?_) (fun c => absurd c (by decide))
  refine ab_aload_n d_PW_settle_77 rfl ?_
  refine ab_getf (fs := [vR 19, vR 20, vR 22, vR 30, vR 31, vR 36, vR 37, vR 46, vR 51, vR 60, vR 69, vR 70, vR 72, vR 74, vR 76, vR 78, vI 0, vI 0]) f_PW_48 d_PW_settle_78 h18 rfl ?_
  refine ab_lconst (v := 0) d_PW_settle_81 (by decide) ?_
  refine ab_putf (fs := [vR 38, vR 39, vR 40, vR 41, vR 42, vR 43, vI 0, vI 0, vR 44, vI 0, vR 45, vI 0, vN, vN, vI 0, vI 0, vJ 0]) f_PW_255 (Or.inl rfl) d_PW_settle_82 h37 (Nat.le_of_ble_eq_true rfl) (fun _ => ⟨rfl, rfl⟩) (by decide) ?_
  obtain ⟨G1, eG1⟩ : ∃ z : ab_G, z = List.set G 37 (ab_ob 11 [vR 38, vR 39, vR 40, vR 41, vR 42, vR 43, vI 0, vI 0, vR 44, vI 0, vR 45, vI 0, vN, vN, vI 0, vI 0, vJ 0]) := ⟨_, rfl⟩
  have h18 := ab_keep eG1 (by decide) h18
  have h31 := ab_keep eG1 (by decide) h31
  have h46 := ab_keep eG1 (by decide) h46
  have h51 := ab_keep eG1 (by decide) h51
  have h60 := ab_keep eG1 (by decide) h60
  have hlen := ab_klen eG1 hlen
  have hsl := ab_ksl 17 eG1 h37 rfl rfl hsl
  have hfr := hfr.wr eG1 (by decide)
  have h37 := ab_kept eG1 h37
  change ab_W _ _ _ (List.set G 37 (ab_ob 11 [vR 38, vR 39, vR 40, vR 41, vR 42, vR 43, vI 0, vI 0, vR 44, vI 0, vR 45, vI 0, vN, vN, vI 0, vI 0, vJ 0])) 85 [some (vR 18), some (vI 0), some (vI 0), some (vJ 160000), none, some (vJ 0), none] [] _
  rw [← eG1]
  refine ab_aload_n d_PW_settle_85 rfl ?_
  refine ab_getf (fs := [vR 19, vR 20, vR 22, vR 30, vR 31, vR 36, vR 37, vR 46, vR 51, vR 60, vR 69, vR 70, vR 72, vR 74, vR 76, vR 78, vI 0, vI 0]) f_PW_55 d_PW_settle_86 h18 rfl ?_
  refine ab_lconst (v := 0) d_PW_settle_89 (by decide) ?_
  refine ab_putf (fs := [vR 47, vR 48, vR 49, vI 0, vI 0, vR 50, vI 0, vI 0, vI 0, vI 0, vN, vN, vJ 0]) f_PW_259 (Or.inl rfl) d_PW_settle_90 h46 (Nat.le_of_ble_eq_true rfl) (fun _ => ⟨rfl, rfl⟩) (by decide) ?_
  obtain ⟨G2, eG2⟩ : ∃ z : ab_G, z = List.set G1 46 (ab_ob 2 [vR 47, vR 48, vR 49, vI 0, vI 0, vR 50, vI 0, vI 0, vI 0, vI 0, vN, vN, vJ 0]) := ⟨_, rfl⟩
  have h18 := ab_keep eG2 (by decide) h18
  have h31 := ab_keep eG2 (by decide) h31
  have h37 := ab_keep eG2 (by decide) h37
  have h51 := ab_keep eG2 (by decide) h51
  have h60 := ab_keep eG2 (by decide) h60
  have hlen := ab_klen eG2 hlen
  have hsl := ab_ksl 13 eG2 h46 rfl rfl hsl
  have hfr := hfr.wr eG2 (by decide)
  have h46 := ab_kept eG2 h46
  change ab_W _ _ _ (List.set G1 46 (ab_ob 2 [vR 47, vR 48, vR 49, vI 0, vI 0, vR 50, vI 0, vI 0, vI 0, vI 0, vN, vN, vJ 0])) 93 [some (vR 18), some (vI 0), some (vI 0), some (vJ 160000), none, some (vJ 0), none] [] _
  rw [← eG2]
  refine ab_aload_n d_PW_settle_93 rfl ?_
  refine ab_getf (fs := [vR 19, vR 20, vR 22, vR 30, vR 31, vR 36, vR 37, vR 46, vR 51, vR 60, vR 69, vR 70, vR 72, vR 74, vR 76, vR 78, vI 0, vI 0]) f_PW_62 d_PW_settle_94 h18 rfl ?_
  refine ab_lconst (v := 0) d_PW_settle_97 (by decide) ?_
  refine ab_putf (fs := [vR 52, vR 53, vR 54, vR 55, vR 57, vR 58, vR 59, vI 0, vI 0, vI 0, vN, vN, vI 0, vI 0, vJ 0]) f_PW_260 (Or.inl rfl) d_PW_settle_98 h51 (Nat.le_of_ble_eq_true rfl) (fun _ => ⟨rfl, rfl⟩) (by decide) ?_
  obtain ⟨G3, eG3⟩ : ∃ z : ab_G, z = List.set G2 51 (ab_ob 3 [vR 52, vR 53, vR 54, vR 55, vR 57, vR 58, vR 59, vI 0, vI 0, vI 0, vN, vN, vI 0, vI 0, vJ 0]) := ⟨_, rfl⟩
  have h18 := ab_keep eG3 (by decide) h18
  have h31 := ab_keep eG3 (by decide) h31
  have h37 := ab_keep eG3 (by decide) h37
  have h46 := ab_keep eG3 (by decide) h46
  have h60 := ab_keep eG3 (by decide) h60
  have hlen := ab_klen eG3 hlen
  have hsl := ab_ksl 15 eG3 h51 rfl rfl hsl
  have hfr := hfr.wr eG3 (by decide)
  have h51 := ab_kept eG3 h51
  change ab_W _ _ _ (List.set G2 51 (ab_ob 3 [vR 52, vR 53, vR 54, vR 55, vR 57, vR 58, vR 59, vI 0, vI 0, vI 0, vN, vN, vI 0, vI 0, vJ 0])) 101 [some (vR 18), some (vI 0), some (vI 0), some (vJ 160000), none, some (vJ 0), none] [] _
  rw [← eG3]
  refine ab_aload_n d_PW_settle_101 rfl ?_
  refine ab_getf (fs := [vR 19, vR 20, vR 22, vR 30, vR 31, vR 36, vR 37, vR 46, vR 51, vR 60, vR 69, vR 70, vR 72, vR 74, vR 76, vR 78, vI 0, vI 0]) f_PW_69 d_PW_settle_102 h18 rfl ?_
  refine ab_lconst (v := 0) d_PW_settle_105 (by decide) ?_
  refine ab_putf (fs := [vI 32, vN, vI 0, vI 0, vR 61, vI 0, vR 62, vR 63, vR 64, vR 65, vI 0, vR 66, vI 0, vR 67, vI 0, vR 68, vI 0, vJ 0]) f_PW_261 (Or.inl rfl) d_PW_settle_106 h60 (Nat.le_of_ble_eq_true rfl) (fun _ => ⟨rfl, rfl⟩) (by decide) ?_
  obtain ⟨G4, eG4⟩ : ∃ z : ab_G, z = List.set G3 60 (ab_ob 8 [vI 32, vN, vI 0, vI 0, vR 61, vI 0, vR 62, vR 63, vR 64, vR 65, vI 0, vR 66, vI 0, vR 67, vI 0, vR 68, vI 0, vJ 0]) := ⟨_, rfl⟩
  have h18 := ab_keep eG4 (by decide) h18
  have h31 := ab_keep eG4 (by decide) h31
  have h37 := ab_keep eG4 (by decide) h37
  have h46 := ab_keep eG4 (by decide) h46
  have h51 := ab_keep eG4 (by decide) h51
  have hlen := ab_klen eG4 hlen
  have hsl := ab_ksl 18 eG4 h60 rfl rfl hsl
  have hfr := hfr.wr eG4 (by decide)
  have h60 := ab_kept eG4 h60
  change ab_W _ _ _ (List.set G3 60 (ab_ob 8 [vI 32, vN, vI 0, vI 0, vR 61, vI 0, vR 62, vR 63, vR 64, vR 65, vI 0, vR 66, vI 0, vR 67, vI 0, vR 68, vI 0, vJ 0])) 109 [some (vR 18), some (vI 0), some (vI 0), some (vJ 160000), none, some (vJ 0), none] [] _
  rw [← eG4]
  exact ab_vret rfl d_PW_settle_109 (by rw [hQ]; exact ⟨rfl, hfr, hlen, hsl, h37, h46, h51, h60⟩)
set_option maxRecDepth 100000 in
set_option maxHeartbeats 4000000 in
theorem q_PW_which_0 {X : ab_X} {d : Nat} {G : ab_G} {xs : Nat → Int32} (hlen : G.length = 149) (hsl : ab_slots G = 1890753) (h18 : G[18]? = some (ab_ob 0 [vR 19, vR 20, vR 22, vR 30, vR 31, vR 36, vR 37, vR 46, vR 51, vR 60, vR 69, vR 70, vR 72, vR 74, vR 76, vR 78, vI 0, vI 0])) (h30 : G[30]? = some (.inl (3, 6, .inr (.inr (.inr (.inr (fun _ => none))))))) (h31 : G[31]? = some (ab_ob 9 [vR 32, vR 33, vR 34, vR 35, vI 0])) (h37 : G[37]? = some (ab_ob 11 [vR 38, vR 39, vR 40, vR 41, vR 42, vR 43, vI 0, vI 0, vR 44, vI 0, vR 45, vI 0, vN, vN, vI 0, vI 0, vJ 0])) (h46 : G[46]? = some (ab_ob 2 [vR 47, vR 48, vR 49, vI 0, vI 0, vR 50, vI 0, vI 0, vI 0, vI 0, vN, vN, vJ 0])) (h51 : G[51]? = some (ab_ob 3 [vR 52, vR 53, vR 54, vR 55, vR 57, vR 58, vR 59, vI 0, vI 0, vI 0, vN, vN, vI 0, vI 0, vJ 0])) (h60 : G[60]? = some (ab_ob 8 [vI 32, vN, vI 0, vI 0, vR 61, vI 0, vR 62, vR 63, vR 64, vR 65, vI 0, vR 66, vI 0, vR 67, vI 0, vR 68, vI 0, vJ 0])) (hd : 1 ≤ d) : ab_F X d y_PW_which (.code y_PW_which b_PW_which 11 (some (.int))) [vR 18, vI (xs 1), vI 0] G (fun o G2 => o = .returned (some (vI 0)) ∧ ab_fr [37, 46, 51, 60] G G2 ∧ G2.length = 149 ∧ ab_slots G2 = 1890753 ∧ G2[37]? = some (ab_ob 11 [vR 38, vR 39, vR 40, vR 41, vR 42, vR 43, vI 0, vI 0, vR 44, vI 0, vR 45, vI 0, vN, vN, vI 0, vI 0, vJ 0]) ∧ G2[46]? = some (ab_ob 2 [vR 47, vR 48, vR 49, vI 0, vI 0, vR 50, vI 0, vI 0, vI 0, vI 0, vN, vN, vJ 0]) ∧ G2[51]? = some (ab_ob 3 [vR 52, vR 53, vR 54, vR 55, vR 57, vR 58, vR 59, vI 0, vI 0, vI 0, vN, vN, vI 0, vI 0, vJ 0]) ∧ G2[60]? = some (ab_ob 8 [vI 32, vN, vI 0, vI 0, vR 61, vI 0, vR 62, vR 63, vR 64, vR 65, vI 0, vR 66, vI 0, vR 67, vI 0, vR 68, vI 0, vJ 0])) := by
  refine ab_F_of (by decide +kernel) (Nat.le_of_ble_eq_true rfl) ?_
  obtain ⟨Q, hQ⟩ : ∃ z : Outcome → ab_G → Prop, z = (fun o G2 => o = .returned (some (vI 0)) ∧ ab_fr [37, 46, 51, 60] G G2 ∧ G2.length = 149 ∧ ab_slots G2 = 1890753 ∧ G2[37]? = some (ab_ob 11 [vR 38, vR 39, vR 40, vR 41, vR 42, vR 43, vI 0, vI 0, vR 44, vI 0, vR 45, vI 0, vN, vN, vI 0, vI 0, vJ 0]) ∧ G2[46]? = some (ab_ob 2 [vR 47, vR 48, vR 49, vI 0, vI 0, vR 50, vI 0, vI 0, vI 0, vI 0, vN, vN, vJ 0]) ∧ G2[51]? = some (ab_ob 3 [vR 52, vR 53, vR 54, vR 55, vR 57, vR 58, vR 59, vI 0, vI 0, vI 0, vN, vN, vI 0, vI 0, vJ 0]) ∧ G2[60]? = some (ab_ob 8 [vI 32, vN, vI 0, vI 0, vR 61, vI 0, vR 62, vR 63, vR 64, vR 65, vI 0, vR 66, vI 0, vR 67, vI 0, vR 68, vI 0, vJ 0])) := ⟨_, rfl⟩
  rw [← hQ]
  change ab_W X (ab_pl y_PW_which b_PW_which 11 (some (.int))) d G 0 [some (vR 18), some (vI (xs 1)), some (vI 0), none, none, none, none, none, none, none, none] [] Q
  have hfr : ab_fr [37, 46, 51, 60] G G := ab_fr.rf
  refine ab_iconst (v := 0) d_PW_which_0 (by decide) ?_
  refine ab_istore_n d_PW_which_1 (Nat.le_of_ble_eq_true rfl) (Nat.le_of_ble_eq_true rfl) rfl ?_
  change ab_W _ _ _ G 2 [some (vR 18), some (vI (xs 1)), some (vI 0), some (vI 0), none, none, none, none, none, none, none] [] _
  refine ab_iconst (v := 0) d_PW_which_2 (by decide) ?_
  refine ab_istore d_PW_which_3 (Nat.le_of_ble_eq_true rfl) (Nat.le_of_ble_eq_true rfl) rfl ?_
  change ab_W _ _ _ G 5 [some (vR 18), some (vI (xs 1)), some (vI 0), some (vI 0), some (vI 0), none, none, none, none, none, none] [] _
  refine ab_iconst (v := 0) d_PW_which_5 (by decide) ?_
  refine ab_istore d_PW_which_6 (Nat.le_of_ble_eq_true rfl) (Nat.le_of_ble_eq_true rfl) rfl ?_
  change ab_W _ _ _ G 8 [some (vR 18), some (vI (xs 1)), some (vI 0), some (vI 0), some (vI 0), some (vI 0), none, none, none, none, none] [] _
  refine ab_iconst (v := 0) d_PW_which_8 (by decide) ?_
  refine ab_istore d_PW_which_9 (Nat.le_of_ble_eq_true rfl) (Nat.le_of_ble_eq_true rfl) rfl ?_
  change ab_W _ _ _ G 11 [some (vR 18), some (vI (xs 1)), some (vI 0), some (vI 0), some (vI 0), some (vI 0), some (vI 0), none, none, none, none] [] _
  refine ab_iload d_PW_which_11 rfl ?_
  refine ab_bipush (v := 6) d_PW_which_13 (by decide) ?_
  refine ab_icmp_ge (tgt := 147) d_PW_which_15 (by decide) (fun c => absurd c (by decide)) (fun _ => ?_)
  refine ab_aload_n d_PW_which_18 rfl ?_
  refine ab_getf (fs := [vR 19, vR 20, vR 22, vR 30, vR 31, vR 36, vR 37, vR 46, vR 51, vR 60, vR 69, vR 70, vR 72, vR 74, vR 76, vR 78, vI 0, vI 0]) f_PW_31 d_PW_which_19 h18 rfl ?_
  refine ab_iload d_PW_which_22 rfl ?_
  refine ab_aald d_PW_which_24 h30 (by unfold vp_in; decide) ?_
  refine ab_topv (y := vN) rfl ?_
  refine ab_astoreN d_PW_which_25 (Nat.le_of_ble_eq_true rfl) (Nat.le_of_ble_eq_true rfl) rfl ?_
  change ab_W _ _ _ G 27 [some (vR 18), some (vI (xs 1)), some (vI 0), some (vI 0), some (vI 0), some (vI 0), some (vI 0), some (vN), none, none, none] [] _
  refine ab_aloadN d_PW_which_27 rfl ?_
  refine ab_ifnullN (tgt := 141) d_PW_which_29 (by decide) ?_
  refine ab_iinc (v := 1) d_PW_which_141 rfl (by decide) (Nat.le_of_ble_eq_true rfl) (Nat.le_of_ble_eq_true rfl) rfl ?_
  change ab_W _ _ _ G 144 [some (vR 18), some (vI (xs 1)), some (vI 0), some (vI 0), some (vI 0), some (vI 0), some (vI 1), some (vN), none, none, none] [] _
  refine ab_goto (tgt := 11) d_PW_which_144 (by decide) ?_
  refine ab_iload d_PW_which_11 rfl ?_
  refine ab_bipush (v := 6) d_PW_which_13 (by decide) ?_
  refine ab_icmp_ge (tgt := 147) d_PW_which_15 (by decide) (fun c => absurd c (by decide)) (fun _ => ?_)
  refine ab_aload_n d_PW_which_18 rfl ?_
  refine ab_getf (fs := [vR 19, vR 20, vR 22, vR 30, vR 31, vR 36, vR 37, vR 46, vR 51, vR 60, vR 69, vR 70, vR 72, vR 74, vR 76, vR 78, vI 0, vI 0]) f_PW_31 d_PW_which_19 h18 rfl ?_
  refine ab_iload d_PW_which_22 rfl ?_
  refine ab_aald d_PW_which_24 h30 (by unfold vp_in; decide) ?_
  refine ab_topv (y := vN) rfl ?_
  refine ab_astoreN d_PW_which_25 (Nat.le_of_ble_eq_true rfl) (Nat.le_of_ble_eq_true rfl) rfl ?_
  change ab_W _ _ _ G 27 [some (vR 18), some (vI (xs 1)), some (vI 0), some (vI 0), some (vI 0), some (vI 0), some (vI 1), some (vN), none, none, none] [] _
  refine ab_aloadN d_PW_which_27 rfl ?_
  refine ab_ifnullN (tgt := 141) d_PW_which_29 (by decide) ?_
  refine ab_iinc (v := 2) d_PW_which_141 rfl (by decide) (Nat.le_of_ble_eq_true rfl) (Nat.le_of_ble_eq_true rfl) rfl ?_
  change ab_W _ _ _ G 144 [some (vR 18), some (vI (xs 1)), some (vI 0), some (vI 0), some (vI 0), some (vI 0), some (vI 2), some (vN), none, none, none] [] _
  refine ab_goto (tgt := 11) d_PW_which_144 (by decide) ?_
  refine ab_iload d_PW_which_11 rfl ?_
  refine ab_bipush (v := 6) d_PW_which_13 (by decide) ?_
  refine ab_icmp_ge (tgt := 147) d_PW_which_15 (by decide) (fun c => absurd c (by decide)) (fun _ => ?_)
  refine ab_aload_n d_PW_which_18 rfl ?_
  refine ab_getf (fs := [vR 19, vR 20, vR 22, vR 30, vR 31, vR 36, vR 37, vR 46, vR 51, vR 60, vR 69, vR 70, vR 72, vR 74, vR 76, vR 78, vI 0, vI 0]) f_PW_31 d_PW_which_19 h18 rfl ?_
  refine ab_iload d_PW_which_22 rfl ?_
  refine ab_aald d_PW_which_24 h30 (by unfold vp_in; decide) ?_
  refine ab_topv (y := vN) rfl ?_
  refine ab_astoreN d_PW_which_25 (Nat.le_of_ble_eq_true rfl) (Nat.le_of_ble_eq_true rfl) rfl ?_
  change ab_W _ _ _ G 27 [some (vR 18), some (vI (xs 1)), some (vI 0), some (vI 0), some (vI 0), some (vI 0), some (vI 2), some (vN), none, none, none] [] _
  refine ab_aloadN d_PW_which_27 rfl ?_
  refine ab_ifnullN (tgt := 141) d_PW_which_29 (by decide) ?_
  refine ab_iinc (v := 3) d_PW_which_141 rfl (by decide) (Nat.le_of_ble_eq_true rfl) (Nat.le_of_ble_eq_true rfl) rfl ?_
  change ab_W _ _ _ G 144 [some (vR 18), some (vI (xs 1)), some (vI 0), some (vI 0), some (vI 0), some (vI 0), some (vI 3), some (vN), none, none, none] [] _
  refine ab_goto (tgt := 11) d_PW_which_144 (by decide) ?_
  refine ab_iload d_PW_which_11 rfl ?_
  refine ab_bipush (v := 6) d_PW_which_13 (by decide) ?_
  refine ab_icmp_ge (tgt := 147) d_PW_which_15 (by decide) (fun c => absurd c (by decide)) (fun _ => ?_)
  refine ab_aload_n d_PW_which_18 rfl ?_
  refine ab_getf (fs := [vR 19, vR 20, vR 22, vR 30, vR 31, vR 36, vR 37, vR 46, vR 51, vR 60, vR 69, vR 70, vR 72, vR 74, vR 76, vR 78, vI 0, vI 0]) f_PW_31 d_PW_which_19 h18 rfl ?_
  refine ab_iload d_PW_which_22 rfl ?_
  refine ab_aald d_PW_which_24 h30 (by unfold vp_in; decide) ?_
  refine ab_topv (y := vN) rfl ?_
  refine ab_astoreN d_PW_which_25 (Nat.le_of_ble_eq_true rfl) (Nat.le_of_ble_eq_true rfl) rfl ?_
  change ab_W _ _ _ G 27 [some (vR 18), some (vI (xs 1)), some (vI 0), some (vI 0), some (vI 0), some (vI 0), some (vI 3), some (vN), none, none, none] [] _
  refine ab_aloadN d_PW_which_27 rfl ?_
  refine ab_ifnullN (tgt := 141) d_PW_which_29 (by decide) ?_
  refine ab_iinc (v := 4) d_PW_which_141 rfl (by decide) (Nat.le_of_ble_eq_true rfl) (Nat.le_of_ble_eq_true rfl) rfl ?_
  change ab_W _ _ _ G 144 [some (vR 18), some (vI (xs 1)), some (vI 0), some (vI 0), some (vI 0), some (vI 0), some (vI 4), some (vN), none, none, none] [] _
  refine ab_goto (tgt := 11) d_PW_which_144 (by decide) ?_
  refine ab_iload d_PW_which_11 rfl ?_
  refine ab_bipush (v := 6) d_PW_which_13 (by decide) ?_
  refine ab_icmp_ge (tgt := 147) d_PW_which_15 (by decide) (fun c => absurd c (by decide)) (fun _ => ?_)
  refine ab_aload_n d_PW_which_18 rfl ?_
  refine ab_getf (fs := [vR 19, vR 20, vR 22, vR 30, vR 31, vR 36, vR 37, vR 46, vR 51, vR 60, vR 69, vR 70, vR 72, vR 74, vR 76, vR 78, vI 0, vI 0]) f_PW_31 d_PW_which_19 h18 rfl ?_
  refine ab_iload d_PW_which_22 rfl ?_
  refine ab_aald d_PW_which_24 h30 (by unfold vp_in; decide) ?_
  refine ab_topv (y := vN) rfl ?_
  refine ab_astoreN d_PW_which_25 (Nat.le_of_ble_eq_true rfl) (Nat.le_of_ble_eq_true rfl) rfl ?_
  change ab_W _ _ _ G 27 [some (vR 18), some (vI (xs 1)), some (vI 0), some (vI 0), some (vI 0), some (vI 0), some (vI 4), some (vN), none, none, none] [] _
  refine ab_aloadN d_PW_which_27 rfl ?_
  refine ab_ifnullN (tgt := 141) d_PW_which_29 (by decide) ?_
  refine ab_iinc (v := 5) d_PW_which_141 rfl (by decide) (Nat.le_of_ble_eq_true rfl) (Nat.le_of_ble_eq_true rfl) rfl ?_
  change ab_W _ _ _ G 144 [some (vR 18), some (vI (xs 1)), some (vI 0), some (vI 0), some (vI 0), some (vI 0), some (vI 5), some (vN), none, none, none] [] _
  refine ab_goto (tgt := 11) d_PW_which_144 (by decide) ?_
  refine ab_iload d_PW_which_11 rfl ?_
  refine ab_bipush (v := 6) d_PW_which_13 (by decide) ?_
  refine ab_icmp_ge (tgt := 147) d_PW_which_15 (by decide) (fun c => absurd c (by decide)) (fun _ => ?_)
  refine ab_aload_n d_PW_which_18 rfl ?_
  refine ab_getf (fs := [vR 19, vR 20, vR 22, vR 30, vR 31, vR 36, vR 37, vR 46, vR 51, vR 60, vR 69, vR 70, vR 72, vR 74, vR 76, vR 78, vI 0, vI 0]) f_PW_31 d_PW_which_19 h18 rfl ?_
  refine ab_iload d_PW_which_22 rfl ?_
  refine ab_aald d_PW_which_24 h30 (by unfold vp_in; decide) ?_
  refine ab_topv (y := vN) rfl ?_
  refine ab_astoreN d_PW_which_25 (Nat.le_of_ble_eq_true rfl) (Nat.le_of_ble_eq_true rfl) rfl ?_
  change ab_W _ _ _ G 27 [some (vR 18), some (vI (xs 1)), some (vI 0), some (vI 0), some (vI 0), some (vI 0), some (vI 5), some (vN), none, none, none] [] _
  refine ab_aloadN d_PW_which_27 rfl ?_
  refine ab_ifnullN (tgt := 141) d_PW_which_29 (by decide) ?_
  refine ab_iinc (v := 6) d_PW_which_141 rfl (by decide) (Nat.le_of_ble_eq_true rfl) (Nat.le_of_ble_eq_true rfl) rfl ?_
  change ab_W _ _ _ G 144 [some (vR 18), some (vI (xs 1)), some (vI 0), some (vI 0), some (vI 0), some (vI 0), some (vI 6), some (vN), none, none, none] [] _
  refine ab_goto (tgt := 11) d_PW_which_144 (by decide) ?_
  refine ab_iload d_PW_which_11 rfl ?_
  refine ab_bipush (v := 6) d_PW_which_13 (by decide) ?_
  refine ab_icmp_ge (tgt := 147) d_PW_which_15 (by decide) (fun _ => ?_) (fun c => absurd c (by decide))
  refine ab_aload_n d_PW_which_147 rfl ?_
  refine ab_iload d_PW_which_148 rfl ?_
  refine ab_iload d_PW_which_150 rfl ?_
  refine ab_callV (d' := d - 1) (as := [vI 0, vI 0]) (st := []) (r := _) (q_PW_settle_0  hlen hsl h18 h31 h37 h46 h51 h60) (fun o G2 h => ⟨_, h.1⟩) (by omega) m_PW_settle ml_PW_175 im_PW_settle se_PW_settle c_PW h18 (Nat.le_of_ble_eq_true rfl) d_PW_which_152 rfl ?_
  intro v G1 hq
  obtain ⟨hv, hfk, hlen, hsl, h37, h46, h51, h60⟩ := hq
  cases hv
  have h18 := hfk.get (by decide) h18
  have h30 := hfk.get (by decide) h30
  have h31 := hfk.get (by decide) h31
  have hfr := hfr.cl hfk (by decide)
  change ab_W _ _ _ G1 155 [some (vR 18), some (vI (xs 1)), some (vI 0), some (vI 0), some (vI 0), some (vI 0), some (vI 6), some (vN), none, none, none] [] _
  refine ab_iload_n d_PW_which_155 rfl ?_
  exact ab_iret (rt := .int) rfl rfl d_PW_which_156 (by rw [hQ]; exact ⟨rfl, hfr, hlen, hsl, h37, h46, h51, h60⟩)
set_option maxRecDepth 100000 in
set_option maxHeartbeats 4000000 in
theorem s_MO_which_133_0 {X : ab_X} {d : Nat} {G : ab_G} {Q : Outcome → ab_G → Prop} {xs : Nat → Int32} (hlen : G.length = 149) (hsl : ab_slots G = 1890753) (hk : ∀ o G2, (o = .returned (some (vI 0)) ∧ ab_fr [] G G2 ∧ G2.length = 149 ∧ ab_slots G2 = 1890753) → Q o G2) : ab_W X (ab_pl y_MO_which b_MO_which 7 (some (.int))) d G 133 [some (vR 80), some (vI (xs 1)), some (vI 0), some (vI 0), some (vI 5), none, none] [] Q := by
  have hfr : ab_fr [] G G := ab_fr.rf
  refine ab_iinc (v := 6) d_MO_which_133 rfl (by decide) (Nat.le_of_ble_eq_true rfl) (Nat.le_of_ble_eq_true rfl) rfl ?_
  change ab_W _ _ _ G 136 [some (vR 80), some (vI (xs 1)), some (vI 0), some (vI 0), some (vI 6), none, none] [] _
  refine ab_goto (tgt := 10) d_MO_which_136 (by decide) ?_
  refine ab_iload d_MO_which_10 rfl ?_
  refine ab_bipush (v := 6) d_MO_which_12 (by decide) ?_
  refine ab_icmp_ge (tgt := 139) d_MO_which_14 (by decide) (fun _ => ?_) (fun c => absurd c (by decide))
  refine ab_iload_n d_MO_which_139 rfl ?_
  exact ab_iret (rt := .int) rfl rfl d_MO_which_140 (hk _ _ ⟨rfl, hfr, hlen, hsl⟩)
set_option maxRecDepth 100000 in
set_option maxHeartbeats 4000000 in
theorem s_MO_which_133_1 {X : ab_X} {d : Nat} {G : ab_G} {Q : Outcome → ab_G → Prop} {xs : Nat → Int32} (hlen : G.length = 149) (hsl : ab_slots G = 1890753) (h80 : G[80]? = some (ab_ob 12 (m_fv (vI 0) (vI 0) (vI 0) (vI 0) (vI 0) (vI 0) (vI 0) (vI 0) (vI 0) (vI 0) (vI 0) (vI 0) (vI (-1)) (vI 0) (vI 0) (vI 0) (vI 0) (vI 0) (vI 0) (vI 0) (vI 0) (vI 0) (vI 0) (vI 0) (vI 0) (vI 0) (vI 0) (vI 0) (vI 0) (vI 0) (vI 0) (vI 0) (vI 0) (vI 0) (vI 0)))) (h112 : G[112]? = some (ab_zf 6 ((fun _ => 0)))) (hk : ∀ o G2, (o = .returned (some (vI 0)) ∧ ab_fr [] G G2 ∧ G2.length = 149 ∧ ab_slots G2 = 1890753) → Q o G2) : ab_W X (ab_pl y_MO_which b_MO_which 7 (some (.int))) d G 133 [some (vR 80), some (vI (xs 1)), some (vI 0), some (vI 0), some (vI 4), none, none] [] Q := by
  have hfr : ab_fr [] G G := ab_fr.rf
  refine ab_iinc (v := 5) d_MO_which_133 rfl (by decide) (Nat.le_of_ble_eq_true rfl) (Nat.le_of_ble_eq_true rfl) rfl ?_
  change ab_W _ _ _ G 136 [some (vR 80), some (vI (xs 1)), some (vI 0), some (vI 0), some (vI 5), none, none] [] _
  refine ab_goto (tgt := 10) d_MO_which_136 (by decide) ?_
  refine ab_iload d_MO_which_10 rfl ?_
  refine ab_bipush (v := 6) d_MO_which_12 (by decide) ?_
  refine ab_icmp_ge (tgt := 139) d_MO_which_14 (by decide) (fun c => absurd c (by decide)) (fun _ => ?_)
  refine ab_iload_n d_MO_which_17 rfl ?_
  refine ab_iload d_MO_which_18 rfl ?_
  refine ab_ishr d_MO_which_20 ?_
  refine ab_iconst (v := 1) d_MO_which_21 (by decide) ?_
  refine ab_iand d_MO_which_22 ?_
  refine ab_if_eq (tgt := 133) d_MO_which_23 (by decide) (fun c0 => ?_) (fun c0 => ?_)
  · refine s_MO_which_133_0 (xs := xs) hlen hsl (fun o Gz hq => ?_)
    obtain ⟨hv, hfk, hlen, hsl⟩ := hq
    have h80 := hfk.get (by decide) h80
    have h112 := hfk.get (by decide) h112
    have hfr := hfr.cl hfk (by decide)
    exact hk _ _ ⟨hv, hfr, hlen, hsl⟩
  · refine ab_aload_n d_MO_which_26 rfl ?_
    refine ab_getf (fs := (m_fv (vI 0) (vI 0) (vI 0) (vI 0) (vI 0) (vI 0) (vI 0) (vI 0) (vI 0) (vI 0) (vI 0) (vI 0) (vI (-1)) (vI 0) (vI 0) (vI 0) (vI 0) (vI 0) (vI 0) (vI 0) (vI 0) (vI 0) (vI 0) (vI 0) (vI 0) (vI 0) (vI 0) (vI 0) (vI 0) (vI 0) (vI 0) (vI 0) (vI 0) (vI 0) (vI 0))) f_MO_109 d_MO_which_27 h80 rfl ?_
    refine ab_iload d_MO_which_30 rfl ?_
    refine ab_zald d_MO_which_32 h112 (by unfold vp_in; decide) ?_
    refine ab_topi (y := 0) rfl ?_
    refine ab_if_ne (tgt := 39) d_MO_which_33 (by decide) (fun c => absurd c (by decide)) (fun _ => ?_)
    refine ab_goto (tgt := 133) d_MO_which_36 (by decide) ?_
    refine s_MO_which_133_0 (xs := xs) hlen hsl (fun o Gz hq => ?_)
    obtain ⟨hv, hfk, hlen, hsl⟩ := hq
    have h80 := hfk.get (by decide) h80
    have h112 := hfk.get (by decide) h112
    have hfr := hfr.cl hfk (by decide)
    exact hk _ _ ⟨hv, hfr, hlen, hsl⟩
set_option maxRecDepth 100000 in
set_option maxHeartbeats 4000000 in
theorem s_MO_which_133_2 {X : ab_X} {d : Nat} {G : ab_G} {Q : Outcome → ab_G → Prop} {xs : Nat → Int32} (hlen : G.length = 149) (hsl : ab_slots G = 1890753) (h80 : G[80]? = some (ab_ob 12 (m_fv (vI 0) (vI 0) (vI 0) (vI 0) (vI 0) (vI 0) (vI 0) (vI 0) (vI 0) (vI 0) (vI 0) (vI 0) (vI (-1)) (vI 0) (vI 0) (vI 0) (vI 0) (vI 0) (vI 0) (vI 0) (vI 0) (vI 0) (vI 0) (vI 0) (vI 0) (vI 0) (vI 0) (vI 0) (vI 0) (vI 0) (vI 0) (vI 0) (vI 0) (vI 0) (vI 0)))) (h112 : G[112]? = some (ab_zf 6 ((fun _ => 0)))) (hk : ∀ o G2, (o = .returned (some (vI 0)) ∧ ab_fr [] G G2 ∧ G2.length = 149 ∧ ab_slots G2 = 1890753) → Q o G2) : ab_W X (ab_pl y_MO_which b_MO_which 7 (some (.int))) d G 133 [some (vR 80), some (vI (xs 1)), some (vI 0), some (vI 0), some (vI 3), none, none] [] Q := by
  have hfr : ab_fr [] G G := ab_fr.rf
  refine ab_iinc (v := 4) d_MO_which_133 rfl (by decide) (Nat.le_of_ble_eq_true rfl) (Nat.le_of_ble_eq_true rfl) rfl ?_
  change ab_W _ _ _ G 136 [some (vR 80), some (vI (xs 1)), some (vI 0), some (vI 0), some (vI 4), none, none] [] _
  refine ab_goto (tgt := 10) d_MO_which_136 (by decide) ?_
  refine ab_iload d_MO_which_10 rfl ?_
  refine ab_bipush (v := 6) d_MO_which_12 (by decide) ?_
  refine ab_icmp_ge (tgt := 139) d_MO_which_14 (by decide) (fun c => absurd c (by decide)) (fun _ => ?_)
  refine ab_iload_n d_MO_which_17 rfl ?_
  refine ab_iload d_MO_which_18 rfl ?_
  refine ab_ishr d_MO_which_20 ?_
  refine ab_iconst (v := 1) d_MO_which_21 (by decide) ?_
  refine ab_iand d_MO_which_22 ?_
  refine ab_if_eq (tgt := 133) d_MO_which_23 (by decide) (fun c0 => ?_) (fun c0 => ?_)
  · refine s_MO_which_133_1 (xs := xs) hlen hsl h80 h112 (fun o Gz hq => ?_)
    obtain ⟨hv, hfk, hlen, hsl⟩ := hq
    have h80 := hfk.get (by decide) h80
    have h112 := hfk.get (by decide) h112
    have hfr := hfr.cl hfk (by decide)
    exact hk _ _ ⟨hv, hfr, hlen, hsl⟩
  · refine ab_aload_n d_MO_which_26 rfl ?_
    refine ab_getf (fs := (m_fv (vI 0) (vI 0) (vI 0) (vI 0) (vI 0) (vI 0) (vI 0) (vI 0) (vI 0) (vI 0) (vI 0) (vI 0) (vI (-1)) (vI 0) (vI 0) (vI 0) (vI 0) (vI 0) (vI 0) (vI 0) (vI 0) (vI 0) (vI 0) (vI 0) (vI 0) (vI 0) (vI 0) (vI 0) (vI 0) (vI 0) (vI 0) (vI 0) (vI 0) (vI 0) (vI 0))) f_MO_109 d_MO_which_27 h80 rfl ?_
    refine ab_iload d_MO_which_30 rfl ?_
    refine ab_zald d_MO_which_32 h112 (by unfold vp_in; decide) ?_
    refine ab_topi (y := 0) rfl ?_
    refine ab_if_ne (tgt := 39) d_MO_which_33 (by decide) (fun c => absurd c (by decide)) (fun _ => ?_)
    refine ab_goto (tgt := 133) d_MO_which_36 (by decide) ?_
    refine s_MO_which_133_1 (xs := xs) hlen hsl h80 h112 (fun o Gz hq => ?_)
    obtain ⟨hv, hfk, hlen, hsl⟩ := hq
    have h80 := hfk.get (by decide) h80
    have h112 := hfk.get (by decide) h112
    have hfr := hfr.cl hfk (by decide)
    exact hk _ _ ⟨hv, hfr, hlen, hsl⟩
set_option maxRecDepth 100000 in
set_option maxHeartbeats 4000000 in
theorem s_MO_which_133_3 {X : ab_X} {d : Nat} {G : ab_G} {Q : Outcome → ab_G → Prop} {xs : Nat → Int32} (hlen : G.length = 149) (hsl : ab_slots G = 1890753) (h80 : G[80]? = some (ab_ob 12 (m_fv (vI 0) (vI 0) (vI 0) (vI 0) (vI 0) (vI 0) (vI 0) (vI 0) (vI 0) (vI 0) (vI 0) (vI 0) (vI (-1)) (vI 0) (vI 0) (vI 0) (vI 0) (vI 0) (vI 0) (vI 0) (vI 0) (vI 0) (vI 0) (vI 0) (vI 0) (vI 0) (vI 0) (vI 0) (vI 0) (vI 0) (vI 0) (vI 0) (vI 0) (vI 0) (vI 0)))) (h112 : G[112]? = some (ab_zf 6 ((fun _ => 0)))) (hk : ∀ o G2, (o = .returned (some (vI 0)) ∧ ab_fr [] G G2 ∧ G2.length = 149 ∧ ab_slots G2 = 1890753) → Q o G2) : ab_W X (ab_pl y_MO_which b_MO_which 7 (some (.int))) d G 133 [some (vR 80), some (vI (xs 1)), some (vI 0), some (vI 0), some (vI 2), none, none] [] Q := by
  have hfr : ab_fr [] G G := ab_fr.rf
  refine ab_iinc (v := 3) d_MO_which_133 rfl (by decide) (Nat.le_of_ble_eq_true rfl) (Nat.le_of_ble_eq_true rfl) rfl ?_
  change ab_W _ _ _ G 136 [some (vR 80), some (vI (xs 1)), some (vI 0), some (vI 0), some (vI 3), none, none] [] _
  refine ab_goto (tgt := 10) d_MO_which_136 (by decide) ?_
  refine ab_iload d_MO_which_10 rfl ?_
  refine ab_bipush (v := 6) d_MO_which_12 (by decide) ?_
  refine ab_icmp_ge (tgt := 139) d_MO_which_14 (by decide) (fun c => absurd c (by decide)) (fun _ => ?_)
  refine ab_iload_n d_MO_which_17 rfl ?_
  refine ab_iload d_MO_which_18 rfl ?_
  refine ab_ishr d_MO_which_20 ?_
  refine ab_iconst (v := 1) d_MO_which_21 (by decide) ?_
  refine ab_iand d_MO_which_22 ?_
  refine ab_if_eq (tgt := 133) d_MO_which_23 (by decide) (fun c0 => ?_) (fun c0 => ?_)
  · refine s_MO_which_133_2 (xs := xs) hlen hsl h80 h112 (fun o Gz hq => ?_)
    obtain ⟨hv, hfk, hlen, hsl⟩ := hq
    have h80 := hfk.get (by decide) h80
    have h112 := hfk.get (by decide) h112
    have hfr := hfr.cl hfk (by decide)
    exact hk _ _ ⟨hv, hfr, hlen, hsl⟩
  · refine ab_aload_n d_MO_which_26 rfl ?_
    refine ab_getf (fs := (m_fv (vI 0) (vI 0) (vI 0) (vI 0) (vI 0) (vI 0) (vI 0) (vI 0) (vI 0) (vI 0) (vI 0) (vI 0) (vI (-1)) (vI 0) (vI 0) (vI 0) (vI 0) (vI 0) (vI 0) (vI 0) (vI 0) (vI 0) (vI 0) (vI 0) (vI 0) (vI 0) (vI 0) (vI 0) (vI 0) (vI 0) (vI 0) (vI 0) (vI 0) (vI 0) (vI 0))) f_MO_109 d_MO_which_27 h80 rfl ?_
    refine ab_iload d_MO_which_30 rfl ?_
    refine ab_zald d_MO_which_32 h112 (by unfold vp_in; decide) ?_
    refine ab_topi (y := 0) rfl ?_
    refine ab_if_ne (tgt := 39) d_MO_which_33 (by decide) (fun c => absurd c (by decide)) (fun _ => ?_)
    refine ab_goto (tgt := 133) d_MO_which_36 (by decide) ?_
    refine s_MO_which_133_2 (xs := xs) hlen hsl h80 h112 (fun o Gz hq => ?_)
    obtain ⟨hv, hfk, hlen, hsl⟩ := hq
    have h80 := hfk.get (by decide) h80
    have h112 := hfk.get (by decide) h112
    have hfr := hfr.cl hfk (by decide)
    exact hk _ _ ⟨hv, hfr, hlen, hsl⟩
set_option maxRecDepth 100000 in
set_option maxHeartbeats 4000000 in
theorem s_MO_which_133_4 {X : ab_X} {d : Nat} {G : ab_G} {Q : Outcome → ab_G → Prop} {xs : Nat → Int32} (hlen : G.length = 149) (hsl : ab_slots G = 1890753) (h80 : G[80]? = some (ab_ob 12 (m_fv (vI 0) (vI 0) (vI 0) (vI 0) (vI 0) (vI 0) (vI 0) (vI 0) (vI 0) (vI 0) (vI 0) (vI 0) (vI (-1)) (vI 0) (vI 0) (vI 0) (vI 0) (vI 0) (vI 0) (vI 0) (vI 0) (vI 0) (vI 0) (vI 0) (vI 0) (vI 0) (vI 0) (vI 0) (vI 0) (vI 0) (vI 0) (vI 0) (vI 0) (vI 0) (vI 0)))) (h112 : G[112]? = some (ab_zf 6 ((fun _ => 0)))) (hk : ∀ o G2, (o = .returned (some (vI 0)) ∧ ab_fr [] G G2 ∧ G2.length = 149 ∧ ab_slots G2 = 1890753) → Q o G2) : ab_W X (ab_pl y_MO_which b_MO_which 7 (some (.int))) d G 133 [some (vR 80), some (vI (xs 1)), some (vI 0), some (vI 0), some (vI 1), none, none] [] Q := by
  have hfr : ab_fr [] G G := ab_fr.rf
  refine ab_iinc (v := 2) d_MO_which_133 rfl (by decide) (Nat.le_of_ble_eq_true rfl) (Nat.le_of_ble_eq_true rfl) rfl ?_
  change ab_W _ _ _ G 136 [some (vR 80), some (vI (xs 1)), some (vI 0), some (vI 0), some (vI 2), none, none] [] _
  refine ab_goto (tgt := 10) d_MO_which_136 (by decide) ?_
  refine ab_iload d_MO_which_10 rfl ?_
  refine ab_bipush (v := 6) d_MO_which_12 (by decide) ?_
  refine ab_icmp_ge (tgt := 139) d_MO_which_14 (by decide) (fun c => absurd c (by decide)) (fun _ => ?_)
  refine ab_iload_n d_MO_which_17 rfl ?_
  refine ab_iload d_MO_which_18 rfl ?_
  refine ab_ishr d_MO_which_20 ?_
  refine ab_iconst (v := 1) d_MO_which_21 (by decide) ?_
  refine ab_iand d_MO_which_22 ?_
  refine ab_if_eq (tgt := 133) d_MO_which_23 (by decide) (fun c0 => ?_) (fun c0 => ?_)
  · refine s_MO_which_133_3 (xs := xs) hlen hsl h80 h112 (fun o Gz hq => ?_)
    obtain ⟨hv, hfk, hlen, hsl⟩ := hq
    have h80 := hfk.get (by decide) h80
    have h112 := hfk.get (by decide) h112
    have hfr := hfr.cl hfk (by decide)
    exact hk _ _ ⟨hv, hfr, hlen, hsl⟩
  · refine ab_aload_n d_MO_which_26 rfl ?_
    refine ab_getf (fs := (m_fv (vI 0) (vI 0) (vI 0) (vI 0) (vI 0) (vI 0) (vI 0) (vI 0) (vI 0) (vI 0) (vI 0) (vI 0) (vI (-1)) (vI 0) (vI 0) (vI 0) (vI 0) (vI 0) (vI 0) (vI 0) (vI 0) (vI 0) (vI 0) (vI 0) (vI 0) (vI 0) (vI 0) (vI 0) (vI 0) (vI 0) (vI 0) (vI 0) (vI 0) (vI 0) (vI 0))) f_MO_109 d_MO_which_27 h80 rfl ?_
    refine ab_iload d_MO_which_30 rfl ?_
    refine ab_zald d_MO_which_32 h112 (by unfold vp_in; decide) ?_
    refine ab_topi (y := 0) rfl ?_
    refine ab_if_ne (tgt := 39) d_MO_which_33 (by decide) (fun c => absurd c (by decide)) (fun _ => ?_)
    refine ab_goto (tgt := 133) d_MO_which_36 (by decide) ?_
    refine s_MO_which_133_3 (xs := xs) hlen hsl h80 h112 (fun o Gz hq => ?_)
    obtain ⟨hv, hfk, hlen, hsl⟩ := hq
    have h80 := hfk.get (by decide) h80
    have h112 := hfk.get (by decide) h112
    have hfr := hfr.cl hfk (by decide)
    exact hk _ _ ⟨hv, hfr, hlen, hsl⟩
set_option maxRecDepth 100000 in
set_option maxHeartbeats 4000000 in
theorem s_MO_which_133_5 {X : ab_X} {d : Nat} {G : ab_G} {Q : Outcome → ab_G → Prop} {xs : Nat → Int32} (hlen : G.length = 149) (hsl : ab_slots G = 1890753) (h80 : G[80]? = some (ab_ob 12 (m_fv (vI 0) (vI 0) (vI 0) (vI 0) (vI 0) (vI 0) (vI 0) (vI 0) (vI 0) (vI 0) (vI 0) (vI 0) (vI (-1)) (vI 0) (vI 0) (vI 0) (vI 0) (vI 0) (vI 0) (vI 0) (vI 0) (vI 0) (vI 0) (vI 0) (vI 0) (vI 0) (vI 0) (vI 0) (vI 0) (vI 0) (vI 0) (vI 0) (vI 0) (vI 0) (vI 0)))) (h112 : G[112]? = some (ab_zf 6 ((fun _ => 0)))) (hk : ∀ o G2, (o = .returned (some (vI 0)) ∧ ab_fr [] G G2 ∧ G2.length = 149 ∧ ab_slots G2 = 1890753) → Q o G2) : ab_W X (ab_pl y_MO_which b_MO_which 7 (some (.int))) d G 133 [some (vR 80), some (vI (xs 1)), some (vI 0), some (vI 0), some (vI 0), none, none] [] Q := by
  have hfr : ab_fr [] G G := ab_fr.rf
  refine ab_iinc (v := 1) d_MO_which_133 rfl (by decide) (Nat.le_of_ble_eq_true rfl) (Nat.le_of_ble_eq_true rfl) rfl ?_
  change ab_W _ _ _ G 136 [some (vR 80), some (vI (xs 1)), some (vI 0), some (vI 0), some (vI 1), none, none] [] _
  refine ab_goto (tgt := 10) d_MO_which_136 (by decide) ?_
  refine ab_iload d_MO_which_10 rfl ?_
  refine ab_bipush (v := 6) d_MO_which_12 (by decide) ?_
  refine ab_icmp_ge (tgt := 139) d_MO_which_14 (by decide) (fun c => absurd c (by decide)) (fun _ => ?_)
  refine ab_iload_n d_MO_which_17 rfl ?_
  refine ab_iload d_MO_which_18 rfl ?_
  refine ab_ishr d_MO_which_20 ?_
  refine ab_iconst (v := 1) d_MO_which_21 (by decide) ?_
  refine ab_iand d_MO_which_22 ?_
  refine ab_if_eq (tgt := 133) d_MO_which_23 (by decide) (fun c0 => ?_) (fun c0 => ?_)
  · refine s_MO_which_133_4 (xs := xs) hlen hsl h80 h112 (fun o Gz hq => ?_)
    obtain ⟨hv, hfk, hlen, hsl⟩ := hq
    have h80 := hfk.get (by decide) h80
    have h112 := hfk.get (by decide) h112
    have hfr := hfr.cl hfk (by decide)
    exact hk _ _ ⟨hv, hfr, hlen, hsl⟩
  · refine ab_aload_n d_MO_which_26 rfl ?_
    refine ab_getf (fs := (m_fv (vI 0) (vI 0) (vI 0) (vI 0) (vI 0) (vI 0) (vI 0) (vI 0) (vI 0) (vI 0) (vI 0) (vI 0) (vI (-1)) (vI 0) (vI 0) (vI 0) (vI 0) (vI 0) (vI 0) (vI 0) (vI 0) (vI 0) (vI 0) (vI 0) (vI 0) (vI 0) (vI 0) (vI 0) (vI 0) (vI 0) (vI 0) (vI 0) (vI 0) (vI 0) (vI 0))) f_MO_109 d_MO_which_27 h80 rfl ?_
    refine ab_iload d_MO_which_30 rfl ?_
    refine ab_zald d_MO_which_32 h112 (by unfold vp_in; decide) ?_
    refine ab_topi (y := 0) rfl ?_
    refine ab_if_ne (tgt := 39) d_MO_which_33 (by decide) (fun c => absurd c (by decide)) (fun _ => ?_)
    refine ab_goto (tgt := 133) d_MO_which_36 (by decide) ?_
    refine s_MO_which_133_4 (xs := xs) hlen hsl h80 h112 (fun o Gz hq => ?_)
    obtain ⟨hv, hfk, hlen, hsl⟩ := hq
    have h80 := hfk.get (by decide) h80
    have h112 := hfk.get (by decide) h112
    have hfr := hfr.cl hfk (by decide)
    exact hk _ _ ⟨hv, hfr, hlen, hsl⟩
set_option maxRecDepth 100000 in
set_option maxHeartbeats 4000000 in
theorem q_MO_which_6 {X : ab_X} {d : Nat} {G : ab_G} {xs : Nat → Int32} (hlen : G.length = 149) (hsl : ab_slots G = 1890753) (h80 : G[80]? = some (ab_ob 12 (m_fv (vI 0) (vI 0) (vI 0) (vI 0) (vI 0) (vI 0) (vI 0) (vI 0) (vI 0) (vI 0) (vI 0) (vI 0) (vI (-1)) (vI 0) (vI 0) (vI 0) (vI 0) (vI 0) (vI 0) (vI 0) (vI 0) (vI 0) (vI 0) (vI 0) (vI 0) (vI 0) (vI 0) (vI 0) (vI 0) (vI 0) (vI 0) (vI 0) (vI 0) (vI 0) (vI 0)))) (h112 : G[112]? = some (ab_zf 6 ((fun _ => 0)))) : ab_F X d y_MO_which (.code y_MO_which b_MO_which 7 (some (.int))) [vR 80, vI (xs 1), vI 0] G (fun o G2 => o = .returned (some (vI 0)) ∧ ab_fr [80] G G2 ∧ G2.length = 149 ∧ ab_slots G2 = 1890753 ∧ G2[80]? = some (ab_ob 12 (m_fv (vI 0) (vI 0) (vI 0) (vI 0) (vI 0) (vI 0) (vI 0) (vI 0) (vI 0) (vI 0) (vI 0) (vI 0) (vI (-1)) (vI 0) (vI 0) (vI 0) (vI 0) (vI 0) (vI 0) (vI 0) (vI 0) (vI 0) (vI 0) (vI 0) (vI 0) (vI 0) (vI 0) (vI 0) (vI 0) (vI 0) (vI 0) (vI 0) (vI 0) (vI 0) (vI 0)))) := by
  refine ab_F_of (by decide +kernel) (Nat.le_of_ble_eq_true rfl) ?_
  obtain ⟨Q, hQ⟩ : ∃ z : Outcome → ab_G → Prop, z = (fun o G2 => o = .returned (some (vI 0)) ∧ ab_fr [80] G G2 ∧ G2.length = 149 ∧ ab_slots G2 = 1890753 ∧ G2[80]? = some (ab_ob 12 (m_fv (vI 0) (vI 0) (vI 0) (vI 0) (vI 0) (vI 0) (vI 0) (vI 0) (vI 0) (vI 0) (vI 0) (vI 0) (vI (-1)) (vI 0) (vI 0) (vI 0) (vI 0) (vI 0) (vI 0) (vI 0) (vI 0) (vI 0) (vI 0) (vI 0) (vI 0) (vI 0) (vI 0) (vI 0) (vI 0) (vI 0) (vI 0) (vI 0) (vI 0) (vI 0) (vI 0)))) := ⟨_, rfl⟩
  rw [← hQ]
  change ab_W X (ab_pl y_MO_which b_MO_which 7 (some (.int))) d G 0 [some (vR 80), some (vI (xs 1)), some (vI 0), none, none, none, none] [] Q
  have hfr : ab_fr [80] G G := ab_fr.rf
  refine ab_aload_n d_MO_which_0 rfl ?_
  refine ab_iconst (v := 0) d_MO_which_1 (by decide) ?_
  refine ab_putf (fs := (m_fv (vI 0) (vI 0) (vI 0) (vI 0) (vI 0) (vI 0) (vI 0) (vI 0) (vI 0) (vI 0) (vI 0) (vI 0) (vI (-1)) (vI 0) (vI 0) (vI 0) (vI 0) (vI 0) (vI 0) (vI 0) (vI 0) (vI 0) (vI 0) (vI 0) (vI 0) (vI 0) (vI 0) (vI 0) (vI 0) (vI 0) (vI 0) (vI 0) (vI 0) (vI 0) (vI 0))) f_MO_220 (Or.inl rfl) d_MO_which_2 h80 (Nat.le_of_ble_eq_true rfl) (fun _ => ⟨rfl, rfl⟩) (by decide) ?_
  obtain ⟨G1, eG1⟩ : ∃ z : ab_G, z = List.set G 80 (ab_ob 12 (m_fv (vI 0) (vI 0) (vI 0) (vI 0) (vI 0) (vI 0) (vI 0) (vI 0) (vI 0) (vI 0) (vI 0) (vI 0) (vI (-1)) (vI 0) (vI 0) (vI 0) (vI 0) (vI 0) (vI 0) (vI 0) (vI 0) (vI 0) (vI 0) (vI 0) (vI 0) (vI 0) (vI 0) (vI 0) (vI 0) (vI 0) (vI 0) (vI 0) (vI 0) (vI 0) (vI 0))) := ⟨_, rfl⟩
  have h112 := ab_keep eG1 (by decide) h112
  have hlen := ab_klen eG1 hlen
  have hsl := ab_ksl 102 eG1 h80 rfl rfl hsl
  have hfr := hfr.wr eG1 (by decide)
  have h80 := ab_kept eG1 h80
  change ab_W _ _ _ (List.set G 80 (ab_ob 12 (m_fv (vI 0) (vI 0) (vI 0) (vI 0) (vI 0) (vI 0) (vI 0) (vI 0) (vI 0) (vI 0) (vI 0) (vI 0) (vI (-1)) (vI 0) (vI 0) (vI 0) (vI 0) (vI 0) (vI 0) (vI 0) (vI 0) (vI 0) (vI 0) (vI 0) (vI 0) (vI 0) (vI 0) (vI 0) (vI 0) (vI 0) (vI 0) (vI 0) (vI 0) (vI 0) (vI 0)))) 5 [some (vR 80), some (vI (xs 1)), some (vI 0), none, none, none, none] [] _
  rw [← eG1]
  refine ab_iconst (v := 0) d_MO_which_5 (by decide) ?_
  refine ab_istore_n d_MO_which_6 (Nat.le_of_ble_eq_true rfl) (Nat.le_of_ble_eq_true rfl) rfl ?_
  change ab_W _ _ _ G1 7 [some (vR 80), some (vI (xs 1)), some (vI 0), some (vI 0), none, none, none] [] _
  refine ab_iconst (v := 0) d_MO_which_7 (by decide) ?_
  refine ab_istore d_MO_which_8 (Nat.le_of_ble_eq_true rfl) (Nat.le_of_ble_eq_true rfl) rfl ?_
  change ab_W _ _ _ G1 10 [some (vR 80), some (vI (xs 1)), some (vI 0), some (vI 0), some (vI 0), none, none] [] _
  refine ab_iload d_MO_which_10 rfl ?_
  refine ab_bipush (v := 6) d_MO_which_12 (by decide) ?_
  refine ab_icmp_ge (tgt := 139) d_MO_which_14 (by decide) (fun c => absurd c (by decide)) (fun _ => ?_)
  refine ab_iload_n d_MO_which_17 rfl ?_
  refine ab_iload d_MO_which_18 rfl ?_
  refine ab_ishr d_MO_which_20 ?_
  refine ab_iconst (v := 1) d_MO_which_21 (by decide) ?_
  refine ab_iand d_MO_which_22 ?_
  refine ab_if_eq (tgt := 133) d_MO_which_23 (by decide) (fun c0 => ?_) (fun c0 => ?_)
  · refine s_MO_which_133_5 (xs := xs) hlen hsl h80 h112 (fun o Gz hq => ?_)
    obtain ⟨hv, hfk, hlen, hsl⟩ := hq
    have h80 := hfk.get (by decide) h80
    have h112 := hfk.get (by decide) h112
    have hfr := hfr.cl hfk (by decide)
    rw [hQ]; exact ⟨hv, hfr, hlen, hsl, h80⟩
  · refine ab_aload_n d_MO_which_26 rfl ?_
    refine ab_getf (fs := (m_fv (vI 0) (vI 0) (vI 0) (vI 0) (vI 0) (vI 0) (vI 0) (vI 0) (vI 0) (vI 0) (vI 0) (vI 0) (vI (-1)) (vI 0) (vI 0) (vI 0) (vI 0) (vI 0) (vI 0) (vI 0) (vI 0) (vI 0) (vI 0) (vI 0) (vI 0) (vI 0) (vI 0) (vI 0) (vI 0) (vI 0) (vI 0) (vI 0) (vI 0) (vI 0) (vI 0))) f_MO_109 d_MO_which_27 h80 rfl ?_
    refine ab_iload d_MO_which_30 rfl ?_
    refine ab_zald d_MO_which_32 h112 (by unfold vp_in; decide) ?_
    refine ab_topi (y := 0) rfl ?_
    refine ab_if_ne (tgt := 39) d_MO_which_33 (by decide) (fun c => absurd c (by decide)) (fun _ => ?_)
    refine ab_goto (tgt := 133) d_MO_which_36 (by decide) ?_
    refine s_MO_which_133_5 (xs := xs) hlen hsl h80 h112 (fun o Gz hq => ?_)
    obtain ⟨hv, hfk, hlen, hsl⟩ := hq
    have h80 := hfk.get (by decide) h80
    have h112 := hfk.get (by decide) h112
    have hfr := hfr.cl hfk (by decide)
    rw [hQ]; exact ⟨hv, hfr, hlen, hsl, h80⟩
set_option maxRecDepth 100000 in
set_option maxHeartbeats 4000000 in
theorem q_PW_which_1 {X : ab_X} {d : Nat} {G : ab_G} {xs : Nat → Int32} (hlen : G.length = 149) (hsl : ab_slots G = 1890753) (h18 : G[18]? = some (ab_ob 0 [vR 19, vR 20, vR 22, vR 30, vR 31, vR 36, vR 37, vR 46, vR 51, vR 60, vR 69, vR 70, vR 72, vR 74, vR 76, vR 78, vI 0, vI 0])) (h30 : G[30]? = some (.inl (3, 6, .inr (.inr (.inr (.inr (fun _ => none))))))) (h31 : G[31]? = some (ab_ob 9 [vR 32, vR 33, vR 34, vR 35, vI 0])) (h37 : G[37]? = some (ab_ob 11 [vR 38, vR 39, vR 40, vR 41, vR 42, vR 43, vI 0, vI 0, vR 44, vI 0, vR 45, vI 0, vN, vN, vI 0, vI 0, vJ 0])) (h46 : G[46]? = some (ab_ob 2 [vR 47, vR 48, vR 49, vI 0, vI 0, vR 50, vI 0, vI 0, vI 0, vI 0, vN, vN, vJ 0])) (h51 : G[51]? = some (ab_ob 3 [vR 52, vR 53, vR 54, vR 55, vR 57, vR 58, vR 59, vI 0, vI 0, vI 0, vN, vN, vI 0, vI 0, vJ 0])) (h60 : G[60]? = some (ab_ob 8 [vI 32, vN, vI 0, vI 0, vR 61, vI 0, vR 62, vR 63, vR 64, vR 65, vI 0, vR 66, vI 0, vR 67, vI 0, vR 68, vI 0, vJ 0])) (hd : 1 ≤ d) : ab_F X d y_PW_which (.code y_PW_which b_PW_which 11 (some (.int))) [vR 18, vI (xs 1), vI 1] G (fun o G2 => o = .returned (some (vI 0)) ∧ ab_fr [37, 46, 51, 60] G G2 ∧ G2.length = 149 ∧ ab_slots G2 = 1890753 ∧ G2[37]? = some (ab_ob 11 [vR 38, vR 39, vR 40, vR 41, vR 42, vR 43, vI 0, vI 0, vR 44, vI 0, vR 45, vI 0, vN, vN, vI 0, vI 0, vJ 0]) ∧ G2[46]? = some (ab_ob 2 [vR 47, vR 48, vR 49, vI 0, vI 0, vR 50, vI 0, vI 0, vI 0, vI 0, vN, vN, vJ 0]) ∧ G2[51]? = some (ab_ob 3 [vR 52, vR 53, vR 54, vR 55, vR 57, vR 58, vR 59, vI 0, vI 0, vI 0, vN, vN, vI 0, vI 0, vJ 0]) ∧ G2[60]? = some (ab_ob 8 [vI 32, vN, vI 0, vI 0, vR 61, vI 0, vR 62, vR 63, vR 64, vR 65, vI 0, vR 66, vI 0, vR 67, vI 0, vR 68, vI 0, vJ 0])) := by
  refine ab_F_of (by decide +kernel) (Nat.le_of_ble_eq_true rfl) ?_
  obtain ⟨Q, hQ⟩ : ∃ z : Outcome → ab_G → Prop, z = (fun o G2 => o = .returned (some (vI 0)) ∧ ab_fr [37, 46, 51, 60] G G2 ∧ G2.length = 149 ∧ ab_slots G2 = 1890753 ∧ G2[37]? = some (ab_ob 11 [vR 38, vR 39, vR 40, vR 41, vR 42, vR 43, vI 0, vI 0, vR 44, vI 0, vR 45, vI 0, vN, vN, vI 0, vI 0, vJ 0]) ∧ G2[46]? = some (ab_ob 2 [vR 47, vR 48, vR 49, vI 0, vI 0, vR 50, vI 0, vI 0, vI 0, vI 0, vN, vN, vJ 0]) ∧ G2[51]? = some (ab_ob 3 [vR 52, vR 53, vR 54, vR 55, vR 57, vR 58, vR 59, vI 0, vI 0, vI 0, vN, vN, vI 0, vI 0, vJ 0]) ∧ G2[60]? = some (ab_ob 8 [vI 32, vN, vI 0, vI 0, vR 61, vI 0, vR 62, vR 63, vR 64, vR 65, vI 0, vR 66, vI 0, vR 67, vI 0, vR 68, vI 0, vJ 0])) := ⟨_, rfl⟩
  rw [← hQ]
  change ab_W X (ab_pl y_PW_which b_PW_which 11 (some (.int))) d G 0 [some (vR 18), some (vI (xs 1)), some (vI 1), none, none, none, none, none, none, none, none] [] Q
  have hfr : ab_fr [37, 46, 51, 60] G G := ab_fr.rf
  refine ab_iconst (v := 0) d_PW_which_0 (by decide) ?_
  refine ab_istore_n d_PW_which_1 (Nat.le_of_ble_eq_true rfl) (Nat.le_of_ble_eq_true rfl) rfl ?_
  change ab_W _ _ _ G 2 [some (vR 18), some (vI (xs 1)), some (vI 1), some (vI 0), none, none, none, none, none, none, none] [] _
  refine ab_iconst (v := 0) d_PW_which_2 (by decide) ?_
  refine ab_istore d_PW_which_3 (Nat.le_of_ble_eq_true rfl) (Nat.le_of_ble_eq_true rfl) rfl ?_
  change ab_W _ _ _ G 5 [some (vR 18), some (vI (xs 1)), some (vI 1), some (vI 0), some (vI 0), none, none, none, none, none, none] [] _
  refine ab_iconst (v := 0) d_PW_which_5 (by decide) ?_
  refine ab_istore d_PW_which_6 (Nat.le_of_ble_eq_true rfl) (Nat.le_of_ble_eq_true rfl) rfl ?_
  change ab_W _ _ _ G 8 [some (vR 18), some (vI (xs 1)), some (vI 1), some (vI 0), some (vI 0), some (vI 0), none, none, none, none, none] [] _
  refine ab_iconst (v := 0) d_PW_which_8 (by decide) ?_
  refine ab_istore d_PW_which_9 (Nat.le_of_ble_eq_true rfl) (Nat.le_of_ble_eq_true rfl) rfl ?_
  change ab_W _ _ _ G 11 [some (vR 18), some (vI (xs 1)), some (vI 1), some (vI 0), some (vI 0), some (vI 0), some (vI 0), none, none, none, none] [] _
  refine ab_iload d_PW_which_11 rfl ?_
  refine ab_bipush (v := 6) d_PW_which_13 (by decide) ?_
  refine ab_icmp_ge (tgt := 147) d_PW_which_15 (by decide) (fun c => absurd c (by decide)) (fun _ => ?_)
  refine ab_aload_n d_PW_which_18 rfl ?_
  refine ab_getf (fs := [vR 19, vR 20, vR 22, vR 30, vR 31, vR 36, vR 37, vR 46, vR 51, vR 60, vR 69, vR 70, vR 72, vR 74, vR 76, vR 78, vI 0, vI 0]) f_PW_31 d_PW_which_19 h18 rfl ?_
  refine ab_iload d_PW_which_22 rfl ?_
  refine ab_aald d_PW_which_24 h30 (by unfold vp_in; decide) ?_
  refine ab_topv (y := vN) rfl ?_
  refine ab_astoreN d_PW_which_25 (Nat.le_of_ble_eq_true rfl) (Nat.le_of_ble_eq_true rfl) rfl ?_
  change ab_W _ _ _ G 27 [some (vR 18), some (vI (xs 1)), some (vI 1), some (vI 0), some (vI 0), some (vI 0), some (vI 0), some (vN), none, none, none] [] _
  refine ab_aloadN d_PW_which_27 rfl ?_
  refine ab_ifnullN (tgt := 141) d_PW_which_29 (by decide) ?_
  refine ab_iinc (v := 1) d_PW_which_141 rfl (by decide) (Nat.le_of_ble_eq_true rfl) (Nat.le_of_ble_eq_true rfl) rfl ?_
  change ab_W _ _ _ G 144 [some (vR 18), some (vI (xs 1)), some (vI 1), some (vI 0), some (vI 0), some (vI 0), some (vI 1), some (vN), none, none, none] [] _
  refine ab_goto (tgt := 11) d_PW_which_144 (by decide) ?_
  refine ab_iload d_PW_which_11 rfl ?_
  refine ab_bipush (v := 6) d_PW_which_13 (by decide) ?_
  refine ab_icmp_ge (tgt := 147) d_PW_which_15 (by decide) (fun c => absurd c (by decide)) (fun _ => ?_)
  refine ab_aload_n d_PW_which_18 rfl ?_
  refine ab_getf (fs := [vR 19, vR 20, vR 22, vR 30, vR 31, vR 36, vR 37, vR 46, vR 51, vR 60, vR 69, vR 70, vR 72, vR 74, vR 76, vR 78, vI 0, vI 0]) f_PW_31 d_PW_which_19 h18 rfl ?_
  refine ab_iload d_PW_which_22 rfl ?_
  refine ab_aald d_PW_which_24 h30 (by unfold vp_in; decide) ?_
  refine ab_topv (y := vN) rfl ?_
  refine ab_astoreN d_PW_which_25 (Nat.le_of_ble_eq_true rfl) (Nat.le_of_ble_eq_true rfl) rfl ?_
  change ab_W _ _ _ G 27 [some (vR 18), some (vI (xs 1)), some (vI 1), some (vI 0), some (vI 0), some (vI 0), some (vI 1), some (vN), none, none, none] [] _
  refine ab_aloadN d_PW_which_27 rfl ?_
  refine ab_ifnullN (tgt := 141) d_PW_which_29 (by decide) ?_
  refine ab_iinc (v := 2) d_PW_which_141 rfl (by decide) (Nat.le_of_ble_eq_true rfl) (Nat.le_of_ble_eq_true rfl) rfl ?_
  change ab_W _ _ _ G 144 [some (vR 18), some (vI (xs 1)), some (vI 1), some (vI 0), some (vI 0), some (vI 0), some (vI 2), some (vN), none, none, none] [] _
  refine ab_goto (tgt := 11) d_PW_which_144 (by decide) ?_
  refine ab_iload d_PW_which_11 rfl ?_
  refine ab_bipush (v := 6) d_PW_which_13 (by decide) ?_
  refine ab_icmp_ge (tgt := 147) d_PW_which_15 (by decide) (fun c => absurd c (by decide)) (fun _ => ?_)
  refine ab_aload_n d_PW_which_18 rfl ?_
  refine ab_getf (fs := [vR 19, vR 20, vR 22, vR 30, vR 31, vR 36, vR 37, vR 46, vR 51, vR 60, vR 69, vR 70, vR 72, vR 74, vR 76, vR 78, vI 0, vI 0]) f_PW_31 d_PW_which_19 h18 rfl ?_
  refine ab_iload d_PW_which_22 rfl ?_
  refine ab_aald d_PW_which_24 h30 (by unfold vp_in; decide) ?_
  refine ab_topv (y := vN) rfl ?_
  refine ab_astoreN d_PW_which_25 (Nat.le_of_ble_eq_true rfl) (Nat.le_of_ble_eq_true rfl) rfl ?_
  change ab_W _ _ _ G 27 [some (vR 18), some (vI (xs 1)), some (vI 1), some (vI 0), some (vI 0), some (vI 0), some (vI 2), some (vN), none, none, none] [] _
  refine ab_aloadN d_PW_which_27 rfl ?_
  refine ab_ifnullN (tgt := 141) d_PW_which_29 (by decide) ?_
  refine ab_iinc (v := 3) d_PW_which_141 rfl (by decide) (Nat.le_of_ble_eq_true rfl) (Nat.le_of_ble_eq_true rfl) rfl ?_
  change ab_W _ _ _ G 144 [some (vR 18), some (vI (xs 1)), some (vI 1), some (vI 0), some (vI 0), some (vI 0), some (vI 3), some (vN), none, none, none] [] _
  refine ab_goto (tgt := 11) d_PW_which_144 (by decide) ?_
  refine ab_iload d_PW_which_11 rfl ?_
  refine ab_bipush (v := 6) d_PW_which_13 (by decide) ?_
  refine ab_icmp_ge (tgt := 147) d_PW_which_15 (by decide) (fun c => absurd c (by decide)) (fun _ => ?_)
  refine ab_aload_n d_PW_which_18 rfl ?_
  refine ab_getf (fs := [vR 19, vR 20, vR 22, vR 30, vR 31, vR 36, vR 37, vR 46, vR 51, vR 60, vR 69, vR 70, vR 72, vR 74, vR 76, vR 78, vI 0, vI 0]) f_PW_31 d_PW_which_19 h18 rfl ?_
  refine ab_iload d_PW_which_22 rfl ?_
  refine ab_aald d_PW_which_24 h30 (by unfold vp_in; decide) ?_
  refine ab_topv (y := vN) rfl ?_
  refine ab_astoreN d_PW_which_25 (Nat.le_of_ble_eq_true rfl) (Nat.le_of_ble_eq_true rfl) rfl ?_
  change ab_W _ _ _ G 27 [some (vR 18), some (vI (xs 1)), some (vI 1), some (vI 0), some (vI 0), some (vI 0), some (vI 3), some (vN), none, none, none] [] _
  refine ab_aloadN d_PW_which_27 rfl ?_
  refine ab_ifnullN (tgt := 141) d_PW_which_29 (by decide) ?_
  refine ab_iinc (v := 4) d_PW_which_141 rfl (by decide) (Nat.le_of_ble_eq_true rfl) (Nat.le_of_ble_eq_true rfl) rfl ?_
  change ab_W _ _ _ G 144 [some (vR 18), some (vI (xs 1)), some (vI 1), some (vI 0), some (vI 0), some (vI 0), some (vI 4), some (vN), none, none, none] [] _
  refine ab_goto (tgt := 11) d_PW_which_144 (by decide) ?_
  refine ab_iload d_PW_which_11 rfl ?_
  refine ab_bipush (v := 6) d_PW_which_13 (by decide) ?_
  refine ab_icmp_ge (tgt := 147) d_PW_which_15 (by decide) (fun c => absurd c (by decide)) (fun _ => ?_)
  refine ab_aload_n d_PW_which_18 rfl ?_
  refine ab_getf (fs := [vR 19, vR 20, vR 22, vR 30, vR 31, vR 36, vR 37, vR 46, vR 51, vR 60, vR 69, vR 70, vR 72, vR 74, vR 76, vR 78, vI 0, vI 0]) f_PW_31 d_PW_which_19 h18 rfl ?_
  refine ab_iload d_PW_which_22 rfl ?_
  refine ab_aald d_PW_which_24 h30 (by unfold vp_in; decide) ?_
  refine ab_topv (y := vN) rfl ?_
  refine ab_astoreN d_PW_which_25 (Nat.le_of_ble_eq_true rfl) (Nat.le_of_ble_eq_true rfl) rfl ?_
  change ab_W _ _ _ G 27 [some (vR 18), some (vI (xs 1)), some (vI 1), some (vI 0), some (vI 0), some (vI 0), some (vI 4), some (vN), none, none, none] [] _
  refine ab_aloadN d_PW_which_27 rfl ?_
  refine ab_ifnullN (tgt := 141) d_PW_which_29 (by decide) ?_
  refine ab_iinc (v := 5) d_PW_which_141 rfl (by decide) (Nat.le_of_ble_eq_true rfl) (Nat.le_of_ble_eq_true rfl) rfl ?_
  change ab_W _ _ _ G 144 [some (vR 18), some (vI (xs 1)), some (vI 1), some (vI 0), some (vI 0), some (vI 0), some (vI 5), some (vN), none, none, none] [] _
  refine ab_goto (tgt := 11) d_PW_which_144 (by decide) ?_
  refine ab_iload d_PW_which_11 rfl ?_
  refine ab_bipush (v := 6) d_PW_which_13 (by decide) ?_
  refine ab_icmp_ge (tgt := 147) d_PW_which_15 (by decide) (fun c => absurd c (by decide)) (fun _ => ?_)
  refine ab_aload_n d_PW_which_18 rfl ?_
  refine ab_getf (fs := [vR 19, vR 20, vR 22, vR 30, vR 31, vR 36, vR 37, vR 46, vR 51, vR 60, vR 69, vR 70, vR 72, vR 74, vR 76, vR 78, vI 0, vI 0]) f_PW_31 d_PW_which_19 h18 rfl ?_
  refine ab_iload d_PW_which_22 rfl ?_
  refine ab_aald d_PW_which_24 h30 (by unfold vp_in; decide) ?_
  refine ab_topv (y := vN) rfl ?_
  refine ab_astoreN d_PW_which_25 (Nat.le_of_ble_eq_true rfl) (Nat.le_of_ble_eq_true rfl) rfl ?_
  change ab_W _ _ _ G 27 [some (vR 18), some (vI (xs 1)), some (vI 1), some (vI 0), some (vI 0), some (vI 0), some (vI 5), some (vN), none, none, none] [] _
  refine ab_aloadN d_PW_which_27 rfl ?_
  refine ab_ifnullN (tgt := 141) d_PW_which_29 (by decide) ?_
  refine ab_iinc (v := 6) d_PW_which_141 rfl (by decide) (Nat.le_of_ble_eq_true rfl) (Nat.le_of_ble_eq_true rfl) rfl ?_
  change ab_W _ _ _ G 144 [some (vR 18), some (vI (xs 1)), some (vI 1), some (vI 0), some (vI 0), some (vI 0), some (vI 6), some (vN), none, none, none] [] _
  refine ab_goto (tgt := 11) d_PW_which_144 (by decide) ?_
  refine ab_iload d_PW_which_11 rfl ?_
  refine ab_bipush (v := 6) d_PW_which_13 (by decide) ?_
  refine ab_icmp_ge (tgt := 147) d_PW_which_15 (by decide) (fun _ => ?_) (fun c => absurd c (by decide))
  refine ab_aload_n d_PW_which_147 rfl ?_
  refine ab_iload d_PW_which_148 rfl ?_
  refine ab_iload d_PW_which_150 rfl ?_
  refine ab_callV (d' := d - 1) (as := [vI 0, vI 0]) (st := []) (r := _) (q_PW_settle_0  hlen hsl h18 h31 h37 h46 h51 h60) (fun o G2 h => ⟨_, h.1⟩) (by omega) m_PW_settle ml_PW_175 im_PW_settle se_PW_settle c_PW h18 (Nat.le_of_ble_eq_true rfl) d_PW_which_152 rfl ?_
  intro v G1 hq
  obtain ⟨hv, hfk, hlen, hsl, h37, h46, h51, h60⟩ := hq
  cases hv
  have h18 := hfk.get (by decide) h18
  have h30 := hfk.get (by decide) h30
  have h31 := hfk.get (by decide) h31
  have hfr := hfr.cl hfk (by decide)
  change ab_W _ _ _ G1 155 [some (vR 18), some (vI (xs 1)), some (vI 1), some (vI 0), some (vI 0), some (vI 0), some (vI 6), some (vN), none, none, none] [] _
  refine ab_iload_n d_PW_which_155 rfl ?_
  exact ab_iret (rt := .int) rfl rfl d_PW_which_156 (by rw [hQ]; exact ⟨rfl, hfr, hlen, hsl, h37, h46, h51, h60⟩)
set_option maxRecDepth 100000 in
set_option maxHeartbeats 4000000 in
theorem s_MO_which_133_7 {X : ab_X} {d : Nat} {G : ab_G} {Q : Outcome → ab_G → Prop} {xs : Nat → Int32} (hlen : G.length = 149) (hsl : ab_slots G = 1890753) (hk : ∀ o G2, (o = .returned (some (vI 0)) ∧ ab_fr [] G G2 ∧ G2.length = 149 ∧ ab_slots G2 = 1890753) → Q o G2) : ab_W X (ab_pl y_MO_which b_MO_which 7 (some (.int))) d G 133 [some (vR 80), some (vI (xs 1)), some (vI 1), some (vI 0), some (vI 5), none, none] [] Q := by
  have hfr : ab_fr [] G G := ab_fr.rf
  refine ab_iinc (v := 6) d_MO_which_133 rfl (by decide) (Nat.le_of_ble_eq_true rfl) (Nat.le_of_ble_eq_true rfl) rfl ?_
  change ab_W _ _ _ G 136 [some (vR 80), some (vI (xs 1)), some (vI 1), some (vI 0), some (vI 6), none, none] [] _
  refine ab_goto (tgt := 10) d_MO_which_136 (by decide) ?_
  refine ab_iload d_MO_which_10 rfl ?_
  refine ab_bipush (v := 6) d_MO_which_12 (by decide) ?_
  refine ab_icmp_ge (tgt := 139) d_MO_which_14 (by decide) (fun _ => ?_) (fun c => absurd c (by decide))
  refine ab_iload_n d_MO_which_139 rfl ?_
  exact ab_iret (rt := .int) rfl rfl d_MO_which_140 (hk _ _ ⟨rfl, hfr, hlen, hsl⟩)
set_option maxRecDepth 100000 in
set_option maxHeartbeats 4000000 in
theorem s_MO_which_133_8 {X : ab_X} {d : Nat} {G : ab_G} {Q : Outcome → ab_G → Prop} {xs : Nat → Int32} (hlen : G.length = 149) (hsl : ab_slots G = 1890753) (h80 : G[80]? = some (ab_ob 12 (m_fv (vI 0) (vI 0) (vI 0) (vI 0) (vI 0) (vI 0) (vI 0) (vI 0) (vI 0) (vI 0) (vI 0) (vI 0) (vI (-1)) (vI 0) (vI 0) (vI 0) (vI 0) (vI 0) (vI 0) (vI 0) (vI 0) (vI 0) (vI 0) (vI 0) (vI 0) (vI 0) (vI 0) (vI 0) (vI 0) (vI 0) (vI 0) (vI 0) (vI 0) (vI 0) (vI 0)))) (h112 : G[112]? = some (ab_zf 6 ((fun _ => 0)))) (hk : ∀ o G2, (o = .returned (some (vI 0)) ∧ ab_fr [] G G2 ∧ G2.length = 149 ∧ ab_slots G2 = 1890753) → Q o G2) : ab_W X (ab_pl y_MO_which b_MO_which 7 (some (.int))) d G 133 [some (vR 80), some (vI (xs 1)), some (vI 1), some (vI 0), some (vI 4), none, none] [] Q := by
  have hfr : ab_fr [] G G := ab_fr.rf
  refine ab_iinc (v := 5) d_MO_which_133 rfl (by decide) (Nat.le_of_ble_eq_true rfl) (Nat.le_of_ble_eq_true rfl) rfl ?_
  change ab_W _ _ _ G 136 [some (vR 80), some (vI (xs 1)), some (vI 1), some (vI 0), some (vI 5), none, none] [] _
  refine ab_goto (tgt := 10) d_MO_which_136 (by decide) ?_
  refine ab_iload d_MO_which_10 rfl ?_
  refine ab_bipush (v := 6) d_MO_which_12 (by decide) ?_
  refine ab_icmp_ge (tgt := 139) d_MO_which_14 (by decide) (fun c => absurd c (by decide)) (fun _ => ?_)
  refine ab_iload_n d_MO_which_17 rfl ?_
  refine ab_iload d_MO_which_18 rfl ?_
  refine ab_ishr d_MO_which_20 ?_
  refine ab_iconst (v := 1) d_MO_which_21 (by decide) ?_
  refine ab_iand d_MO_which_22 ?_
  refine ab_if_eq (tgt := 133) d_MO_which_23 (by decide) (fun c0 => ?_) (fun c0 => ?_)
  · refine s_MO_which_133_7 (xs := xs) hlen hsl (fun o Gz hq => ?_)
    obtain ⟨hv, hfk, hlen, hsl⟩ := hq
    have h80 := hfk.get (by decide) h80
    have h112 := hfk.get (by decide) h112
    have hfr := hfr.cl hfk (by decide)
    exact hk _ _ ⟨hv, hfr, hlen, hsl⟩
  · refine ab_aload_n d_MO_which_26 rfl ?_
    refine ab_getf (fs := (m_fv (vI 0) (vI 0) (vI 0) (vI 0) (vI 0) (vI 0) (vI 0) (vI 0) (vI 0) (vI 0) (vI 0) (vI 0) (vI (-1)) (vI 0) (vI 0) (vI 0) (vI 0) (vI 0) (vI 0) (vI 0) (vI 0) (vI 0) (vI 0) (vI 0) (vI 0) (vI 0) (vI 0) (vI 0) (vI 0) (vI 0) (vI 0) (vI 0) (vI 0) (vI 0) (vI 0))) f_MO_109 d_MO_which_27 h80 rfl ?_
    refine ab_iload d_MO_which_30 rfl ?_
    refine ab_zald d_MO_which_32 h112 (by unfold vp_in; decide) ?_
    refine ab_topi (y := 0) rfl ?_
    refine ab_if_ne (tgt := 39) d_MO_which_33 (by decide) (fun c => absurd c (by decide)) (fun _ => ?_)
    refine ab_goto (tgt := 133) d_MO_which_36 (by decide) ?_
    refine s_MO_which_133_7 (xs := xs) hlen hsl (fun o Gz hq => ?_)
    obtain ⟨hv, hfk, hlen, hsl⟩ := hq
    have h80 := hfk.get (by decide) h80
    have h112 := hfk.get (by decide) h112
    have hfr := hfr.cl hfk (by decide)
    exact hk _ _ ⟨hv, hfr, hlen, hsl⟩
