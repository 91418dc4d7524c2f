set_option maxRecDepth 100000 in
set_option maxHeartbeats 4000000 in
theorem lc_3b {X : ab_X} {d : Nat} {G : ab_G} {xs : Nat → Int32} (hlen : G.length = 149) (hsl : ab_slots G = 1890753) (h0 : G[0]? = some (ab_if 6 (xs))) (h18 : G[18]? = some (ab_ob 0 [vR 19, vR 20, vR 22, vR 30, vR 31, vR 36, vR 37, vR 46, vR 51, vR 60, vR 69, vR 70, vR 72, vR 74, vR 76, vR 78, vI 0, vI 0])) (h22 : G[22]? = some (ab_ob 6 [vR 23, vR 27, vI 0, vI 0, vI 0, vR 28, vR 29, vI 0, vI 0, vI 0])) (h23 : G[23]? = some (ab_ob 10 [vR 24, vR 26, vI 0, vI 0, vI 0, vI (-1), vR 1, vI 0])) (h80 : G[80]? = some (ab_ob 12 (m_fv (vI 0) (vI 0) (vI 0) (vI 0) (vI 0) (vI 0) (vI 0) (vI 0) (vI 0) (vI 0) (vI 0) (vI 0) (vI (-1)) (vI 0) (vI 0) (vI 0) (vI 0) (vI 0) (vI 0) (vI 0) (vI 0) (vI 0) (vI 0) (vI 0) (vI 0) (vI 0) (vI 0) (vI 0) (vI 0) (vI 0) (vI 0) (vI 0) (vI 0) (vI 0) (vI 0)))) (c0 : ¬ (xs 1) = 0) (hd : 1 ≤ d) : ab_W X ab_LW d G 296 [some (vR 0), some (vR 18), some (vR 80), some (vR 148), some (vI 0), none, none] [] (fun o _ => o = .returned (some (vI 1))) := by
  obtain ⟨Q, hQ⟩ : ∃ z : Outcome → ab_G → Prop, z = (fun o _ => o = .returned (some (vI 1))) := ⟨_, rfl⟩
  rw [← hQ]
  have hfr : ab_fr [80] G G := ab_fr.rf
  refine ab_aload_n d_LA_law_296 rfl ?_
  refine ab_aload_n d_LA_law_297 rfl ?_
  refine ab_iload d_LA_law_298 rfl ?_
  refine ab_iconst (v := 1) d_LA_law_300 (by decide) ?_
  refine ab_iadd d_LA_law_301 ?_
  refine ab_topi (y := 1) (by decide) ?_
  refine ab_iald d_LA_law_302 h0 (by unfold vp_in; decide) ?_
  refine ab_topi (y := (xs 1)) rfl ?_
  refine ab_callV (d' := d - 1) (as := [vI (xs 1)]) (st := []) (r := _) (q_PW_fault_1 (xs := xs) hlen hsl h18 h22 h23 c0) (fun o G2 h => ⟨_, h.1⟩) (by omega) m_PW_fault ml_LA_56 im_PW_fault se_PW_fault c_PW h18 (Nat.le_of_ble_eq_true rfl) d_LA_law_303 rfl ?_
  intro v G1 hq
  obtain ⟨hv, hfk, hlen, hsl⟩ := hq
  cases hv
  have h0 := hfk.get (by decide) h0
  have h18 := hfk.get (by decide) h18
  have h22 := hfk.get (by decide) h22
  have h23 := hfk.get (by decide) h23
  have h80 := hfk.get (by decide) h80
  have hfr := hfr.cl hfk (by decide)
  change ab_W _ _ _ G1 306 [some (vR 0), some (vR 18), some (vR 80), some (vR 148), some (vI 0), none, none] [vI (-1)] _
  refine ab_aload_n d_LA_law_306 rfl ?_
  refine ab_aload_n d_LA_law_307 rfl ?_
  refine ab_iload d_LA_law_308 rfl ?_
  refine ab_iconst (v := 1) d_LA_law_310 (by decide) ?_
  refine ab_iadd d_LA_law_311 ?_
  refine ab_topi (y := 1) (by decide) ?_
  refine ab_iald d_LA_law_312 h0 (by unfold vp_in; decide) ?_
  refine ab_topi (y := (xs 1)) rfl ?_
  refine ab_callV (d' := d - 1) (as := [vI (xs 1)]) (st := [vI (-1)]) (r := _) (q_MO_fault_1 (xs := xs) hlen hsl h80 c0) (fun o G2 h => ⟨_, h.1⟩) (by omega) m_MO_fault ml_LA_59 im_MO_fault se_MO_fault c_MO h80 (Nat.le_of_ble_eq_true rfl) d_LA_law_313 rfl ?_
  intro v G2 hq
  obtain ⟨hv, hfk, hlen, hsl, h80⟩ := hq
  cases hv
  have h0 := hfk.get (by decide) h0
  have h18 := hfk.get (by decide) h18
  have h22 := hfk.get (by decide) h22
  have h23 := hfk.get (by decide) h23
  have hfr := hfr.cl hfk (by decide)
  change ab_W _ _ _ G2 316 [some (vR 0), some (vR 18), some (vR 80), some (vR 148), some (vI 0), none, none] [vI (-1), vI (-1)] _
  refine ab_icmp_eq (tgt := 931) d_LA_law_316 (by decide) (fun _ => ?_) (fun c => absurd c (by decide))
  refine ab_iinc (v := 6) d_LA_law_931 rfl (by decide) (Nat.le_of_ble_eq_true rfl) (Nat.le_of_ble_eq_true rfl) rfl ?_
  change ab_W _ _ _ G2 934 [some (vR 0), some (vR 18), some (vR 80), some (vR 148), some (vI 6), none, none] [] _
  refine ab_goto (tgt := 23) d_LA_law_934 (by decide) ?_
  refine ab_iload d_LA_law_23 rfl ?_
  refine ab_aload_n d_LA_law_25 rfl ?_
  refine ab_alen (v := 6) d_LA_law_26 h0 (by first | decide | rfl) ?_
  refine ab_bipush (v := 6) d_LA_law_27 (by decide) ?_
  refine ab_isub d_LA_law_29 ?_
  refine ab_topi (y := 0) (by decide) ?_
  refine ab_icmp_gt (tgt := 937) d_LA_law_30 (by decide) (fun _ => ?_) (fun c => absurd c (by decide))
  refine ab_iconst (v := 1) d_LA_law_937 (by decide) ?_
  exact ab_iret (rt := .boolean) rfl (by decide) d_LA_law_938 (by rw [hQ])
set_option maxRecDepth 100000 in
set_option maxHeartbeats 4000000 in
theorem q_PW_programAt_0 {X : ab_X} {d : Nat} {G : ab_G} {xs : Nat → Int32} (hlen : G.length = 149) (hsl : ab_slots G = 1890753) (h18 : G[18]? = some (ab_ob 0 [vR 19, vR 20, vR 22, vR 30, vR 31, vR 36, vR 37, vR 46, vR 51, vR 60, vR 69, vR 70, vR 72, vR 74, vR 76, vR 78, vI 0, vI 0])) (h30 : G[30]? = some (.inl (3, 6, .inr (.inr (.inr (.inr (fun _ => none))))))) : ab_F X d y_PW_programAt (.code y_PW_programAt b_PW_programAt 2 (some (.object "PatternWorks$Program"))) [vR 18, vI (xs 1)] G (fun o G2 => o = .returned (some (vN)) ∧ ab_fr [] G G2 ∧ G2.length = 149 ∧ ab_slots G2 = 1890753) := by
  refine ab_F_of (by decide +kernel) (Nat.le_of_ble_eq_true rfl) ?_
  obtain ⟨Q, hQ⟩ : ∃ z : Outcome → ab_G → Prop, z = (fun o G2 => o = .returned (some (vN)) ∧ ab_fr [] G G2 ∧ G2.length = 149 ∧ ab_slots G2 = 1890753) := ⟨_, rfl⟩
  rw [← hQ]
  change ab_W X (ab_pl y_PW_programAt b_PW_programAt 2 (some (.object "PatternWorks$Program"))) d G 0 [some (vR 18), some (vI (xs 1))] [] Q
  have hfr : ab_fr [] G G := ab_fr.rf
  refine ab_iload_n d_PW_programAt_0 rfl ?_
  refine ab_if_lt (tgt := 19) d_PW_programAt_1 (by decide) (fun c0 => ?_) (fun c0 => ?_)
  · refine ab_null d_PW_programAt_19 ?_
    exact ab_aret (rt := _) rfl (Or.inl ⟨_, rfl⟩) (Or.inl rfl) d_PW_programAt_20 (by rw [hQ]; exact ⟨rfl, hfr, hlen, hsl⟩)
  · refine ab_iload_n d_PW_programAt_4 rfl ?_
    refine ab_bipush (v := 6) d_PW_programAt_5 (by decide) ?_
    refine ab_icmp_ge (tgt := 19) d_PW_programAt_7 (by decide) (fun c1 => ?_) (fun c1 => ?_)
    · refine ab_null d_PW_programAt_19 ?_
      exact ab_aret (rt := _) rfl (Or.inl ⟨_, rfl⟩) (Or.inl rfl) d_PW_programAt_20 (by rw [hQ]; exact ⟨rfl, hfr, hlen, hsl⟩)
    · refine ab_aload_n d_PW_programAt_10 rfl ?_
      refine ab_getf (fs := [vR 19, vR 20, vR 22, vR 30, vR 31, vR 36, vR 37, vR 46, vR 51, vR 60, vR 69, vR 70, vR 72, vR 74, vR 76, vR 78, vI 0, vI 0]) f_PW_31 d_PW_programAt_11 h18 rfl ?_
      refine ab_iload_n d_PW_programAt_14 rfl ?_
      refine ab_aald d_PW_programAt_15 h30 (vp_in_iff.mpr (by have l0 := (show (0 : Int32).toInt = 0 by decide); have l1 := (show (6 : Int32).toInt = 6 by decide); simp only [Int32.le_iff_toInt_le, Int32.lt_iff_toInt_lt, ← Int32.toInt_inj] at c0 c1; constructor <;> omega)) ?_
      refine ab_topv (y := vN) rfl ?_
      refine ab_goto (tgt := 20) d_PW_programAt_16 (by decide) ?_
      exact ab_aret (rt := _) rfl (Or.inl ⟨_, rfl⟩) (Or.inl rfl) d_PW_programAt_20 (by rw [hQ]; exact ⟨rfl, hfr, hlen, hsl⟩)
set_option maxRecDepth 100000 in
set_option maxHeartbeats 4000000 in
theorem q_PW_about_0 {X : ab_X} {d : Nat} {G : ab_G} {xs : Nat → Int32} (hlen : G.length = 149) (hsl : ab_slots G = 1890753) (h18 : G[18]? = some (ab_ob 0 [vR 19, vR 20, vR 22, vR 30, vR 31, vR 36, vR 37, vR 46, vR 51, vR 60, vR 69, vR 70, vR 72, vR 74, vR 76, vR 78, vI 0, vI 0])) (h30 : G[30]? = some (.inl (3, 6, .inr (.inr (.inr (.inr (fun _ => none))))))) (hd : 1 ≤ d) : ab_F X d y_PW_about (.code y_PW_about b_PW_about 4 (some (.int))) [vR 18, vI (xs 1), vI (xs 2)] G (fun o G2 => o = .returned (some (vI (-1))) ∧ ab_fr [] G G2 ∧ G2.length = 149 ∧ ab_slots G2 = 1890753) := by
  refine ab_F_of (by decide +kernel) (Nat.le_of_ble_eq_true rfl) ?_
  obtain ⟨Q, hQ⟩ : ∃ z : Outcome → ab_G → Prop, z = (fun o G2 => o = .returned (some (vI (-1))) ∧ ab_fr [] G G2 ∧ G2.length = 149 ∧ ab_slots G2 = 1890753) := ⟨_, rfl⟩
  rw [← hQ]
  change ab_W X (ab_pl y_PW_about b_PW_about 4 (some (.int))) d G 0 [some (vR 18), some (vI (xs 1)), some (vI (xs 2)), none] [] Q
  have hfr : ab_fr [] G G := ab_fr.rf
  refine ab_aload_n d_PW_about_0 rfl ?_
  refine ab_iload_n d_PW_about_1 rfl ?_
  refine ab_callV (d' := d - 1) (as := [vI (xs 1)]) (st := []) (r := _) (q_PW_programAt_0 (xs := xs) hlen hsl h18 h30) (fun o G2 h => ⟨_, h.1⟩) (by omega) m_PW_programAt ml_PW_148 im_PW_programAt se_PW_programAt c_PW h18 (Nat.le_of_ble_eq_true rfl) d_PW_about_2 rfl ?_
  intro v G1 hq
  obtain ⟨hv, hfk, hlen, hsl⟩ := hq
  cases hv
  have h18 := hfk.get (by decide) h18
  have h30 := hfk.get (by decide) h30
  have hfr := hfr.cl hfk (by decide)
  change ab_W _ _ _ G1 5 [some (vR 18), some (vI (xs 1)), some (vI (xs 2)), none] [vN] _
  refine ab_astore_nN d_PW_about_5 (Nat.le_of_ble_eq_true rfl) (Nat.le_of_ble_eq_true rfl) rfl ?_
  change ab_W _ _ _ G1 6 [some (vR 18), some (vI (xs 1)), some (vI (xs 2)), some (vN)] [] _
  refine ab_aload_nN d_PW_about_6 rfl ?_
  refine ab_ifnullN (tgt := 19) d_PW_about_7 (by decide) ?_
  refine ab_iconst (v := (-1)) d_PW_about_19 (by decide) ?_
  exact ab_iret (rt := .int) rfl rfl d_PW_about_20 (by rw [hQ]; exact ⟨rfl, hfr, hlen, hsl⟩)
set_option maxRecDepth 100000 in
set_option maxHeartbeats 4000000 in
theorem q_MO_isThere_0 {X : ab_X} {d : Nat} {G : ab_G} {xs : Nat → Int32} (hlen : G.length = 149) (hsl : ab_slots G = 1890753) (h80 : G[80]? = some (ab_ob 12 (m_fv (vI 0) (vI 0) (vI 0) (vI 0) (vI 0) (vI 0) (vI 0) (vI 0) (vI 0) (vI 0) (vI 0) (vI 0) (vI (-1)) (vI 0) (vI 0) (vI 0) (vI 0) (vI 0) (vI 0) (vI 0) (vI 0) (vI 0) (vI 0) (vI 0) (vI 0) (vI 0) (vI 0) (vI 0) (vI 0) (vI 0) (vI 0) (vI 0) (vI 0) (vI 0) (vI 0)))) (h112 : G[112]? = some (ab_zf 6 ((fun _ => 0)))) : ab_F X d y_MO_isThere (.code y_MO_isThere b_MO_isThere 2 (some (.boolean))) [vR 80, vI (xs 1)] G (fun o G2 => o = .returned (some (vI 0)) ∧ ab_fr [] G G2 ∧ G2.length = 149 ∧ ab_slots G2 = 1890753) := by
  refine ab_F_of (by decide +kernel) (Nat.le_of_ble_eq_true rfl) ?_
  obtain ⟨Q, hQ⟩ : ∃ z : Outcome → ab_G → Prop, z = (fun o G2 => o = .returned (some (vI 0)) ∧ ab_fr [] G G2 ∧ G2.length = 149 ∧ ab_slots G2 = 1890753) := ⟨_, rfl⟩
  rw [← hQ]
  change ab_W X (ab_pl y_MO_isThere b_MO_isThere 2 (some (.boolean))) d G 0 [some (vR 80), some (vI (xs 1))] [] Q
  have hfr : ab_fr [] G G := ab_fr.rf
  refine ab_iload_n d_MO_isThere_0 rfl ?_
  refine ab_if_lt (tgt := 23) d_MO_isThere_1 (by decide) (fun c0 => ?_) (fun c0 => ?_)
  · refine ab_iconst (v := 0) d_MO_isThere_23 (by decide) ?_
    exact ab_iret (rt := .boolean) rfl (by decide) d_MO_isThere_24 (by rw [hQ]; exact ⟨rfl, hfr, hlen, hsl⟩)
  · refine ab_iload_n d_MO_isThere_4 rfl ?_
    refine ab_bipush (v := 6) d_MO_isThere_5 (by decide) ?_
    refine ab_icmp_ge (tgt := 23) d_MO_isThere_7 (by decide) (fun c1 => ?_) (fun c1 => ?_)
    · refine ab_iconst (v := 0) d_MO_isThere_23 (by decide) ?_
      exact ab_iret (rt := .boolean) rfl (by decide) d_MO_isThere_24 (by rw [hQ]; exact ⟨rfl, hfr, hlen, hsl⟩)
    · refine ab_aload_n d_MO_isThere_10 rfl ?_
      refine ab_getf (fs := (m_fv (vI 0) (vI 0) (vI 0) (vI 0) (vI 0) (vI 0) (vI 0) (vI 0) (vI 0) (vI 0) (vI 0) (vI 0) (vI (-1)) (vI 0) (vI 0) (vI 0) (vI 0) (vI 0) (vI 0) (vI 0) (vI 0) (vI 0) (vI 0) (vI 0) (vI 0) (vI 0) (vI 0) (vI 0) (vI 0) (vI 0) (vI 0) (vI 0) (vI 0) (vI 0) (vI 0))) f_MO_109 d_MO_isThere_11 h80 rfl ?_
      refine ab_iload_n d_MO_isThere_14 rfl ?_
      refine ab_zald d_MO_isThere_15 h112 (vp_in_iff.mpr (by have l0 := (show (0 : Int32).toInt = 0 by decide); have l1 := (show (6 : Int32).toInt = 6 by decide); simp only [Int32.le_iff_toInt_le, Int32.lt_iff_toInt_lt, ← Int32.toInt_inj] at c0 c1; constructor <;> omega)) ?_
      refine ab_topi (y := 0) rfl ?_
      refine ab_if_eq (tgt := 23) d_MO_isThere_16 (by decide) (fun _ => ?_) (fun c => absurd c (by decide))
      refine ab_iconst (v := 0) d_MO_isThere_23 (by decide) ?_
      exact ab_iret (rt := .boolean) rfl (by decide) d_MO_isThere_24 (by rw [hQ]; exact ⟨rfl, hfr, hlen, hsl⟩)
set_option maxRecDepth 100000 in
set_option maxHeartbeats 4000000 in
theorem q_MO_about_0 {X : ab_X} {d : Nat} {G : ab_G} {xs : Nat → Int32} (hlen : G.length = 149) (hsl : ab_slots G = 1890753) (h80 : G[80]? = some (ab_ob 12 (m_fv (vI 0) (vI 0) (vI 0) (vI 0) (vI 0) (vI 0) (vI 0) (vI 0) (vI 0) (vI 0) (vI 0) (vI 0) (vI (-1)) (vI 0) (vI 0) (vI 0) (vI 0) (vI 0) (vI 0) (vI 0) (vI 0) (vI 0) (vI 0) (vI 0) (vI 0) (vI 0) (vI 0) (vI 0) (vI 0) (vI 0) (vI 0) (vI 0) (vI 0) (vI 0) (vI 0)))) (h112 : G[112]? = some (ab_zf 6 ((fun _ => 0)))) (hd : 1 ≤ d) : ab_F X d y_MO_about (.code y_MO_about b_MO_about 3 (some (.int))) [vR 80, vI (xs 1), vI (xs 2)] G (fun o G2 => o = .returned (some (vI (-1))) ∧ ab_fr [80] G G2 ∧ G2.length = 149 ∧ ab_slots G2 = 1890753 ∧ G2[80]? = some (ab_ob 12 (m_fv (vI 0) (vI 0) (vI 0) (vI 0) (vI 0) (vI 0) (vI 0) (vI 0) (vI 0) (vI 0) (vI 0) (vI 0) (vI (-1)) (vI 0) (vI 0) (vI 0) (vI 0) (vI 0) (vI 0) (vI 0) (vI 0) (vI 0) (vI 0) (vI 0) (vI 0) (vI 0) (vI 0) (vI 0) (vI 0) (vI 0) (vI 0) (vI 0) (vI 0) (vI 0) (vI 0)))) := by
  refine ab_F_of (by decide +kernel) (Nat.le_of_ble_eq_true rfl) ?_
  obtain ⟨Q, hQ⟩ : ∃ z : Outcome → ab_G → Prop, z = (fun o G2 => o = .returned (some (vI (-1))) ∧ ab_fr [80] G G2 ∧ G2.length = 149 ∧ ab_slots G2 = 1890753 ∧ G2[80]? = some (ab_ob 12 (m_fv (vI 0) (vI 0) (vI 0) (vI 0) (vI 0) (vI 0) (vI 0) (vI 0) (vI 0) (vI 0) (vI 0) (vI 0) (vI (-1)) (vI 0) (vI 0) (vI 0) (vI 0) (vI 0) (vI 0) (vI 0) (vI 0) (vI 0) (vI 0) (vI 0) (vI 0) (vI 0) (vI 0) (vI 0) (vI 0) (vI 0) (vI 0) (vI 0) (vI 0) (vI 0) (vI 0)))) := ⟨_, rfl⟩
  rw [← hQ]
  change ab_W X (ab_pl y_MO_about b_MO_about 3 (some (.int))) d G 0 [some (vR 80), some (vI (xs 1)), some (vI (xs 2))] [] Q
  have hfr : ab_fr [80] G G := ab_fr.rf
  refine ab_aload_n d_MO_about_0 rfl ?_
  refine ab_iconst (v := 0) d_MO_about_1 (by decide) ?_
  refine ab_putf (fs := (m_fv (vI 0) (vI 0) (vI 0) (vI 0) (vI 0) (vI 0) (vI 0) (vI 0) (vI 0) (vI 0) (vI 0) (vI 0) (vI (-1)) (vI 0) (vI 0) (vI 0) (vI 0) (vI 0) (vI 0) (vI 0) (vI 0) (vI 0) (vI 0) (vI 0) (vI 0) (vI 0) (vI 0) (vI 0) (vI 0) (vI 0) (vI 0) (vI 0) (vI 0) (vI 0) (vI 0))) f_MO_220 (Or.inl rfl) d_MO_about_2 h80 (Nat.le_of_ble_eq_true rfl) (fun _ => ⟨rfl, rfl⟩) (by decide) ?_
  obtain ⟨G1, eG1⟩ : ∃ z : ab_G, z = List.set G 80 (ab_ob 12 (m_fv (vI 0) (vI 0) (vI 0) (vI 0) (vI 0) (vI 0) (vI 0) (vI 0) (vI 0) (vI 0) (vI 0) (vI 0) (vI (-1)) (vI 0) (vI 0) (vI 0) (vI 0) (vI 0) (vI 0) (vI 0) (vI 0) (vI 0) (vI 0) (vI 0) (vI 0) (vI 0) (vI 0) (vI 0) (vI 0) (vI 0) (vI 0) (vI 0) (vI 0) (vI 0) (vI 0))) := ⟨_, rfl⟩
  have h112 := ab_keep eG1 (by decide) h112
  have hlen := ab_klen eG1 hlen
  have hsl := ab_ksl 102 eG1 h80 rfl rfl hsl
  have hfr := hfr.wr eG1 (by decide)
  have h80 := ab_kept eG1 h80
  change ab_W _ _ _ (List.set G 80 (ab_ob 12 (m_fv (vI 0) (vI 0) (vI 0) (vI 0) (vI 0) (vI 0) (vI 0) (vI 0) (vI 0) (vI 0) (vI 0) (vI 0) (vI (-1)) (vI 0) (vI 0) (vI 0) (vI 0) (vI 0) (vI 0) (vI 0) (vI 0) (vI 0) (vI 0) (vI 0) (vI 0) (vI 0) (vI 0) (vI 0) (vI 0) (vI 0) (vI 0) (vI 0) (vI 0) (vI 0) (vI 0)))) 5 [some (vR 80), some (vI (xs 1)), some (vI (xs 2))] [] _
  rw [← eG1]
  refine ab_aload_n d_MO_about_5 rfl ?_
  refine ab_iload_n d_MO_about_6 rfl ?_
  refine ab_callV (d' := d - 1) (as := [vI (xs 1)]) (st := []) (r := _) (q_MO_isThere_0 (xs := xs) hlen hsl h80 h112) (fun o G2 h => ⟨_, h.1⟩) (by omega) m_MO_isThere ml_MO_507 im_MO_isThere se_MO_isThere c_MO h80 (Nat.le_of_ble_eq_true rfl) d_MO_about_7 rfl ?_
  intro v G2 hq
  obtain ⟨hv, hfk, hlen, hsl⟩ := hq
  cases hv
  have h80 := hfk.get (by decide) h80
  have h112 := hfk.get (by decide) h112
  have hfr := hfr.cl hfk (by decide)
  change ab_W _ _ _ G2 10 [some (vR 80), some (vI (xs 1)), some (vI (xs 2))] [vI 0] _
  refine ab_if_ne (tgt := 17) d_MO_about_10 (by decide) (fun c => absurd c (by decide)) (fun _ => ?_)
  refine ab_iconst (v := (-1)) d_MO_about_13 (by decide) ?_
  refine ab_goto (tgt := 59) d_MO_about_14 (by decide) ?_
  exact ab_iret (rt := .int) rfl rfl d_MO_about_59 (by rw [hQ]; exact ⟨rfl, hfr, hlen, hsl, h80⟩)
set_option maxRecDepth 100000 in
set_option maxHeartbeats 4000000 in
theorem lc_4 {X : ab_X} {d : Nat} {G : ab_G} {xs : Nat → Int32} (hlen : G.length = 149) (hsl : ab_slots G = 1890753) (h0 : G[0]? = some (ab_if 6 (xs))) (h18 : G[18]? = some (ab_ob 0 [vR 19, vR 20, vR 22, vR 30, vR 31, vR 36, vR 37, vR 46, vR 51, vR 60, vR 69, vR 70, vR 72, vR 74, vR 76, vR 78, vI 0, vI 0])) (h30 : G[30]? = some (.inl (3, 6, .inr (.inr (.inr (.inr (fun _ => none))))))) (h80 : G[80]? = some (ab_ob 12 (m_fv (vI 0) (vI 0) (vI 0) (vI 0) (vI 0) (vI 0) (vI 0) (vI 0) (vI 0) (vI 0) (vI 0) (vI 0) (vI (-1)) (vI 0) (vI 0) (vI 0) (vI 0) (vI 0) (vI 0) (vI 0) (vI 0) (vI 0) (vI 0) (vI 0) (vI 0) (vI 0) (vI 0) (vI 0) (vI 0) (vI 0) (vI 0) (vI 0) (vI 0) (vI 0) (vI 0)))) (h112 : G[112]? = some (ab_zf 6 ((fun _ => 0)))) (hd : 2 ≤ d) : ab_W X ab_LW d G 321 [some (vR 0), some (vR 18), some (vR 80), some (vR 148), some (vI 0), none, none] [] (fun o _ => o = .returned (some (vI 1))) := by
  obtain ⟨Q, hQ⟩ : ∃ z : Outcome → ab_G → Prop, z = (fun o _ => o = .returned (some (vI 1))) := ⟨_, rfl⟩
  rw [← hQ]
  have hfr : ab_fr [80] G G := ab_fr.rf
  refine ab_aload_n d_LA_law_321 rfl ?_
  refine ab_aload_n d_LA_law_322 rfl ?_
  refine ab_iload d_LA_law_323 rfl ?_
  refine ab_iconst (v := 1) d_LA_law_325 (by decide) ?_
  refine ab_iadd d_LA_law_326 ?_
  refine ab_topi (y := 1) (by decide) ?_
  refine ab_iald d_LA_law_327 h0 (by unfold vp_in; decide) ?_
  refine ab_topi (y := (xs 1)) rfl ?_
  refine ab_aload_n d_LA_law_328 rfl ?_
  refine ab_iload d_LA_law_329 rfl ?_
  refine ab_iconst (v := 2) d_LA_law_331 (by decide) ?_
  refine ab_iadd d_LA_law_332 ?_
  refine ab_topi (y := 2) (by decide) ?_
  refine ab_iald d_LA_law_333 h0 (by unfold vp_in; decide) ?_
  refine ab_topi (y := (xs 2)) rfl ?_
  refine ab_callV (d' := d - 1) (as := [vI (xs 1), vI (xs 2)]) (st := []) (r := _) (q_PW_about_0 (xs := xs) hlen hsl h18 h30 (by omega)) (fun o G2 h => ⟨_, h.1⟩) (by omega) m_PW_about ml_LA_60 im_PW_about se_PW_about c_PW h18 (Nat.le_of_ble_eq_true rfl) d_LA_law_334 rfl ?_
  intro v G1 hq
  obtain ⟨hv, hfk, hlen, hsl⟩ := hq
  cases hv
  have h0 := hfk.get (by decide) h0
  have h18 := hfk.get (by decide) h18
  have h30 := hfk.get (by decide) h30
  have h80 := hfk.get (by decide) h80
  have h112 := hfk.get (by decide) h112
  have hfr := hfr.cl hfk (by decide)
  change ab_W _ _ _ G1 337 [some (vR 0), some (vR 18), some (vR 80), some (vR 148), some (vI 0), none, none] [vI (-1)] _
  refine ab_aload_n d_LA_law_337 rfl ?_
  refine ab_aload_n d_LA_law_338 rfl ?_
  refine ab_iload d_LA_law_339 rfl ?_
  refine ab_iconst (v := 1) d_LA_law_341 (by decide) ?_
  refine ab_iadd d_LA_law_342 ?_
  refine ab_topi (y := 1) (by decide) ?_
  refine ab_iald d_LA_law_343 h0 (by unfold vp_in; decide) ?_
  refine ab_topi (y := (xs 1)) rfl ?_
  refine ab_aload_n d_LA_law_344 rfl ?_
  refine ab_iload d_LA_law_345 rfl ?_
  refine ab_iconst (v := 2) d_LA_law_347 (by decide) ?_
  refine ab_iadd d_LA_law_348 ?_
  refine ab_topi (y := 2) (by decide) ?_
  refine ab_iald d_LA_law_349 h0 (by unfold vp_in; decide) ?_
  refine ab_topi (y := (xs 2)) rfl ?_
  refine ab_callV (d' := d - 1) (as := [vI (xs 1), vI (xs 2)]) (st := [vI (-1)]) (r := _) (q_MO_about_0 (xs := xs) hlen hsl h80 h112 (by omega)) (fun o G2 h => ⟨_, h.1⟩) (by omega) m_MO_about ml_LA_63 im_MO_about se_MO_about c_MO h80 (Nat.le_of_ble_eq_true rfl) d_LA_law_350 rfl ?_
  intro v G2 hq
  obtain ⟨hv, hfk, hlen, hsl, h80⟩ := hq
  cases hv
  have h0 := hfk.get (by decide) h0
  have h18 := hfk.get (by decide) h18
  have h30 := hfk.get (by decide) h30
  have h112 := hfk.get (by decide) h112
  have hfr := hfr.cl hfk (by decide)
  change ab_W _ _ _ G2 353 [some (vR 0), some (vR 18), some (vR 80), some (vR 148), some (vI 0), none, none] [vI (-1), vI (-1)] _
  refine ab_icmp_eq (tgt := 931) d_LA_law_353 (by decide) (fun _ => ?_) (fun c => absurd c (by decide))
  refine ab_iinc (v := 6) d_LA_law_931 rfl (by decide) (Nat.le_of_ble_eq_true rfl) (Nat.le_of_ble_eq_true rfl) rfl ?_
  change ab_W _ _ _ G2 934 [some (vR 0), some (vR 18), some (vR 80), some (vR 148), some (vI 6), none, none] [] _
  refine ab_goto (tgt := 23) d_LA_law_934 (by decide) ?_
  refine ab_iload d_LA_law_23 rfl ?_
  refine ab_aload_n d_LA_law_25 rfl ?_
  refine ab_alen (v := 6) d_LA_law_26 h0 (by first | decide | rfl) ?_
  refine ab_bipush (v := 6) d_LA_law_27 (by decide) ?_
  refine ab_isub d_LA_law_29 ?_
  refine ab_topi (y := 0) (by decide) ?_
  refine ab_icmp_gt (tgt := 937) d_LA_law_30 (by decide) (fun _ => ?_) (fun c => absurd c (by decide))
  refine ab_iconst (v := 1) d_LA_law_937 (by decide) ?_
  exact ab_iret (rt := .boolean) rfl (by decide) d_LA_law_938 (by rw [hQ])
set_option maxRecDepth 100000 in
set_option maxHeartbeats 4000000 in
theorem q_PW_name_0 {X : ab_X} {d : Nat} {G : ab_G} {xs : Nat → Int32} (hlen : G.length = 149) (hsl : ab_slots G = 1890753) (h18 : G[18]? = some (ab_ob 0 [vR 19, vR 20, vR 22, vR 30, vR 31, vR 36, vR 37, vR 46, vR 51, vR 60, vR 69, vR 70, vR 72, vR 74, vR 76, vR 78, vI 0, vI 0])) (h30 : G[30]? = some (.inl (3, 6, .inr (.inr (.inr (.inr (fun _ => none))))))) (hd : 1 ≤ d) : ab_F X d y_PW_name (.code y_PW_name b_PW_name 5 (some (.int))) [vR 18, vI (xs 1), vI (xs 2), vI (xs 3)] G (fun o G2 => o = .returned (some (vI (-1))) ∧ ab_fr [] G G2 ∧ G2.length = 149 ∧ ab_slots G2 = 1890753) := by
  refine ab_F_of (by decide +kernel) (Nat.le_of_ble_eq_true rfl) ?_
  obtain ⟨Q, hQ⟩ : ∃ z : Outcome → ab_G → Prop, z = (fun o G2 => o = .returned (some (vI (-1))) ∧ ab_fr [] G G2 ∧ G2.length = 149 ∧ ab_slots G2 = 1890753) := ⟨_, rfl⟩
  rw [← hQ]
  change ab_W X (ab_pl y_PW_name b_PW_name 5 (some (.int))) d G 0 [some (vR 18), some (vI (xs 1)), some (vI (xs 2)), some (vI (xs 3)), none] [] Q
  have hfr : ab_fr [] G G := ab_fr.rf
  refine ab_aload_n d_PW_name_0 rfl ?_
  refine ab_iload_n d_PW_name_1 rfl ?_
  refine ab_callV (d' := d - 1) (as := [vI (xs 1)]) (st := []) (r := _) (q_PW_programAt_0 (xs := xs) hlen hsl h18 h30) (fun o G2 h => ⟨_, h.1⟩) (by omega) m_PW_programAt ml_PW_148 im_PW_programAt se_PW_programAt c_PW h18 (Nat.le_of_ble_eq_true rfl) d_PW_name_2 rfl ?_
  intro v G1 hq
  obtain ⟨hv, hfk, hlen, hsl⟩ := hq
  cases hv
  have h18 := hfk.get (by decide) h18
  have h30 := hfk.get (by decide) h30
  have hfr := hfr.cl hfk (by decide)
  change ab_W _ _ _ G1 5 [some (vR 18), some (vI (xs 1)), some (vI (xs 2)), some (vI (xs 3)), none] [vN] _
  refine ab_astoreN d_PW_name_5 (Nat.le_of_ble_eq_true rfl) (Nat.le_of_ble_eq_true rfl) rfl ?_
  change ab_W _ _ _ G1 7 [some (vR 18), some (vI (xs 1)), some (vI (xs 2)), some (vI (xs 3)), some (vN)] [] _
  refine ab_aloadN d_PW_name_7 rfl ?_
  refine ab_ifnonnullN d_PW_name_9 ?_
  refine ab_iconst (v := (-1)) d_PW_name_12 (by decide) ?_
  refine ab_goto (tgt := 23) d_PW_name_13 (by decide) ?_
  exact ab_iret (rt := .int) rfl rfl d_PW_name_23 (by rw [hQ]; exact ⟨rfl, hfr, hlen, hsl⟩)
set_option maxRecDepth 100000 in
set_option maxHeartbeats 4000000 in
theorem q_MO_name_0 {X : ab_X} {d : Nat} {G : ab_G} {xs : Nat → Int32} (hlen : G.length = 149) (hsl : ab_slots G = 1890753) (h80 : G[80]? = some (ab_ob 12 (m_fv (vI 0) (vI 0) (vI 0) (vI 0) (vI 0) (vI 0) (vI 0) (vI 0) (vI 0) (vI 0) (vI 0) (vI 0) (vI (-1)) (vI 0) (vI 0) (vI 0) (vI 0) (vI 0) (vI 0) (vI 0) (vI 0) (vI 0) (vI 0) (vI 0) (vI 0) (vI 0) (vI 0) (vI 0) (vI 0) (vI 0) (vI 0) (vI 0) (vI 0) (vI 0) (vI 0)))) (h112 : G[112]? = some (ab_zf 6 ((fun _ => 0)))) (hd : 1 ≤ d) : ab_F X d y_MO_name (.code y_MO_name b_MO_name 4 (some (.int))) [vR 80, vI (xs 1), vI (xs 2), vI (xs 3)] G (fun o G2 => o = .returned (some (vI (-1))) ∧ ab_fr [80] G G2 ∧ G2.length = 149 ∧ ab_slots G2 = 1890753 ∧ G2[80]? = some (ab_ob 12 (m_fv (vI 0) (vI 0) (vI 0) (vI 0) (vI 0) (vI 0) (vI 0) (vI 0) (vI 0) (vI 0) (vI 0) (vI 0) (vI (-1)) (vI 0) (vI 0) (vI 0) (vI 0) (vI 0) (vI 0) (vI 0) (vI 0) (vI 0) (vI 0) (vI 0) (vI 0) (vI 0) (vI 0) (vI 0) (vI 0) (vI 0) (vI 0) (vI 0) (vI 0) (vI 0) (vI 0)))) := by
  refine ab_F_of (by decide +kernel) (Nat.le_of_ble_eq_true rfl) ?_
  obtain ⟨Q, hQ⟩ : ∃ z : Outcome → ab_G → Prop, z = (fun o G2 => o = .returned (some (vI (-1))) ∧ ab_fr [80] G G2 ∧ G2.length = 149 ∧ ab_slots G2 = 1890753 ∧ G2[80]? = some (ab_ob 12 (m_fv (vI 0) (vI 0) (vI 0) (vI 0) (vI 0) (vI 0) (vI 0) (vI 0) (vI 0) (vI 0) (vI 0) (vI 0) (vI (-1)) (vI 0) (vI 0) (vI 0) (vI 0) (vI 0) (vI 0) (vI 0) (vI 0) (vI 0) (vI 0) (vI 0) (vI 0) (vI 0) (vI 0) (vI 0) (vI 0) (vI 0) (vI 0) (vI 0) (vI 0) (vI 0) (vI 0)))) := ⟨_, rfl⟩
  rw [← hQ]
  change ab_W X (ab_pl y_MO_name b_MO_name 4 (some (.int))) d G 0 [some (vR 80), some (vI (xs 1)), some (vI (xs 2)), some (vI (xs 3))] [] Q
  have hfr : ab_fr [80] G G := ab_fr.rf
  refine ab_aload_n d_MO_name_0 rfl ?_
  refine ab_iconst (v := 0) d_MO_name_1 (by decide) ?_
  refine ab_putf (fs := (m_fv (vI 0) (vI 0) (vI 0) (vI 0) (vI 0) (vI 0) (vI 0) (vI 0) (vI 0) (vI 0) (vI 0) (vI 0) (vI (-1)) (vI 0) (vI 0) (vI 0) (vI 0) (vI 0) (vI 0) (vI 0) (vI 0) (vI 0) (vI 0) (vI 0) (vI 0) (vI 0) (vI 0) (vI 0) (vI 0) (vI 0) (vI 0) (vI 0) (vI 0) (vI 0) (vI 0))) f_MO_220 (Or.inl rfl) d_MO_name_2 h80 (Nat.le_of_ble_eq_true rfl) (fun _ => ⟨rfl, rfl⟩) (by decide) ?_
  obtain ⟨G1, eG1⟩ : ∃ z : ab_G, z = List.set G 80 (ab_ob 12 (m_fv (vI 0) (vI 0) (vI 0) (vI 0) (vI 0) (vI 0) (vI 0) (vI 0) (vI 0) (vI 0) (vI 0) (vI 0) (vI (-1)) (vI 0) (vI 0) (vI 0) (vI 0) (vI 0) (vI 0) (vI 0) (vI 0) (vI 0) (vI 0) (vI 0) (vI 0) (vI 0) (vI 0) (vI 0) (vI 0) (vI 0) (vI 0) (vI 0) (vI 0) (vI 0) (vI 0))) := ⟨_, rfl⟩
  have h112 := ab_keep eG1 (by decide) h112
  have hlen := ab_klen eG1 hlen
  have hsl := ab_ksl 102 eG1 h80 rfl rfl hsl
  have hfr := hfr.wr eG1 (by decide)
  have h80 := ab_kept eG1 h80
  change ab_W _ _ _ (List.set G 80 (ab_ob 12 (m_fv (vI 0) (vI 0) (vI 0) (vI 0) (vI 0) (vI 0) (vI 0) (vI 0) (vI 0) (vI 0) (vI 0) (vI 0) (vI (-1)) (vI 0) (vI 0) (vI 0) (vI 0) (vI 0) (vI 0) (vI 0) (vI 0) (vI 0) (vI 0) (vI 0) (vI 0) (vI 0) (vI 0) (vI 0) (vI 0) (vI 0) (vI 0) (vI 0) (vI 0) (vI 0) (vI 0)))) 5 [some (vR 80), some (vI (xs 1)), some (vI (xs 2)), some (vI (xs 3))] [] _
  rw [← eG1]
  refine ab_aload_n d_MO_name_5 rfl ?_
  refine ab_iload_n d_MO_name_6 rfl ?_
  refine ab_callV (d' := d - 1) (as := [vI (xs 1)]) (st := []) (r := _) (q_MO_isThere_0 (xs := xs) hlen hsl h80 h112) (fun o G2 h => ⟨_, h.1⟩) (by omega) m_MO_isThere ml_MO_507 im_MO_isThere se_MO_isThere c_MO h80 (Nat.le_of_ble_eq_true rfl) d_MO_name_7 rfl ?_
  intro v G2 hq
  obtain ⟨hv, hfk, hlen, hsl⟩ := hq
  cases hv
  have h80 := hfk.get (by decide) h80
  have h112 := hfk.get (by decide) h112
  have hfr := hfr.cl hfk (by decide)
  change ab_W _ _ _ G2 10 [some (vR 80), some (vI (xs 1)), some (vI (xs 2)), some (vI (xs 3))] [vI 0] _
  refine ab_if_eq (tgt := 43) d_MO_name_10 (by decide) (fun _ => ?_) (fun c => absurd c (by decide))
  refine ab_iconst (v := (-1)) d_MO_name_43 (by decide) ?_
  refine ab_goto (tgt := 63) d_MO_name_44 (by decide) ?_
  exact ab_iret (rt := .int) rfl rfl d_MO_name_63 (by rw [hQ]; exact ⟨rfl, hfr, hlen, hsl, h80⟩)
set_option maxRecDepth 100000 in
set_option maxHeartbeats 4000000 in
theorem lc_5 {X : ab_X} {d : Nat} {G : ab_G} {xs : Nat → Int32} (hlen : G.length = 149) (hsl : ab_slots G = 1890753) (h0 : G[0]? = some (ab_if 6 (xs))) (h18 : G[18]? = some (ab_ob 0 [vR 19, vR 20, vR 22, vR 30, vR 31, vR 36, vR 37, vR 46, vR 51, vR 60, vR 69, vR 70, vR 72, vR 74, vR 76, vR 78, vI 0, vI 0])) (h30 : G[30]? = some (.inl (3, 6, .inr (.inr (.inr (.inr (fun _ => none))))))) (h80 : G[80]? = some (ab_ob 12 (m_fv (vI 0) (vI 0) (vI 0) (vI 0) (vI 0) (vI 0) (vI 0) (vI 0) (vI 0) (vI 0) (vI 0) (vI 0) (vI (-1)) (vI 0) (vI 0) (vI 0) (vI 0) (vI 0) (vI 0) (vI 0) (vI 0) (vI 0) (vI 0) (vI 0) (vI 0) (vI 0) (vI 0) (vI 0) (vI 0) (vI 0) (vI 0) (vI 0) (vI 0) (vI 0) (vI 0)))) (h112 : G[112]? = some (ab_zf 6 ((fun _ => 0)))) (hd : 2 ≤ d) : ab_W X ab_LW d G 358 [some (vR 0), some (vR 18), some (vR 80), some (vR 148), some (vI 0), none, none] [] (fun o _ => o = .returned (some (vI 1))) := by
  obtain ⟨Q, hQ⟩ : ∃ z : Outcome → ab_G → Prop, z = (fun o _ => o = .returned (some (vI 1))) := ⟨_, rfl⟩
  rw [← hQ]
  have hfr : ab_fr [80] G G := ab_fr.rf
  refine ab_aload_n d_LA_law_358 rfl ?_
  refine ab_aload_n d_LA_law_359 rfl ?_
  refine ab_iload d_LA_law_360 rfl ?_
  refine ab_iconst (v := 1) d_LA_law_362 (by decide) ?_
  refine ab_iadd d_LA_law_363 ?_
  refine ab_topi (y := 1) (by decide) ?_
  refine ab_iald d_LA_law_364 h0 (by unfold vp_in; decide) ?_
  refine ab_topi (y := (xs 1)) rfl ?_
  refine ab_aload_n d_LA_law_365 rfl ?_
  refine ab_iload d_LA_law_366 rfl ?_
  refine ab_iconst (v := 2) d_LA_law_368 (by decide) ?_
  refine ab_iadd d_LA_law_369 ?_
  refine ab_topi (y := 2) (by decide) ?_
  refine ab_iald d_LA_law_370 h0 (by unfold vp_in; decide) ?_
  refine ab_topi (y := (xs 2)) rfl ?_
  refine ab_aload_n d_LA_law_371 rfl ?_
  refine ab_iload d_LA_law_372 rfl ?_
  refine ab_iconst (v := 3) d_LA_law_374 (by decide) ?_
  refine ab_iadd d_LA_law_375 ?_
  refine ab_topi (y := 3) (by decide) ?_
  refine ab_iald d_LA_law_376 h0 (by unfold vp_in; decide) ?_
  refine ab_topi (y := (xs 3)) rfl ?_
  refine ab_callV (d' := d - 1) (as := [vI (xs 1), vI (xs 2), vI (xs 3)]) (st := []) (r := _) (q_PW_name_0 (xs := xs) hlen hsl h18 h30 (by omega)) (fun o G2 h => ⟨_, h.1⟩) (by omega) m_PW_name ml_LA_64 im_PW_name se_PW_name c_PW h18 (Nat.le_of_ble_eq_true rfl) d_LA_law_377 rfl ?_
  intro v G1 hq
  obtain ⟨hv, hfk, hlen, hsl⟩ := hq
  cases hv
  have h0 := hfk.get (by decide) h0
  have h18 := hfk.get (by decide) h18
  have h30 := hfk.get (by decide) h30
  have h80 := hfk.get (by decide) h80
  have h112 := hfk.get (by decide) h112
  have hfr := hfr.cl hfk (by decide)
  change ab_W _ _ _ G1 380 [some (vR 0), some (vR 18), some (vR 80), some (vR 148), some (vI 0), none, none] [vI (-1)] _
  refine ab_aload_n d_LA_law_380 rfl ?_
  refine ab_aload_n d_LA_law_381 rfl ?_
  refine ab_iload d_LA_law_382 rfl ?_
  refine ab_iconst (v := 1) d_LA_law_384 (by decide) ?_
  refine ab_iadd d_LA_law_385 ?_
  refine ab_topi (y := 1) (by decide) ?_
  refine ab_iald d_LA_law_386 h0 (by unfold vp_in; decide) ?_
  refine ab_topi (y := (xs 1)) rfl ?_
  refine ab_aload_n d_LA_law_387 rfl ?_
  refine ab_iload d_LA_law_388 rfl ?_
  refine ab_iconst (v := 2) d_LA_law_390 (by decide) ?_
  refine ab_iadd d_LA_law_391 ?_
  refine ab_topi (y := 2) (by decide) ?_
  refine ab_iald d_LA_law_392 h0 (by unfold vp_in; decide) ?_
  refine ab_topi (y := (xs 2)) rfl ?_
  refine ab_aload_n d_LA_law_393 rfl ?_
  refine ab_iload d_LA_law_394 rfl ?_
  refine ab_iconst (v := 3) d_LA_law_396 (by decide) ?_
  refine ab_iadd d_LA_law_397 ?_
  refine ab_topi (y := 3) (by decide) ?_
  refine ab_iald d_LA_law_398 h0 (by unfold vp_in; decide) ?_
  refine ab_topi (y := (xs 3)) rfl ?_
  refine ab_callV (d' := d - 1) (as := [vI (xs 1), vI (xs 2), vI (xs 3)]) (st := [vI (-1)]) (r := _) (q_MO_name_0 (xs := xs) hlen hsl h80 h112 (by omega)) (fun o G2 h => ⟨_, h.1⟩) (by omega) m_MO_name ml_LA_68 im_MO_name se_MO_name c_MO h80 (Nat.le_of_ble_eq_true rfl) d_LA_law_399 rfl ?_
  intro v G2 hq
  obtain ⟨hv, hfk, hlen, hsl, h80⟩ := hq
  cases hv
  have h0 := hfk.get (by decide) h0
  have h18 := hfk.get (by decide) h18
  have h30 := hfk.get (by decide) h30
  have h112 := hfk.get (by decide) h112
  have hfr := hfr.cl hfk (by decide)
  change ab_W _ _ _ G2 402 [some (vR 0), some (vR 18), some (vR 80), some (vR 148), some (vI 0), none, none] [vI (-1), vI (-1)] _
  refine ab_icmp_eq (tgt := 931) d_LA_law_402 (by decide) (fun _ => ?_) (fun c => absurd c (by decide))
  refine ab_iinc (v := 6) d_LA_law_931 rfl (by decide) (Nat.le_of_ble_eq_true rfl) (Nat.le_of_ble_eq_true rfl) rfl ?_
  change ab_W _ _ _ G2 934 [some (vR 0), some (vR 18), some (vR 80), some (vR 148), some (vI 6), none, none] [] _
  refine ab_goto (tgt := 23) d_LA_law_934 (by decide) ?_
  refine ab_iload d_LA_law_23 rfl ?_
  refine ab_aload_n d_LA_law_25 rfl ?_
  refine ab_alen (v := 6) d_LA_law_26 h0 (by first | decide | rfl) ?_
  refine ab_bipush (v := 6) d_LA_law_27 (by decide) ?_
  refine ab_isub d_LA_law_29 ?_
  refine ab_topi (y := 0) (by decide) ?_
  refine ab_icmp_gt (tgt := 937) d_LA_law_30 (by decide) (fun _ => ?_) (fun c => absurd c (by decide))
  refine ab_iconst (v := 1) d_LA_law_937 (by decide) ?_
  exact ab_iret (rt := .boolean) rfl (by decide) d_LA_law_938 (by rw [hQ])
set_option maxRecDepth 100000 in
set_option maxHeartbeats 4000000 in
theorem q_PW_codeAt_0 {X : ab_X} {d : Nat} {G : ab_G}  (hlen : G.length = 149) (hsl : ab_slots G = 1890753) : ab_F X d y_PW_codeAt (.code y_PW_codeAt b_PW_codeAt 8 (some (.int))) [vR 32, vI 0, vI 0] G (fun o G2 => o = .returned (some (vI (-1))) ∧ ab_fr [] G G2 ∧ G2.length = 149 ∧ ab_slots G2 = 1890753) := by
  refine ab_F_of (by decide +kernel) (Nat.le_of_ble_eq_true rfl) ?_
  obtain ⟨Q, hQ⟩ : ∃ z : Outcome → ab_G → Prop, z = (fun o G2 => o = .returned (some (vI (-1))) ∧ ab_fr [] G G2 ∧ G2.length = 149 ∧ ab_slots G2 = 1890753) := ⟨_, rfl⟩
  rw [← hQ]
  change ab_W X (ab_pl y_PW_codeAt b_PW_codeAt 8 (some (.int))) d G 0 [some (vR 32), some (vI 0), some (vI 0), none, none, none, none, none] [] Q
  have hfr : ab_fr [] G G := ab_fr.rf
  refine ab_iload_n d_PW_codeAt_0 rfl ?_
  refine ab_if_lt (tgt := 15) d_PW_codeAt_1 (by decide) (fun c => absurd c (by decide)) (fun _ => ?_)
  refine ab_iload_n d_PW_codeAt_4 rfl ?_
  refine ab_iload_n d_PW_codeAt_5 rfl ?_
  refine ab_icmp_ge (tgt := 15) d_PW_codeAt_6 (by decide) (fun _ => ?_) (fun c => absurd c (by decide))
  refine ab_iconst (v := (-1)) d_PW_codeAt_15 (by decide) ?_
  exact ab_iret (rt := .int) rfl rfl d_PW_codeAt_16 (by rw [hQ]; exact ⟨rfl, hfr, hlen, hsl⟩)
set_option maxRecDepth 100000 in
set_option maxHeartbeats 4000000 in
theorem q_SU_isWordByte_0 {X : ab_X} {d : Nat} {G : ab_G}  (hlen : G.length = 149) (hsl : ab_slots G = 1890753) : ab_F X d y_SU_isWordByte (.code y_SU_isWordByte b_SU_isWordByte 2 (some (.boolean))) [vR 31, vI (-1)] G (fun o G2 => o = .returned (some (vI 0)) ∧ ab_fr [] G G2 ∧ G2.length = 149 ∧ ab_slots G2 = 1890753) := by
  refine ab_F_of (by decide +kernel) (Nat.le_of_ble_eq_true rfl) ?_
  obtain ⟨Q, hQ⟩ : ∃ z : Outcome → ab_G → Prop, z = (fun o G2 => o = .returned (some (vI 0)) ∧ ab_fr [] G G2 ∧ G2.length = 149 ∧ ab_slots G2 = 1890753) := ⟨_, rfl⟩
  rw [← hQ]
  change ab_W X (ab_pl y_SU_isWordByte b_SU_isWordByte 2 (some (.boolean))) d G 0 [some (vR 31), some (vI (-1))] [] Q
  have hfr : ab_fr [] G G := ab_fr.rf
  refine ab_iload_n d_SU_isWordByte_0 rfl ?_
  refine ab_if_lt (tgt := 28) d_SU_isWordByte_1 (by decide) (fun _ => ?_) (fun c => absurd c (by decide))
  refine ab_iconst (v := 0) d_SU_isWordByte_28 (by decide) ?_
  exact ab_iret (rt := .boolean) rfl (by decide) d_SU_isWordByte_29 (by rw [hQ]; exact ⟨rfl, hfr, hlen, hsl⟩)
set_option maxRecDepth 100000 in
set_option maxHeartbeats 4000000 in
theorem q_SU_isWordByte_1 {X : ab_X} {d : Nat} {G : ab_G}  (hlen : G.length = 149) (hsl : ab_slots G = 1890753) (h31 : G[31]? = some (ab_ob 9 [vR 32, vR 33, vR 34, vR 35, vI 0])) : ab_F X d y_SU_isWordByte (.code y_SU_isWordByte b_SU_isWordByte 2 (some (.boolean))) [vR 31, vI 0] G (fun o G2 => o = .returned (some (vI 0)) ∧ ab_fr [] G G2 ∧ G2.length = 149 ∧ ab_slots G2 = 1890753) := by
  refine ab_F_of (by decide +kernel) (Nat.le_of_ble_eq_true rfl) ?_
  obtain ⟨Q, hQ⟩ : ∃ z : Outcome → ab_G → Prop, z = (fun o G2 => o = .returned (some (vI 0)) ∧ ab_fr [] G G2 ∧ G2.length = 149 ∧ ab_slots G2 = 1890753) := ⟨_, rfl⟩
  rw [← hQ]
  change ab_W X (ab_pl y_SU_isWordByte b_SU_isWordByte 2 (some (.boolean))) d G 0 [some (vR 31), some (vI 0)] [] Q
  have hfr : ab_fr [] G G := ab_fr.rf
  refine ab_iload_n d_SU_isWordByte_0 rfl ?_
  refine ab_if_lt (tgt := 28) d_SU_isWordByte_1 (by decide) (fun c => absurd c (by decide)) (fun _ => ?_)
  refine ab_iload_n d_SU_isWordByte_4 rfl ?_
  refine ab_aload_n d_SU_isWordByte_5 rfl ?_
  refine ab_getf (fs := [vR 32, vR 33, vR 34, vR 35, vI 0]) f_SU_34 d_SU_isWordByte_6 h31 rfl ?_
  refine ab_icmp_ge (tgt := 28) d_SU_isWordByte_9 (by decide) (fun _ => ?_) (fun c => absurd c (by decide))
  refine ab_iconst (v := 0) d_SU_isWordByte_28 (by decide) ?_
  exact ab_iret (rt := .boolean) rfl (by decide) d_SU_isWordByte_29 (by rw [hQ]; exact ⟨rfl, hfr, hlen, hsl⟩)
set_option maxRecDepth 100000 in
set_option maxHeartbeats 4000000 in
theorem q_SU_holdingAt_0 {X : ab_X} {d : Nat} {G : ab_G}  (hlen : G.length = 149) (hsl : ab_slots G = 1890753) (h31 : G[31]? = some (ab_ob 9 [vR 32, vR 33, vR 34, vR 35, vI 0])) (hd : 1 ≤ d) : ab_F X d y_SU_holdingAt (.code y_SU_holdingAt b_SU_holdingAt 3 (some (.int))) [vR 31, vI 0] G (fun o G2 => o = .returned (some (vI 47)) ∧ ab_fr [] G G2 ∧ G2.length = 149 ∧ ab_slots G2 = 1890753) := by
  refine ab_F_of (by decide +kernel) (Nat.le_of_ble_eq_true rfl) ?_
  obtain ⟨Q, hQ⟩ : ∃ z : Outcome → ab_G → Prop, z = (fun o G2 => o = .returned (some (vI 47)) ∧ ab_fr [] G G2 ∧ G2.length = 149 ∧ ab_slots G2 = 1890753) := ⟨_, rfl⟩
  rw [← hQ]
  change ab_W X (ab_pl y_SU_holdingAt b_SU_holdingAt 3 (some (.int))) d G 0 [some (vR 31), some (vI 0), none] [] Q
  have hfr : ab_fr [] G G := ab_fr.rf
  refine ab_aload_n d_SU_holdingAt_0 rfl ?_
  refine ab_iload_n d_SU_holdingAt_1 rfl ?_
  refine ab_iconst (v := 1) d_SU_holdingAt_2 (by decide) ?_
  refine ab_isub d_SU_holdingAt_3 ?_
  refine ab_topi (y := (-1)) (by decide) ?_
  refine ab_callV (d' := d - 1) (as := [vI (-1)]) (st := []) (r := _) (q_SU_isWordByte_0  hlen hsl) (fun o G2 h => ⟨_, h.1⟩) (by omega) m_SU_isWordByte ml_SU_66 im_SU_isWordByte se_SU_isWordByte c_SU h31 (Nat.le_of_ble_eq_true rfl) d_SU_holdingAt_4 rfl ?_
  intro v G1 hq
  obtain ⟨hv, hfk, hlen, hsl⟩ := hq
  cases hv
  have h31 := hfk.get (by decide) h31
  have hfr := hfr.cl hfk (by decide)
  change ab_W _ _ _ G1 7 [some (vR 31), some (vI 0), none] [vI 0] _
  refine ab_aload_n d_SU_holdingAt_7 rfl ?_
  refine ab_iload_n d_SU_holdingAt_8 rfl ?_
  refine ab_callV (d' := d - 1) (as := [vI 0]) (st := [vI 0]) (r := _) (q_SU_isWordByte_1  hlen hsl h31) (fun o G2 h => ⟨_, h.1⟩) (by omega) m_SU_isWordByte ml_SU_66 im_SU_isWordByte se_SU_isWordByte c_SU h31 (Nat.le_of_ble_eq_true rfl) d_SU_holdingAt_9 rfl ?_
  intro v G2 hq
  obtain ⟨hv, hfk, hlen, hsl⟩ := hq
  cases hv
  have h31 := hfk.get (by decide) h31
  have hfr := hfr.cl hfk (by decide)
  change ab_W _ _ _ G2 12 [some (vR 31), some (vI 0), none] [vI 0, vI 0] _
  refine ab_icmp_eq (tgt := 20) d_SU_holdingAt_12 (by decide) (fun _ => ?_) (fun c => absurd c (by decide))
  refine ab_bipush (v := 32) d_SU_holdingAt_20 (by decide) ?_
  refine ab_istore_n d_SU_holdingAt_22 (Nat.le_of_ble_eq_true rfl) (Nat.le_of_ble_eq_true rfl) rfl ?_
  change ab_W _ _ _ G2 23 [some (vR 31), some (vI 0), some (vI 32)] [] _
  refine ab_iload_n d_SU_holdingAt_23 rfl ?_
  refine ab_iload_n d_SU_holdingAt_24 rfl ?_
  refine ab_if_ne (tgt := 32) d_SU_holdingAt_25 (by decide) (fun c => absurd c (by decide)) (fun _ => ?_)
  refine ab_iconst (v := 1) d_SU_holdingAt_28 (by decide) ?_
  refine ab_goto (tgt := 33) d_SU_holdingAt_29 (by decide) ?_
  refine ab_ior d_SU_holdingAt_33 ?_
  refine ab_topi (y := 33) (by decide) ?_
  refine ab_istore_n d_SU_holdingAt_34 (Nat.le_of_ble_eq_true rfl) (Nat.le_of_ble_eq_true rfl) rfl ?_
  change ab_W _ _ _ G2 35 [some (vR 31), some (vI 0), some (vI 33)] [] _
  refine ab_iload_n d_SU_holdingAt_35 rfl ?_
  refine ab_iload_n d_SU_holdingAt_36 rfl ?_
  refine ab_aload_n d_SU_holdingAt_37 rfl ?_
  refine ab_getf (fs := [vR 32, vR 33, vR 34, vR 35, vI 0]) f_SU_34 d_SU_holdingAt_38 h31 rfl ?_
  refine ab_icmp_ne (tgt := 48) d_SU_holdingAt_41 (by decide) (fun c => absurd c (by decide)) (fun _ => ?_)
  refine ab_iconst (v := 2) d_SU_holdingAt_44 (by decide) ?_
  refine ab_goto (tgt := 49) d_SU_holdingAt_45 (by decide) ?_
  refine ab_ior d_SU_holdingAt_49 ?_
  refine ab_topi (y := 35) (by decide) ?_
  refine ab_istore_n d_SU_holdingAt_50 (Nat.le_of_ble_eq_true rfl) (Nat.le_of_ble_eq_true rfl) rfl ?_
  change ab_W _ _ _ G2 51 [some (vR 31), some (vI 0), some (vI 35)] [] _
  refine ab_iload_n d_SU_holdingAt_51 rfl ?_
  refine ab_iload_n d_SU_holdingAt_52 rfl ?_
  refine ab_if_eq (tgt := 66) d_SU_holdingAt_53 (by decide) (fun _ => ?_) (fun c => absurd c (by decide))
  refine ab_iconst (v := 4) d_SU_holdingAt_66 (by decide) ?_
  refine ab_goto (tgt := 71) d_SU_holdingAt_67 (by decide) ?_
  refine ab_ior d_SU_holdingAt_71 ?_
  refine ab_topi (y := 39) (by decide) ?_
  refine ab_istore_n d_SU_holdingAt_72 (Nat.le_of_ble_eq_true rfl) (Nat.le_of_ble_eq_true rfl) rfl ?_
  change ab_W _ _ _ G2 73 [some (vR 31), some (vI 0), some (vI 39)] [] _
  refine ab_iload_n d_SU_holdingAt_73 rfl ?_
  refine ab_iload_n d_SU_holdingAt_74 rfl ?_
  refine ab_aload_n d_SU_holdingAt_75 rfl ?_
  refine ab_getf (fs := [vR 32, vR 33, vR 34, vR 35, vI 0]) f_SU_34 d_SU_holdingAt_76 h31 rfl ?_
  refine ab_icmp_eq (tgt := 90) d_SU_holdingAt_79 (by decide) (fun _ => ?_) (fun c => absurd c (by decide))
  refine ab_bipush (v := 8) d_SU_holdingAt_90 (by decide) ?_
  refine ab_goto (tgt := 96) d_SU_holdingAt_92 (by decide) ?_
  refine ab_ior d_SU_holdingAt_96 ?_
  refine ab_topi (y := 47) (by decide) ?_
  refine ab_istore_n d_SU_holdingAt_97 (Nat.le_of_ble_eq_true rfl) (Nat.le_of_ble_eq_true rfl) rfl ?_
  change ab_W _ _ _ G2 98 [some (vR 31), some (vI 0), some (vI 47)] [] _
  refine ab_iload_n d_SU_holdingAt_98 rfl ?_
  exact ab_iret (rt := .int) rfl rfl d_SU_holdingAt_99 (by rw [hQ]; exact ⟨rfl, hfr, hlen, hsl⟩)
set_option maxRecDepth 100000 in
set_option maxHeartbeats 4000000 in
theorem q_SU_take_0 {X : ab_X} {d : Nat} {G : ab_G}  (hlen : G.length = 149) (hsl : ab_slots G = 1890753) (h20 : G[20]? = some (ab_ob 7 [vI 2000, vR 21, vI 0])) (h21 : G[21]? = some (ab_if 32 ((fun _ => 0)))) (h31 : G[31]? = some (ab_ob 9 [vR 32, vR 33, vR 34, vR 35, vI 0])) (h32 : G[32]? = some (ab_if 32 ((fun _ => 0)))) (h33 : G[33]? = some (ab_if 33 ((upd (fun _ => 0) 0 (-1))))) (h34 : G[34]? = some (ab_if 33 ((fun _ => 0)))) (h35 : G[35]? = some (ab_if 33 ((upd (fun _ => 0) 0 47)))) (hd : 2 ≤ d) : ab_F X d y_SU_take (.code y_SU_take b_SU_take 4 none) [vR 31, vR 20] G (fun o G2 => o = .returned none ∧ ab_fr [31, 32, 33, 34, 35] G G2 ∧ G2.length = 149 ∧ ab_slots G2 = 1890753 ∧ G2[31]? = some (ab_ob 9 [vR 32, vR 33, vR 34, vR 35, vI 0]) ∧ G2[32]? = some (ab_if 32 ((va_cpy (fun _ => 0) (fun _ => 0) (Int32.toNatClampNeg 0) (Int32.toNatClampNeg 0) (Int32.toNatClampNeg 0)))) ∧ G2[33]? = some (ab_if 33 ((upd (upd (fun _ => 0) 0 (-1)) 0 (-1)))) ∧ G2[34]? = some (ab_if 33 ((upd (fun _ => 0) 0 0))) ∧ G2[35]? = some (ab_if 33 ((upd (upd (fun _ => 0) 0 47) 0 47)))) := by
  refine ab_F_of (by decide +kernel) (Nat.le_of_ble_eq_true rfl) ?_
  obtain ⟨Q, hQ⟩ : ∃ z : Outcome → ab_G → Prop, z = (fun o G2 => o = .returned none ∧ ab_fr [31, 32, 33, 34, 35] G G2 ∧ G2.length = 149 ∧ ab_slots G2 = 1890753 ∧ G2[31]? = some (ab_ob 9 [vR 32, vR 33, vR 34, vR 35, vI 0]) ∧ G2[32]? = some (ab_if 32 ((va_cpy (fun _ => 0) (fun _ => 0) (Int32.toNatClampNeg 0) (Int32.toNatClampNeg 0) (Int32.toNatClampNeg 0)))) ∧ G2[33]? = some (ab_if 33 ((upd (upd (fun _ => 0) 0 (-1)) 0 (-1)))) ∧ G2[34]? = some (ab_if 33 ((upd (fun _ => 0) 0 0))) ∧ G2[35]? = some (ab_if 33 ((upd (upd (fun _ => 0) 0 47) 0 47)))) := ⟨_, rfl⟩
  rw [← hQ]
  change ab_W X (ab_pl y_SU_take b_SU_take 4 none) d G 0 [some (vR 31), some (vR 20), none, none] [] Q
  have hfr : ab_fr [31, 32, 33, 34, 35] G G := ab_fr.rf
  refine ab_aload_n d_SU_take_0 rfl ?_
  refine ab_aload_n d_SU_take_1 rfl ?_
  refine ab_getf (fs := [vI 2000, vR 21, vI 0]) f_SU_28 d_SU_take_2 h20 rfl ?_
  refine ab_putf (fs := [vR 32, vR 33, vR 34, vR 35, vI 0]) f_SU_34 (Or.inl rfl) d_SU_take_5 h31 (Nat.le_of_ble_eq_true rfl) (fun _ => ⟨rfl, rfl⟩) (by decide) ?_
  obtain ⟨G1, eG1⟩ : ∃ z : ab_G, z = List.set G 31 (ab_ob 9 [vR 32, vR 33, vR 34, vR 35, vI 0]) := ⟨_, rfl⟩
  have h20 := ab_keep eG1 (by decide) h20
  have h21 := ab_keep eG1 (by decide) h21
  have h32 := ab_keep eG1 (by decide) h32
  have h33 := ab_keep eG1 (by decide) h33
  have h34 := ab_keep eG1 (by decide) h34
  have h35 := ab_keep eG1 (by decide) h35
  have hlen := ab_klen eG1 hlen
  have hsl := ab_ksl 5 eG1 h31 rfl rfl hsl
  have hfr := hfr.wr eG1 (by decide)
  have h31 := ab_kept eG1 h31
  change ab_W _ _ _ (List.set G 31 (ab_ob 9 [vR 32, vR 33, vR 34, vR 35, vI 0])) 8 [some (vR 31), some (vR 20), none, none] [] _
  rw [← eG1]
  refine ab_aload_n d_SU_take_8 rfl ?_
  refine ab_getf (fs := [vR 32, vR 33, vR 34, vR 35, vI 0]) f_SU_34 d_SU_take_9 h31 rfl ?_
  refine ab_aload_n d_SU_take_12 rfl ?_
  refine ab_getf (fs := [vR 32, vR 33, vR 34, vR 35, vI 0]) f_SU_9 d_SU_take_13 h31 rfl ?_
  refine ab_alen (v := 32) d_SU_take_16 h32 (by first | decide | rfl) ?_
  refine ab_icmp_le (tgt := 75) d_SU_take_17 (by decide) (fun _ => ?_) (fun c => absurd c (by decide))
  refine ab_aload_n d_SU_take_75 rfl ?_
  refine ab_getf (fs := [vI 2000, vR 21, vI 0]) f_SU_46 d_SU_take_76 h20 rfl ?_
  refine ab_iconst (v := 0) d_SU_take_79 (by decide) ?_
  refine ab_aload_n d_SU_take_80 rfl ?_
  refine ab_getf (fs := [vR 32, vR 33, vR 34, vR 35, vI 0]) f_SU_9 d_SU_take_81 h31 rfl ?_
  refine ab_iconst (v := 0) d_SU_take_84 (by decide) ?_
  refine ab_aload_n d_SU_take_85 rfl ?_
  refine ab_getf (fs := [vR 32, vR 33, vR 34, vR 35, vI 0]) f_SU_34 d_SU_take_86 h31 rfl ?_
  refine ab_copy mj_SU_49 cp_nat cp_st ini_SY d_SU_take_89 h21 h32 (by decide) (by decide) (by decide) (by decide) (by decide) (by decide) (Nat.le_of_ble_eq_true rfl) (by omega) ?_
  obtain ⟨G2, eG2⟩ : ∃ z : ab_G, z = List.set G1 32 (ab_if 32 ((va_cpy (fun _ => 0) (fun _ => 0) (Int32.toNatClampNeg 0) (Int32.toNatClampNeg 0) (Int32.toNatClampNeg 0)))) := ⟨_, rfl⟩
  have h20 := ab_keep eG2 (by decide) h20
  have h21 := ab_keep eG2 (by decide) h21
  have h31 := ab_keep eG2 (by decide) h31
  have h33 := ab_keep eG2 (by decide) h33
  have h34 := ab_keep eG2 (by decide) h34
  have h35 := ab_keep eG2 (by decide) h35
  have hlen := ab_klen eG2 hlen
  have hsl := ab_ksl 32 eG2 h32 rfl rfl hsl
  have hfr := hfr.wr eG2 (by decide)
  have h32 := ab_kept eG2 h32
  change ab_W _ _ _ (List.set G1 32 (ab_if 32 ((va_cpy (fun _ => 0) (fun _ => 0) (Int32.toNatClampNeg 0) (Int32.toNatClampNeg 0) (Int32.toNatClampNeg 0))))) 92 [some (vR 31), some (vR 20), none, none] [] _
  rw [← eG2]
  refine ab_iconst (v := 0) d_SU_take_92 (by decide) ?_
  refine ab_istore_n d_SU_take_93 (Nat.le_of_ble_eq_true rfl) (Nat.le_of_ble_eq_true rfl) rfl ?_
  change ab_W _ _ _ G2 94 [some (vR 31), some (vR 20), some (vI 0), none] [] _
  refine ab_iconst (v := 0) d_SU_take_94 (by decide) ?_
  refine ab_istore_n d_SU_take_95 (Nat.le_of_ble_eq_true rfl) (Nat.le_of_ble_eq_true rfl) rfl ?_
  change ab_W _ _ _ G2 96 [some (vR 31), some (vR 20), some (vI 0), some (vI 0)] [] _
  refine ab_iload_n d_SU_take_96 rfl ?_
  refine ab_aload_n d_SU_take_97 rfl ?_
  refine ab_getf (fs := [vR 32, vR 33, vR 34, vR 35, vI 0]) f_SU_34 d_SU_take_98 h31 rfl ?_
  refine ab_icmp_gt (tgt := 176) d_SU_take_101 (by decide) (fun c => absurd c (by decide)) (fun _ => ?_)
  refine ab_aload_n d_SU_take_104 rfl ?_
  refine ab_getf (fs := [vR 32, vR 33, vR 34, vR 35, vI 0]) f_SU_15 d_SU_take_105 h31 rfl ?_
  refine ab_iload_n d_SU_take_108 rfl ?_
  refine ab_aload_n d_SU_take_109 rfl ?_
  refine ab_getf (fs := [vR 32, vR 33, vR 34, vR 35, vI 0]) f_SU_9 d_SU_take_110 h31 rfl ?_
  refine ab_iload_n d_SU_take_113 rfl ?_
  refine ab_aload_n d_SU_take_114 rfl ?_
  refine ab_getf (fs := [vR 32, vR 33, vR 34, vR 35, vI 0]) f_SU_34 d_SU_take_115 h31 rfl ?_
  refine ab_callS (d' := d - 1) (as := [vR 32, vI 0, vI 0]) (st := [vI 0, vR 33]) (q_PW_codeAt_0  hlen hsl) (fun o G2 h => ⟨_, h.1⟩) (by omega) m_PW_codeAt ml_SU_55 st_PW_codeAt (Nat.le_of_ble_eq_true rfl) d_SU_take_118 rfl ?_
  intro v G3 hq
  obtain ⟨hv, hfk, hlen, hsl⟩ := hq
  cases hv
  have h20 := hfk.get (by decide) h20
  have h21 := hfk.get (by decide) h21
  have h31 := hfk.get (by decide) h31
  have h32 := hfk.get (by decide) h32
  have h33 := hfk.get (by decide) h33
  have h34 := hfk.get (by decide) h34
  have h35 := hfk.get (by decide) h35
  have hfr := hfr.cl hfk (by decide)
  change ab_W _ _ _ G3 121 [some (vR 31), some (vR 20), some (vI 0), some (vI 0)] [vI (-1), vI 0, vR 33] _
  refine ab_iast d_SU_take_121 h33 (by unfold vp_in; decide) (by decide) ?_
  obtain ⟨G4, eG4⟩ : ∃ z : ab_G, z = List.set G3 33 (ab_if 33 ((upd (upd (fun _ => 0) 0 (-1)) 0 (-1)))) := ⟨_, rfl⟩
  have h20 := ab_keep eG4 (by decide) h20
  have h21 := ab_keep eG4 (by decide) h21
  have h31 := ab_keep eG4 (by decide) h31
  have h32 := ab_keep eG4 (by decide) h32
  have h34 := ab_keep eG4 (by decide) h34
  have h35 := ab_keep eG4 (by decide) h35
  have hlen := ab_klen eG4 hlen
  have hsl := ab_ksl 33 eG4 h33 rfl rfl hsl
  have hfr := hfr.wr eG4 (by decide)
  have h33 := ab_kept eG4 h33
  change ab_W _ _ _ (List.set G3 33 (ab_if 33 ((upd (upd (fun _ => 0) 0 (-1)) 0 (-1))))) 122 [some (vR 31), some (vR 20), some (vI 0), some (vI 0)] [] _
  rw [← eG4]
  refine ab_aload_n d_SU_take_122 rfl ?_
  refine ab_getf (fs := [vR 32, vR 33, vR 34, vR 35, vI 0]) f_SU_15 d_SU_take_123 h31 rfl ?_
  refine ab_iload_n d_SU_take_126 rfl ?_
  refine ab_iald d_SU_take_127 h33 (by unfold vp_in; decide) ?_
  refine ab_topi (y := (-1)) rfl ?_
  refine ab_iconst (v := (-1)) d_SU_take_128 (by decide) ?_
  refine ab_icmp_ne (tgt := 142) d_SU_take_129 (by decide) (fun c => absurd c (by decide)) (fun _ => ?_)
  refine ab_iload_n d_SU_take_132 rfl ?_
  refine ab_iconst (v := 1) d_SU_take_133 (by decide) ?_
  refine ab_isub d_SU_take_134 ?_
  refine ab_topi (y := (-1)) (by decide) ?_
  refine ab_iconst (v := 0) d_SU_take_135 (by decide) ?_
  refine ab_mmax mj_SU_43 mm_max_st ini_MA mm_max_cd d_SU_take_136 (Nat.le_of_ble_eq_true rfl) (by omega) ?_
  refine ab_topi (y := 0) (by decide) ?_
  refine ab_goto (tgt := 151) d_SU_take_139 (by decide) ?_
  refine ab_istore_n d_SU_take_151 (Nat.le_of_ble_eq_true rfl) (Nat.le_of_ble_eq_true rfl) rfl ?_
  change ab_W _ _ _ G4 152 [some (vR 31), some (vR 20), some (vI 0), some (vI 0)] [] _
  refine ab_aload_n d_SU_take_152 rfl ?_
  refine ab_getf (fs := [vR 32, vR 33, vR 34, vR 35, vI 0]) f_SU_18 d_SU_take_153 h31 rfl ?_
  refine ab_iload_n d_SU_take_156 rfl ?_
  refine ab_iload_n d_SU_take_157 rfl ?_
  refine ab_iast d_SU_take_158 h34 (by unfold vp_in; decide) (by decide) ?_
  obtain ⟨G5, eG5⟩ : ∃ z : ab_G, z = List.set G4 34 (ab_if 33 ((upd (fun _ => 0) 0 0))) := ⟨_, rfl⟩
  have h20 := ab_keep eG5 (by decide) h20
  have h21 := ab_keep eG5 (by decide) h21
  have h31 := ab_keep eG5 (by decide) h31
  have h32 := ab_keep eG5 (by decide) h32
  have h33 := ab_keep eG5 (by decide) h33
  have h35 := ab_keep eG5 (by decide) h35
  have hlen := ab_klen eG5 hlen
  have hsl := ab_ksl 33 eG5 h34 rfl rfl hsl
  have hfr := hfr.wr eG5 (by decide)
  have h34 := ab_kept eG5 h34
  change ab_W _ _ _ (List.set G4 34 (ab_if 33 ((upd (fun _ => 0) 0 0)))) 159 [some (vR 31), some (vR 20), some (vI 0), some (vI 0)] [] _
  rw [← eG5]
  refine ab_aload_n d_SU_take_159 rfl ?_
  refine ab_getf (fs := [vR 32, vR 33, vR 34, vR 35, vI 0]) f_SU_21 d_SU_take_160 h31 rfl ?_
  refine ab_iload_n d_SU_take_163 rfl ?_
  refine ab_aload_n d_SU_take_164 rfl ?_
  refine ab_iload_n d_SU_take_165 rfl ?_
  refine ab_callV (d' := d - 1) (as := [vI 0]) (st := [vI 0, vR 35]) (r := _) (q_SU_holdingAt_0  hlen hsl h31 (by omega)) (fun o G2 h => ⟨_, h.1⟩) (by omega) m_SU_holdingAt ml_SU_24 im_SU_holdingAt se_SU_holdingAt c_SU h31 (Nat.le_of_ble_eq_true rfl) d_SU_take_166 rfl ?_
  intro v G6 hq
  obtain ⟨hv, hfk, hlen, hsl⟩ := hq
  cases hv
  have h20 := hfk.get (by decide) h20
  have h21 := hfk.get (by decide) h21
  have h31 := hfk.get (by decide) h31
  have h32 := hfk.get (by decide) h32
  have h33 := hfk.get (by decide) h33
  have h34 := hfk.get (by decide) h34
  have h35 := hfk.get (by decide) h35
  have hfr := hfr.cl hfk (by decide)
  change ab_W _ _ _ G6 169 [some (vR 31), some (vR 20), some (vI 0), some (vI 0)] [vI 47, vI 0, vR 35] _
  refine ab_iast d_SU_take_169 h35 (by unfold vp_in; decide) (by decide) ?_
  obtain ⟨G7, eG7⟩ : ∃ z : ab_G, z = List.set G6 35 (ab_if 33 ((upd (upd (fun _ => 0) 0 47) 0 47))) := ⟨_, rfl⟩
  have h20 := ab_keep eG7 (by decide) h20
  have h21 := ab_keep eG7 (by decide) h21
  have h31 := ab_keep eG7 (by decide) h31
  have h32 := ab_keep eG7 (by decide) h32
  have h33 := ab_keep eG7 (by decide) h33
  have h34 := ab_keep eG7 (by decide) h34
  have hlen := ab_klen eG7 hlen
  have hsl := ab_ksl 33 eG7 h35 rfl rfl hsl
  have hfr := hfr.wr eG7 (by decide)
  have h35 := ab_kept eG7 h35
  change ab_W _ _ _ (List.set G6 35 (ab_if 33 ((upd (upd (fun _ => 0) 0 47) 0 47)))) 170 [some (vR 31), some (vR 20), some (vI 0), some (vI 0)] [] _
  rw [← eG7]
  refine ab_iinc (v := 1) d_SU_take_170 rfl (by decide) (Nat.le_of_ble_eq_true rfl) (Nat.le_of_ble_eq_true rfl) rfl ?_
  change ab_W _ _ _ G7 173 [some (vR 31), some (vR 20), some (vI 0), some (vI 1)] [] _
  refine ab_goto (tgt := 96) d_SU_take_173 (by decide) ?_
  refine ab_iload_n d_SU_take_96 rfl ?_
  refine ab_aload_n d_SU_take_97 rfl ?_
  refine ab_getf (fs := [vR 32, vR 33, vR 34, vR 35, vI 0]) f_SU_34 d_SU_take_98 h31 rfl ?_
  refine ab_icmp_gt (tgt := 176) d_SU_take_101 (by decide) (fun _ => ?_) (fun c => absurd c (by decide))
  exact ab_vret rfl d_SU_take_176 (by rw [hQ]; exact ⟨rfl, hfr, hlen, hsl, h31, h32, h33, h34, h35⟩)
set_option maxRecDepth 100000 in
set_option maxHeartbeats 4000000 in
theorem q_RW_clear_1 {X : ab_X} {d : Nat} {G : ab_G}  (hlen : G.length = 149) (hsl : ab_slots G = 1890753) (h20 : G[20]? = some (ab_ob 7 [vI 2000, vR 21, vI 0])) : ab_F X d y_RW_clear (.code y_RW_clear b_RW_clear 1 none) [vR 20] G (fun o G2 => o = .returned none ∧ ab_fr [20] G G2 ∧ G2.length = 149 ∧ ab_slots G2 = 1890753 ∧ G2[20]? = some (ab_ob 7 [vI 2000, vR 21, vI 0])) := by
  refine ab_F_of (by decide +kernel) (Nat.le_of_ble_eq_true rfl) ?_
  obtain ⟨Q, hQ⟩ : ∃ z : Outcome → ab_G → Prop, z = (fun o G2 => o = .returned none ∧ ab_fr [20] G G2 ∧ G2.length = 149 ∧ ab_slots G2 = 1890753 ∧ G2[20]? = some (ab_ob 7 [vI 2000, vR 21, vI 0])) := ⟨_, rfl⟩
  rw [← hQ]
  change ab_W X (ab_pl y_RW_clear b_RW_clear 1 none) d G 0 [some (vR 20)] [] Q
  have hfr : ab_fr [20] G G := ab_fr.rf
  refine ab_aload_n d_RW_clear_0 rfl ?_
  refine ab_iconst (v := 0) d_RW_clear_1 (by decide) ?_
  refine ab_putf (fs := [vI 2000, vR 21, vI 0]) f_RW_19 (Or.inl rfl) d_RW_clear_2 h20 (Nat.le_of_ble_eq_true rfl) (fun _ => ⟨rfl, rfl⟩) (by decide) ?_
  obtain ⟨G1, eG1⟩ : ∃ z : ab_G, z = List.set G 20 (ab_ob 7 [vI 2000, vR 21, vI 0]) := ⟨_, rfl⟩
  have hlen := ab_klen eG1 hlen
  have hsl := ab_ksl 3 eG1 h20 rfl rfl hsl
  have hfr := hfr.wr eG1 (by decide)
  have h20 := ab_kept eG1 h20
  change ab_W _ _ _ (List.set G 20 (ab_ob 7 [vI 2000, vR 21, vI 0])) 5 [some (vR 20)] [] _
  rw [← eG1]
  exact ab_vret rfl d_RW_clear_5 (by rw [hQ]; exact ⟨rfl, hfr, hlen, hsl, h20⟩)
set_option maxRecDepth 100000 in
set_option maxHeartbeats 4000000 in
theorem q_PW_subject_0 {X : ab_X} {d : Nat} {G : ab_G}  (hlen : G.length = 149) (hsl : ab_slots G = 1890753) (h18 : G[18]? = some (ab_ob 0 [vR 19, vR 20, vR 22, vR 30, vR 31, vR 36, vR 37, vR 46, vR 51, vR 60, vR 69, vR 70, vR 72, vR 74, vR 76, vR 78, vI 0, vI 0])) (h20 : G[20]? = some (ab_ob 7 [vI 2000, vR 21, vI 0])) (h21 : G[21]? = some (ab_if 32 ((fun _ => 0)))) (h31 : G[31]? = some (ab_ob 9 [vR 32, vR 33, vR 34, vR 35, vI 0])) (h32 : G[32]? = some (ab_if 32 ((fun _ => 0)))) (h33 : G[33]? = some (ab_if 33 ((upd (fun _ => 0) 0 (-1))))) (h34 : G[34]? = some (ab_if 33 ((fun _ => 0)))) (h35 : G[35]? = some (ab_if 33 ((upd (fun _ => 0) 0 47)))) (hd : 3 ≤ d) : ab_F X d y_PW_subject (.code y_PW_subject b_PW_subject 1 (some (.int))) [vR 18] G (fun o G2 => o = .returned (some (vI 0)) ∧ ab_fr [20, 31, 32, 33, 34, 35] G G2 ∧ G2.length = 149 ∧ ab_slots G2 = 1890753 ∧ G2[20]? = some (ab_ob 7 [vI 2000, vR 21, vI 0]) ∧ G2[31]? = some (ab_ob 9 [vR 32, vR 33, vR 34, vR 35, vI 0]) ∧ G2[32]? = some (ab_if 32 ((va_cpy (fun _ => 0) (fun _ => 0) (Int32.toNatClampNeg 0) (Int32.toNatClampNeg 0) (Int32.toNatClampNeg 0)))) ∧ G2[33]? = some (ab_if 33 ((upd (upd (fun _ => 0) 0 (-1)) 0 (-1)))) ∧ G2[34]? = some (ab_if 33 ((upd (fun _ => 0) 0 0))) ∧ G2[35]? = some (ab_if 33 ((upd (upd (fun _ => 0) 0 47) 0 47)))) := by
  refine ab_F_of (by decide +kernel) (Nat.le_of_ble_eq_true rfl) ?_
  obtain ⟨Q, hQ⟩ : ∃ z : Outcome → ab_G → Prop, z = (fun o G2 => o = .returned (some (vI 0)) ∧ ab_fr [20, 31, 32, 33, 34, 35] G G2 ∧ G2.length = 149 ∧ ab_slots G2 = 1890753 ∧ G2[20]? = some (ab_ob 7 [vI 2000, vR 21, vI 0]) ∧ G2[31]? = some (ab_ob 9 [vR 32, vR 33, vR 34, vR 35, vI 0]) ∧ G2[32]? = some (ab_if 32 ((va_cpy (fun _ => 0) (fun _ => 0) (Int32.toNatClampNeg 0) (Int32.toNatClampNeg 0) (Int32.toNatClampNeg 0)))) ∧ G2[33]? = some (ab_if 33 ((upd (upd (fun _ => 0) 0 (-1)) 0 (-1)))) ∧ G2[34]? = some (ab_if 33 ((upd (fun _ => 0) 0 0))) ∧ G2[35]? = some (ab_if 33 ((upd (upd (fun _ => 0) 0 47) 0 47)))) := ⟨_, rfl⟩
  rw [← hQ]
  change ab_W X (ab_pl y_PW_subject b_PW_subject 1 (some (.int))) d G 0 [some (vR 18)] [] Q
  have hfr : ab_fr [20, 31, 32, 33, 34, 35] G G := ab_fr.rf
  refine ab_aload_n d_PW_subject_0 rfl ?_
  refine ab_getf (fs := [vR 19, vR 20, vR 22, vR 30, vR 31, vR 36, vR 37, vR 46, vR 51, vR 60, vR 69, vR 70, vR 72, vR 74, vR 76, vR 78, vI 0, vI 0]) f_PW_38 d_PW_subject_1 h18 rfl ?_
  refine ab_aload_n d_PW_subject_4 rfl ?_
  refine ab_getf (fs := [vR 19, vR 20, vR 22, vR 30, vR 31, vR 36, vR 37, vR 46, vR 51, vR 60, vR 69, vR 70, vR 72, vR 74, vR 76, vR 78, vI 0, vI 0]) f_PW_18 d_PW_subject_5 h18 rfl ?_
  refine ab_callV (d' := d - 1) (as := [vR 20]) (st := []) (r := _) (q_SU_take_0  hlen hsl h20 h21 h31 h32 h33 h34 h35 (by omega)) (fun o G2 h => ⟨_, h.1⟩) (by omega) m_SU_take ml_PW_160 im_SU_take se_SU_take c_SU h31 (Nat.le_of_ble_eq_true rfl) d_PW_subject_8 rfl ?_
  intro v G1 hq
  obtain ⟨hv, hfk, hlen, hsl, h31, h32, h33, h34, h35⟩ := hq
  cases hv
  have h18 := hfk.get (by decide) h18
  have h20 := hfk.get (by decide) h20
  have h21 := hfk.get (by decide) h21
  have hfr := hfr.cl hfk (by decide)
  change ab_W _ _ _ G1 11 [some (vR 18)] [] _
  refine ab_aload_n d_PW_subject_11 rfl ?_
  refine ab_getf (fs := [vR 19, vR 20, vR 22, vR 30, vR 31, vR 36, vR 37, vR 46, vR 51, vR 60, vR 69, vR 70, vR 72, vR 74, vR 76, vR 78, vI 0, vI 0]) f_PW_18 d_PW_subject_12 h18 rfl ?_
  refine ab_callV (d' := d - 1) (as := []) (st := []) (r := _) (q_RW_clear_1  hlen hsl h20) (fun o G2 h => ⟨_, h.1⟩) (by omega) m_RW_clear ml_PW_120 im_RW_clear se_RW_clear c_RW h20 (Nat.le_of_ble_eq_true rfl) d_PW_subject_15 rfl ?_
  intro v G2 hq
  obtain ⟨hv, hfk, hlen, hsl, h20⟩ := hq
  cases hv
  have h18 := hfk.get (by decide) h18
  have h21 := hfk.get (by decide) h21
  have h31 := hfk.get (by decide) h31
  have h32 := hfk.get (by decide) h32
  have h33 := hfk.get (by decide) h33
  have h34 := hfk.get (by decide) h34
  have h35 := hfk.get (by decide) h35
  have hfr := hfr.cl hfk (by decide)
  change ab_W _ _ _ G2 18 [some (vR 18)] [] _
  refine ab_aload_n d_PW_subject_18 rfl ?_
  refine ab_getf (fs := [vR 19, vR 20, vR 22, vR 30, vR 31, vR 36, vR 37, vR 46, vR 51, vR 60, vR 69, vR 70, vR 72, vR 74, vR 76, vR 78, vI 0, vI 0]) f_PW_38 d_PW_subject_19 h18 rfl ?_
  refine ab_getf (fs := [vR 32, vR 33, vR 34, vR 35, vI 0]) f_PW_164 d_PW_subject_22 h31 rfl ?_
  exact ab_iret (rt := .int) rfl rfl d_PW_subject_25 (by rw [hQ]; exact ⟨rfl, hfr, hlen, hsl, h20, h31, h32, h33, h34, h35⟩)
set_option maxRecDepth 100000 in
set_option maxHeartbeats 4000000 in
theorem q_MO_subject_0 {X : ab_X} {d : Nat} {G : ab_G}  (hlen : G.length = 149) (hsl : ab_slots G = 1890753) (h80 : G[80]? = some (ab_ob 12 (m_fv (vI 0) (vI 0) (vI 0) (vI 0) (vI 0) (vI 0) (vI 0) (vI 0) (vI 0) (vI 0) (vI 0) (vI 0) (vI (-1)) (vI 0) (vI 0) (vI 0) (vI 0) (vI 0) (vI 0) (vI 0) (vI 0) (vI 0) (vI 0) (vI 0) (vI 0) (vI 0) (vI 0) (vI 0) (vI 0) (vI 0) (vI 0) (vI 0) (vI 0) (vI 0) (vI 0)))) : ab_F X d y_MO_subject (.code y_MO_subject b_MO_subject 2 (some (.int))) [vR 80] G (fun o G2 => o = .returned (some (vI 0)) ∧ ab_fr [80] G G2 ∧ G2.length = 149 ∧ ab_slots G2 = 1890753 ∧ G2[80]? = some (ab_ob 12 (m_fv (vI 0) (vI 0) (vI 0) (vI 0) (vI 0) (vI 0) (vI 0) (vI 0) (vI 0) (vI 0) (vI 0) (vI 0) (vI (-1)) (vI 0) (vI 0) (vI 0) (vI 0) (vI 0) (vI 0) (vI 0) (vI 0) (vI 0) (vI 0) (vI 0) (vI 0) (vI 0) (vI 0) (vI 0) (vI 0) (vI 0) (vI 0) (vI 0) (vI 0) (vI 0) (vI 0)))) := by
  refine ab_F_of (by decide +kernel) (Nat.le_of_ble_eq_true rfl) ?_
  obtain ⟨Q, hQ⟩ : ∃ z : Outcome → ab_G → Prop, z = (fun o G2 => o = .returned (some (vI 0)) ∧ ab_fr [80] G G2 ∧ G2.length = 149 ∧ ab_slots G2 = 1890753 ∧ G2[80]? = some (ab_ob 12 (m_fv (vI 0) (vI 0) (vI 0) (vI 0) (vI 0) (vI 0) (vI 0) (vI 0) (vI 0) (vI 0) (vI 0) (vI 0) (vI (-1)) (vI 0) (vI 0) (vI 0) (vI 0) (vI 0) (vI 0) (vI 0) (vI 0) (vI 0) (vI 0) (vI 0) (vI 0) (vI 0) (vI 0) (vI 0) (vI 0) (vI 0) (vI 0) (vI 0) (vI 0) (vI 0) (vI 0)))) := ⟨_, rfl⟩
  rw [← hQ]
  change ab_W X (ab_pl y_MO_subject b_MO_subject 2 (some (.int))) d G 0 [some (vR 80), none] [] Q
  have hfr : ab_fr [80] G G := ab_fr.rf
  refine ab_aload_n d_MO_subject_0 rfl ?_
  refine ab_iconst (v := 0) d_MO_subject_1 (by decide) ?_
  refine ab_putf (fs := (m_fv (vI 0) (vI 0) (vI 0) (vI 0) (vI 0) (vI 0) (vI 0) (vI 0) (vI 0) (vI 0) (vI 0) (vI 0) (vI (-1)) (vI 0) (vI 0) (vI 0) (vI 0) (vI 0) (vI 0) (vI 0) (vI 0) (vI 0) (vI 0) (vI 0) (vI 0) (vI 0) (vI 0) (vI 0) (vI 0) (vI 0) (vI 0) (vI 0) (vI 0) (vI 0) (vI 0))) f_MO_220 (Or.inl rfl) d_MO_subject_2 h80 (Nat.le_of_ble_eq_true rfl) (fun _ => ⟨rfl, rfl⟩) (by decide) ?_
  obtain ⟨G1, eG1⟩ : ∃ z : ab_G, z = List.set G 80 (ab_ob 12 (m_fv (vI 0) (vI 0) (vI 0) (vI 0) (vI 0) (vI 0) (vI 0) (vI 0) (vI 0) (vI 0) (vI 0) (vI 0) (vI (-1)) (vI 0) (vI 0) (vI 0) (vI 0) (vI 0) (vI 0) (vI 0) (vI 0) (vI 0) (vI 0) (vI 0) (vI 0) (vI 0) (vI 0) (vI 0) (vI 0) (vI 0) (vI 0) (vI 0) (vI 0) (vI 0) (vI 0))) := ⟨_, rfl⟩
  have hlen := ab_klen eG1 hlen
  have hsl := ab_ksl 102 eG1 h80 rfl rfl hsl
  have hfr := hfr.wr eG1 (by decide)
  have h80 := ab_kept eG1 h80
  change ab_W _ _ _ (List.set G 80 (ab_ob 12 (m_fv (vI 0) (vI 0) (vI 0) (vI 0) (vI 0) (vI 0) (vI 0) (vI 0) (vI 0) (vI 0) (vI 0) (vI 0) (vI (-1)) (vI 0) (vI 0) (vI 0) (vI 0) (vI 0) (vI 0) (vI 0) (vI 0) (vI 0) (vI 0) (vI 0) (vI 0) (vI 0) (vI 0) (vI 0) (vI 0) (vI 0) (vI 0) (vI 0) (vI 0) (vI 0) (vI 0)))) 5 [some (vR 80), none] [] _
  rw [← eG1]
  refine ab_aload_n d_MO_subject_5 rfl ?_
  refine ab_aload_n d_MO_subject_6 rfl ?_
  refine ab_getf (fs := (m_fv (vI 0) (vI 0) (vI 0) (vI 0) (vI 0) (vI 0) (vI 0) (vI 0) (vI 0) (vI 0) (vI 0) (vI 0) (vI (-1)) (vI 0) (vI 0) (vI 0) (vI 0) (vI 0) (vI 0) (vI 0) (vI 0) (vI 0) (vI 0) (vI 0) (vI 0) (vI 0) (vI 0) (vI 0) (vI 0) (vI 0) (vI 0) (vI 0) (vI 0) (vI 0) (vI 0))) f_MO_223 d_MO_subject_7 h80 rfl ?_
  refine ab_putf (fs := (m_fv (vI 0) (vI 0) (vI 0) (vI 0) (vI 0) (vI 0) (vI 0) (vI 0) (vI 0) (vI 0) (vI 0) (vI 0) (vI (-1)) (vI 0) (vI 0) (vI 0) (vI 0) (vI 0) (vI 0) (vI 0) (vI 0) (vI 0) (vI 0) (vI 0) (vI 0) (vI 0) (vI 0) (vI 0) (vI 0) (vI 0) (vI 0) (vI 0) (vI 0) (vI 0) (vI 0))) f_MO_510 (Or.inl rfl) d_MO_subject_10 h80 (Nat.le_of_ble_eq_true rfl) (fun _ => ⟨rfl, rfl⟩) (by decide) ?_
  obtain ⟨G2, eG2⟩ : ∃ z : ab_G, z = List.set G1 80 (ab_ob 12 (m_fv (vI 0) (vI 0) (vI 0) (vI 0) (vI 0) (vI 0) (vI 0) (vI 0) (vI 0) (vI 0) (vI 0) (vI 0) (vI (-1)) (vI 0) (vI 0) (vI 0) (vI 0) (vI 0) (vI 0) (vI 0) (vI 0) (vI 0) (vI 0) (vI 0) (vI 0) (vI 0) (vI 0) (vI 0) (vI 0) (vI 0) (vI 0) (vI 0) (vI 0) (vI 0) (vI 0))) := ⟨_, rfl⟩
  have hlen := ab_klen eG2 hlen
  have hsl := ab_ksl 102 eG2 h80 rfl rfl hsl
  have hfr := hfr.wr eG2 (by decide)
  have h80 := ab_kept eG2 h80
  change ab_W _ _ _ (List.set G1 80 (ab_ob 12 (m_fv (vI 0) (vI 0) (vI 0) (vI 0) (vI 0) (vI 0) (vI 0) (vI 0) (vI 0) (vI 0) (vI 0) (vI 0) (vI (-1)) (vI 0) (vI 0) (vI 0) (vI 0) (vI 0) (vI 0) (vI 0) (vI 0) (vI 0) (vI 0) (vI 0) (vI 0) (vI 0) (vI 0) (vI 0) (vI 0) (vI 0) (vI 0) (vI 0) (vI 0) (vI 0) (vI 0)))) 13 [some (vR 80), none] [] _
  rw [← eG2]
  refine ab_iconst (v := 0) d_MO_subject_13 (by decide) ?_
  refine ab_istore_n d_MO_subject_14 (Nat.le_of_ble_eq_true rfl) (Nat.le_of_ble_eq_true rfl) rfl ?_
  change ab_W _ _ _ G2 15 [some (vR 80), some (vI 0)] [] _
  refine ab_iload_n d_MO_subject_15 rfl ?_
  refine ab_aload_n d_MO_subject_16 rfl ?_
  refine ab_getf (fs := (m_fv (vI 0) (vI 0) (vI 0) (vI 0) (vI 0) (vI 0) (vI 0) (vI 0) (vI 0) (vI 0) (vI 0) (vI 0) (vI (-1)) (vI 0) (vI 0) (vI 0) (vI 0) (vI 0) (vI 0) (vI 0) (vI 0) (vI 0) (vI 0) (vI 0) (vI 0) (vI 0) (vI 0) (vI 0) (vI 0) (vI 0) (vI 0) (vI 0) (vI 0) (vI 0) (vI 0))) f_MO_510 d_MO_subject_17 h80 rfl ?_
  refine ab_icmp_ge (tgt := 41) d_MO_subject_20 (by decide) (fun _ => ?_) (fun c => absurd c (by decide))
  refine ab_aload_n d_MO_subject_41 rfl ?_
  refine ab_iconst (v := 0) d_MO_subject_42 (by decide) ?_
  refine ab_putf (fs := (m_fv (vI 0) (vI 0) (vI 0) (vI 0) (vI 0) (vI 0) (vI 0) (vI 0) (vI 0) (vI 0) (vI 0) (vI 0) (vI (-1)) (vI 0) (vI 0) (vI 0) (vI 0) (vI 0) (vI 0) (vI 0) (vI 0) (vI 0) (vI 0) (vI 0) (vI 0) (vI 0) (vI 0) (vI 0) (vI 0) (vI 0) (vI 0) (vI 0) (vI 0) (vI 0) (vI 0))) f_MO_223 (Or.inl rfl) d_MO_subject_43 h80 (Nat.le_of_ble_eq_true rfl) (fun _ => ⟨rfl, rfl⟩) (by decide) ?_
  obtain ⟨G3, eG3⟩ : ∃ z : ab_G, z = List.set G2 80 (ab_ob 12 (m_fv (vI 0) (vI 0) (vI 0) (vI 0) (vI 0) (vI 0) (vI 0) (vI 0) (vI 0) (vI 0) (vI 0) (vI 0) (vI (-1)) (vI 0) (vI 0) (vI 0) (vI 0) (vI 0) (vI 0) (vI 0) (vI 0) (vI 0) (vI 0) (vI 0) (vI 0) (vI 0) (vI 0) (vI 0) (vI 0) (vI 0) (vI 0) (vI 0) (vI 0) (vI 0) (vI 0))) := ⟨_, rfl⟩
  have hlen := ab_klen eG3 hlen
  have hsl := ab_ksl 102 eG3 h80 rfl rfl hsl
  have hfr := hfr.wr eG3 (by decide)
  have h80 := ab_kept eG3 h80
  change ab_W _ _ _ (List.set G2 80 (ab_ob 12 (m_fv (vI 0) (vI 0) (vI 0) (vI 0) (vI 0) (vI 0) (vI 0) (vI 0) (vI 0) (vI 0) (vI 0) (vI 0) (vI (-1)) (vI 0) (vI 0) (vI 0) (vI 0) (vI 0) (vI 0) (vI 0) (vI 0) (vI 0) (vI 0) (vI 0) (vI 0) (vI 0) (vI 0) (vI 0) (vI 0) (vI 0) (vI 0) (vI 0) (vI 0) (vI 0) (vI 0)))) 46 [some (vR 80), some (vI 0)] [] _
  rw [← eG3]
  refine ab_aload_n d_MO_subject_46 rfl ?_
  refine ab_getf (fs := (m_fv (vI 0) (vI 0) (vI 0) (vI 0) (vI 0) (vI 0) (vI 0) (vI 0) (vI 0) (vI 0) (vI 0) (vI 0) (vI (-1)) (vI 0) (vI 0) (vI 0) (vI 0) (vI 0) (vI 0) (vI 0) (vI 0) (vI 0) (vI 0) (vI 0) (vI 0) (vI 0) (vI 0) (vI 0) (vI 0) (vI 0) (vI 0) (vI 0) (vI 0) (vI 0) (vI 0))) f_MO_510 d_MO_subject_47 h80 rfl ?_
  exact ab_iret (rt := .int) rfl rfl d_MO_subject_50 (by rw [hQ]; exact ⟨rfl, hfr, hlen, hsl, h80⟩)
set_option maxRecDepth 100000 in
set_option maxHeartbeats 4000000 in
theorem lc_6 {X : ab_X} {d : Nat} {G : ab_G} {xs : Nat → Int32} (hlen : G.length = 149) (hsl : ab_slots G = 1890753) (h0 : G[0]? = some (ab_if 6 (xs))) (h18 : G[18]? = some (ab_ob 0 [vR 19, vR 20, vR 22, vR 30, vR 31, vR 36, vR 37, vR 46, vR 51, vR 60, vR 69, vR 70, vR 72, vR 74, vR 76, vR 78, vI 0, vI 0])) (h20 : G[20]? = some (ab_ob 7 [vI 2000, vR 21, vI 0])) (h21 : G[21]? = some (ab_if 32 ((fun _ => 0)))) (h31 : G[31]? = some (ab_ob 9 [vR 32, vR 33, vR 34, vR 35, vI 0])) (h32 : G[32]? = some (ab_if 32 ((fun _ => 0)))) (h33 : G[33]? = some (ab_if 33 ((upd (fun _ => 0) 0 (-1))))) (h34 : G[34]? = some (ab_if 33 ((fun _ => 0)))) (h35 : G[35]? = some (ab_if 33 ((upd (fun _ => 0) 0 47)))) (h80 : G[80]? = some (ab_ob 12 (m_fv (vI 0) (vI 0) (vI 0) (vI 0) (vI 0) (vI 0) (vI 0) (vI 0) (vI 0) (vI 0) (vI 0) (vI 0) (vI (-1)) (vI 0) (vI 0) (vI 0) (vI 0) (vI 0) (vI 0) (vI 0) (vI 0) (vI 0) (vI 0) (vI 0) (vI 0) (vI 0) (vI 0) (vI 0) (vI 0) (vI 0) (vI 0) (vI 0) (vI 0) (vI 0) (vI 0)))) (hd : 4 ≤ d) : ab_W X ab_LW d G 407 [some (vR 0), some (vR 18), some (vR 80), some (vR 148), some (vI 0), none, none] [] (fun o _ => o = .returned (some (vI 1))) := by
  obtain ⟨Q, hQ⟩ : ∃ z : Outcome → ab_G → Prop, z = (fun o _ => o = .returned (some (vI 1))) := ⟨_, rfl⟩
  rw [← hQ]
  have hfr : ab_fr [20, 31, 32, 33, 34, 35, 80] G G := ab_fr.rf
  refine ab_aload_n d_LA_law_407 rfl ?_
  refine ab_callV (d' := d - 1) (as := []) (st := []) (r := _) (q_PW_subject_0  hlen hsl h18 h20 h21 h31 h32 h33 h34 h35 (by omega)) (fun o G2 h => ⟨_, h.1⟩) (by omega) m_PW_subject ml_LA_69 im_PW_subject se_PW_subject c_PW h18 (Nat.le_of_ble_eq_true rfl) d_LA_law_408 rfl ?_
  intro v G1 hq
  obtain ⟨hv, hfk, hlen, hsl, h20, h31, h32, h33, h34, h35⟩ := hq
  cases hv
  have h0 := hfk.get (by decide) h0
  have h18 := hfk.get (by decide) h18
  have h21 := hfk.get (by decide) h21
  have h80 := hfk.get (by decide) h80
  have hfr := hfr.cl hfk (by decide)
  change ab_W _ _ _ G1 411 [some (vR 0), some (vR 18), some (vR 80), some (vR 148), some (vI 0), none, none] [vI 0] _
  refine ab_aload_n d_LA_law_411 rfl ?_
  refine ab_callV (d' := d - 1) (as := []) (st := [vI 0]) (r := _) (q_MO_subject_0  hlen hsl h80) (fun o G2 h => ⟨_, h.1⟩) (by omega) m_MO_subject ml_LA_72 im_MO_subject se_MO_subject c_MO h80 (Nat.le_of_ble_eq_true rfl) d_LA_law_412 rfl ?_
  intro v G2 hq
  obtain ⟨hv, hfk, hlen, hsl, h80⟩ := hq
  cases hv
  have h0 := hfk.get (by decide) h0
  have h18 := hfk.get (by decide) h18
  have h20 := hfk.get (by decide) h20
  have h21 := hfk.get (by decide) h21
  have h31 := hfk.get (by decide) h31
  have h32 := hfk.get (by decide) h32
  have h33 := hfk.get (by decide) h33
  have h34 := hfk.get (by decide) h34
  have h35 := hfk.get (by decide) h35
  have hfr := hfr.cl hfk (by decide)
  change ab_W _ _ _ G2 415 [some (vR 0), some (vR 18), some (vR 80), some (vR 148), some (vI 0), none, none] [vI 0, vI 0] _
  refine ab_icmp_eq (tgt := 931) d_LA_law_415 (by decide) (fun _ => ?_) (fun c => absurd c (by decide))
  refine ab_iinc (v := 6) d_LA_law_931 rfl (by decide) (Nat.le_of_ble_eq_true rfl) (Nat.le_of_ble_eq_true rfl) rfl ?_
  change ab_W _ _ _ G2 934 [some (vR 0), some (vR 18), some (vR 80), some (vR 148), some (vI 6), none, none] [] _
  refine ab_goto (tgt := 23) d_LA_law_934 (by decide) ?_
  refine ab_iload d_LA_law_23 rfl ?_
  refine ab_aload_n d_LA_law_25 rfl ?_
  refine ab_alen (v := 6) d_LA_law_26 h0 (by first | decide | rfl) ?_
  refine ab_bipush (v := 6) d_LA_law_27 (by decide) ?_
  refine ab_isub d_LA_law_29 ?_
  refine ab_topi (y := 0) (by decide) ?_
  refine ab_icmp_gt (tgt := 937) d_LA_law_30 (by decide) (fun _ => ?_) (fun c => absurd c (by decide))
  refine ab_iconst (v := 1) d_LA_law_937 (by decide) ?_
  exact ab_iret (rt := .boolean) rfl (by decide) d_LA_law_938 (by rw [hQ])
set_option maxRecDepth 100000 in
set_option maxHeartbeats 4000000 in
theorem q_PW_match_0 {X : ab_X} {d : Nat} {G : ab_G} {xs : Nat → Int32} (hlen : G.length = 149) (hsl : ab_slots G = 1890753) (h18 : G[18]? = some (ab_ob 0 [vR 19, vR 20, vR 22, vR 30, vR 31, vR 36, vR 37, vR 46, vR 51, vR 60, vR 69, vR 70, vR 72, vR 74, vR 76, vR 78, vI 0, vI 0])) (h30 : G[30]? = some (.inl (3, 6, .inr (.inr (.inr (.inr (fun _ => none))))))) (hd : 6 ≤ d) : ab_F X d y_PW_match (.code y_PW_match b_PW_match 7 (some (.int))) [vR 18, vI (xs 1), vI (xs 2), vI (xs 3), vI (xs 4)] G (fun o G2 => o = .threw 149 ∧ ab_fr [149] G G2 ∧ G2.length = 150 ∧ ab_slots G2 = 1890759 ∧ G2[149]? = some (ab_ob 13 [])) := by
  refine ab_F_of (by decide +kernel) (Nat.le_of_ble_eq_true rfl) ?_
  obtain ⟨Q, hQ⟩ : ∃ z : Outcome → ab_G → Prop, z = (fun o G2 => o = .threw 149 ∧ ab_fr [149] G G2 ∧ G2.length = 150 ∧ ab_slots G2 = 1890759 ∧ G2[149]? = some (ab_ob 13 [])) := ⟨_, rfl⟩
  rw [← hQ]
  change ab_W X (ab_pl y_PW_match b_PW_match 7 (some (.int))) d G 0 [some (vR 18), some (vI (xs 1)), some (vI (xs 2)), some (vI (xs 3)), some (vI (xs 4)), none, none] [] Q
  have hfr : ab_fr [149] G G := ab_fr.rf
  refine ab_aload_n d_PW_match_0 rfl ?_
  refine ab_iload_n d_PW_match_1 rfl ?_
  refine ab_callV (d' := d - 1) (as := [vI (xs 1)]) (st := []) (r := _) (q_PW_programAt_0 (xs := xs) hlen hsl h18 h30) (fun o G2 h => ⟨_, h.1⟩) (by omega) m_PW_programAt ml_PW_148 im_PW_programAt se_PW_programAt c_PW h18 (Nat.le_of_ble_eq_true rfl) d_PW_match_2 rfl ?_
  intro v G1 hq
  obtain ⟨hv, hfk, hlen, hsl⟩ := hq
  cases hv
  have h18 := hfk.get (by decide) h18
  have h30 := hfk.get (by decide) h30
  have hfr := hfr.cl hfk (by decide)
  change ab_W _ _ _ G1 5 [some (vR 18), some (vI (xs 1)), some (vI (xs 2)), some (vI (xs 3)), some (vI (xs 4)), none, none] [vN] _
  refine ab_astoreN d_PW_match_5 (Nat.le_of_ble_eq_true rfl) (Nat.le_of_ble_eq_true rfl) rfl ?_
  change ab_W _ _ _ G1 7 [some (vR 18), some (vI (xs 1)), some (vI (xs 2)), some (vI (xs 3)), some (vI (xs 4)), some (vN), none] [] _
  refine ab_aloadN d_PW_match_7 rfl ?_
  refine ab_ifnullN (tgt := 30) d_PW_match_9 (by decide) ?_
  refine ab_throw (tx := "no pattern there, or no such how or machine") (by decide) (fun c h => h) cl_PW_109 inst_IA ini_IA tw_PW_113 d_PW_match_30 d_PW_match_33 d_PW_match_34 d_PW_match_36 d_PW_match_39 (by omega) (by rw [hlen]; decide) (by rw [hsl]; decide) ?_
  rw [hlen]
  obtain ⟨G2, eG2⟩ : ∃ z : ab_G, z = G1 ++ [ab_ob 13 []] := ⟨_, rfl⟩
  have h18 := ab_akeep eG2 h18
  have h30 := ab_akeep eG2 h30
  have h149 := ab_anew1 eG2 hlen
  have hsl : ab_slots G2 = 1890759 := ab_asl (z := 6) eG2 hlen (by decide) hsl rfl (by decide)
  have hlen : G2.length = 150 := ab_alen1 eG2 hlen
  have hfr := hfr.ap eG2
  rw [← eG2, hQ]
  exact ⟨rfl, hfr, hlen, hsl, h149⟩
set_option maxRecDepth 100000 in
set_option maxHeartbeats 4000000 in
theorem q_LA_match_0 {X : ab_X} {d : Nat} {G : ab_G} {xs : Nat → Int32} (hlen : G.length = 149) (hsl : ab_slots G = 1890753) (h18 : G[18]? = some (ab_ob 0 [vR 19, vR 20, vR 22, vR 30, vR 31, vR 36, vR 37, vR 46, vR 51, vR 60, vR 69, vR 70, vR 72, vR 74, vR 76, vR 78, vI 0, vI 0])) (h30 : G[30]? = some (.inl (3, 6, .inr (.inr (.inr (.inr (fun _ => none))))))) (hd : 7 ≤ d) : ab_F X d y_LA_match (.codeWith y_LA_match b_LA_match 7 (some (.int)) [(0, 14, 17, 13)]) [vR 18, vI (xs 1), vI (xs 2), vI (xs 3), vI (xs 4), vR 148] G (fun o G2 => o = .returned (some (vI 1)) ∧ ab_fr [149] G G2 ∧ G2.length = 150 ∧ ab_slots G2 = 1890759 ∧ G2[149]? = some (ab_ob 13 [])) := by
  refine ab_F_ofW (by decide +kernel) (Nat.le_of_ble_eq_true rfl) ?_
  obtain ⟨Q, hQ⟩ : ∃ z : Outcome → ab_G → Prop, z = (fun o G2 => o = .returned (some (vI 1)) ∧ ab_fr [149] G G2 ∧ G2.length = 150 ∧ ab_slots G2 = 1890759 ∧ G2[149]? = some (ab_ob 13 [])) := ⟨_, rfl⟩
  rw [← hQ]
  change ab_W X (ab_plW y_LA_match b_LA_match 7 (some (.int)) [(0, 14, 17, 13)]) d G 0 [some (vR 18), some (vI (xs 1)), some (vI (xs 2)), some (vI (xs 3)), some (vI (xs 4)), some (vR 148), none] [] Q
  have hfr : ab_fr [149] G G := ab_fr.rf
  refine ab_aload d_LA_match_0 rfl ?_
  refine ab_iconst (v := 0) d_LA_match_2 (by decide) ?_
  refine ab_aload_n d_LA_match_3 rfl ?_
  refine ab_iload_n d_LA_match_4 rfl ?_
  refine ab_iload_n d_LA_match_5 rfl ?_
  refine ab_iload_n d_LA_match_6 rfl ?_
  refine ab_iload d_LA_match_7 rfl ?_
  refine ab_callVT (d' := d - 1) (hp := 17) (ct := 13) (as := [vI (xs 1), vI (xs 2), vI (xs 3), vI (xs 4)]) (st := [vI 0, vR 148]) (q_PW_match_0 (xs := xs) hlen hsl h18 h30 (by omega)) (fun o G2 h => ⟨_, h.1, h.2.2.2.2⟩) (by omega) m_PW_match mw_LA_15 im_PW_match se_PW_match c_PW h18 (Nat.le_of_ble_eq_true rfl) d_LA_match_9 rfl (fun c hc => ab_hx hc (by decide)) (by decide) cl_LA_13 cast_IA ?_
  intro v G1 hq
  obtain ⟨hv, hfk, hlen, hsl, h149⟩ := hq
  cases hv
  have h18 := hfk.get (by decide) h18
  have h30 := hfk.get (by decide) h30
  have hfr := hfr.cl hfk (by decide)
  change ab_W _ _ _ G1 17 [some (vR 18), some (vI (xs 1)), some (vI (xs 2)), some (vI (xs 3)), some (vI (xs 4)), some (vR 148), none] [vR 149] _
  refine ab_astore d_LA_match_17 (Nat.le_of_ble_eq_true rfl) (Nat.le_of_ble_eq_true rfl) rfl ?_
  change ab_W _ _ _ G1 19 [some (vR 18), some (vI (xs 1)), some (vI (xs 2)), some (vI (xs 3)), some (vI (xs 4)), some (vR 148), some (vR 149)] [] _
  refine ab_iconst (v := 1) d_LA_match_19 (by decide) ?_
  exact ab_iret (rt := .int) rfl rfl d_LA_match_20 (by rw [hQ]; exact ⟨rfl, hfr, hlen, hsl, h149⟩)
set_option maxRecDepth 100000 in
set_option maxHeartbeats 4000000 in
theorem q_MO_isThere_1 {X : ab_X} {d : Nat} {G : ab_G} {xs : Nat → Int32} (hlen : G.length = 150) (hsl : ab_slots G = 1890759) (h80 : G[80]? = some (ab_ob 12 (m_fv (vI 0) (vI 0) (vI 0) (vI 0) (vI 0) (vI 0) (vI 0) (vI 0) (vI 0) (vI 0) (vI 0) (vI 0) (vI (-1)) (vI 0) (vI 0) (vI 0) (vI 0) (vI 0) (vI 0) (vI 0) (vI 0) (vI 0) (vI 0) (vI 0) (vI 0) (vI 0) (vI 0) (vI 0) (vI 0) (vI 0) (vI 0) (vI 0) (vI 0) (vI 0) (vI 0)))) (h112 : G[112]? = some (ab_zf 6 ((fun _ => 0)))) : ab_F X d y_MO_isThere (.code y_MO_isThere b_MO_isThere 2 (some (.boolean))) [vR 80, vI (xs 1)] G (fun o G2 => o = .returned (some (vI 0)) ∧ ab_fr [] G G2 ∧ G2.length = 150 ∧ ab_slots G2 = 1890759) := by
  refine ab_F_of (by decide +kernel) (Nat.le_of_ble_eq_true rfl) ?_
  obtain ⟨Q, hQ⟩ : ∃ z : Outcome → ab_G → Prop, z = (fun o G2 => o = .returned (some (vI 0)) ∧ ab_fr [] G G2 ∧ G2.length = 150 ∧ ab_slots G2 = 1890759) := ⟨_, rfl⟩
  rw [← hQ]
  change ab_W X (ab_pl y_MO_isThere b_MO_isThere 2 (some (.boolean))) d G 0 [some (vR 80), some (vI (xs 1))] [] Q
  have hfr : ab_fr [] G G := ab_fr.rf
  refine ab_iload_n d_MO_isThere_0 rfl ?_
  refine ab_if_lt (tgt := 23) d_MO_isThere_1 (by decide) (fun c0 => ?_) (fun c0 => ?_)
  · refine ab_iconst (v := 0) d_MO_isThere_23 (by decide) ?_
    exact ab_iret (rt := .boolean) rfl (by decide) d_MO_isThere_24 (by rw [hQ]; exact ⟨rfl, hfr, hlen, hsl⟩)
  · refine ab_iload_n d_MO_isThere_4 rfl ?_
    refine ab_bipush (v := 6) d_MO_isThere_5 (by decide) ?_
    refine ab_icmp_ge (tgt := 23) d_MO_isThere_7 (by decide) (fun c1 => ?_) (fun c1 => ?_)
    · refine ab_iconst (v := 0) d_MO_isThere_23 (by decide) ?_
      exact ab_iret (rt := .boolean) rfl (by decide) d_MO_isThere_24 (by rw [hQ]; exact ⟨rfl, hfr, hlen, hsl⟩)
    · refine ab_aload_n d_MO_isThere_10 rfl ?_
      refine ab_getf (fs := (m_fv (vI 0) (vI 0) (vI 0) (vI 0) (vI 0) (vI 0) (vI 0) (vI 0) (vI 0) (vI 0) (vI 0) (vI 0) (vI (-1)) (vI 0) (vI 0) (vI 0) (vI 0) (vI 0) (vI 0) (vI 0) (vI 0) (vI 0) (vI 0) (vI 0) (vI 0) (vI 0) (vI 0) (vI 0) (vI 0) (vI 0) (vI 0) (vI 0) (vI 0) (vI 0) (vI 0))) f_MO_109 d_MO_isThere_11 h80 rfl ?_
      refine ab_iload_n d_MO_isThere_14 rfl ?_
      refine ab_zald d_MO_isThere_15 h112 (vp_in_iff.mpr (by have l0 := (show (0 : Int32).toInt = 0 by decide); have l1 := (show (6 : Int32).toInt = 6 by decide); simp only [Int32.le_iff_toInt_le, Int32.lt_iff_toInt_lt, ← Int32.toInt_inj] at c0 c1; constructor <;> omega)) ?_
      refine ab_topi (y := 0) rfl ?_
      refine ab_if_eq (tgt := 23) d_MO_isThere_16 (by decide) (fun _ => ?_) (fun c => absurd c (by decide))
      refine ab_iconst (v := 0) d_MO_isThere_23 (by decide) ?_
      exact ab_iret (rt := .boolean) rfl (by decide) d_MO_isThere_24 (by rw [hQ]; exact ⟨rfl, hfr, hlen, hsl⟩)
