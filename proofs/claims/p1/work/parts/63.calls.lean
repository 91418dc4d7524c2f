set_option maxRecDepth 100000 in
set_option maxHeartbeats 4000000 in
theorem q_PW_keep_2 {X : ab_X} {d : Nat} {G : ab_G} {xs : Nat → Int32} (hlen : G.length = 149) (hsl : ab_slots G = 1890753) (h18 : G[18]? = some (ab_ob 0 [vR 19, vR 20, vR 22, vR 30, vR 31, vR 36, vR 37, vR 46, vR 51, vR 60, vR 69, vR 70, vR 72, vR 74, vR 76, vR 78, vI 0, vI 0])) (h60 : G[60]? = some (ab_ob 8 [vI 32, vN, vI 0, vI 0, vR 61, vI 0, vR 62, vR 63, vR 64, vR 65, vI 0, vR 66, vI 0, vR 67, vI 0, vR 68, vI 0, vJ 0])) (c0 : 4 ≤ (xs 1)) (c1 : (xs 1) ≤ 64) (hd : 1 ≤ d) : ab_F X d y_PW_keep (.code y_PW_keep b_PW_keep 2 none) [vR 18, vI (xs 1)] G (fun o G2 => o = .returned none ∧ ab_fr [60] G G2 ∧ G2.length = 149 ∧ ab_slots G2 = 1890753 ∧ G2[60]? = some (ab_ob 8 [vI (xs 1), vN, vI 0, vI 0, vR 61, vI 0, vR 62, vR 63, vR 64, vR 65, vI 0, vR 66, vI 0, vR 67, vI 0, vR 68, vI 0, vJ 0])) := by
  refine ab_F_of (by decide +kernel) (Nat.le_of_ble_eq_true rfl) ?_
  obtain ⟨Q, hQ⟩ : ∃ z : Outcome → ab_G → Prop, z = (fun o G2 => o = .returned none ∧ ab_fr [60] G G2 ∧ G2.length = 149 ∧ ab_slots G2 = 1890753 ∧ G2[60]? = some (ab_ob 8 [vI (xs 1), vN, vI 0, vI 0, vR 61, vI 0, vR 62, vR 63, vR 64, vR 65, vI 0, vR 66, vI 0, vR 67, vI 0, vR 68, vI 0, vJ 0])) := ⟨_, rfl⟩
  rw [← hQ]
  change ab_W X (ab_pl y_PW_keep b_PW_keep 2 none) d G 0 [some (vR 18), some (vI (xs 1))] [] Q
  have hfr : ab_fr [60] G G := ab_fr.rf
  refine ab_iload_n d_PW_keep_0 rfl ?_
  refine ab_iconst (v := 4) d_PW_keep_1 (by decide) ?_
  refine ab_icmp_lt (tgt := 11) d_PW_keep_2 (by decide) (fun c2 => ?_) (fun c2 => ?_)
  · exfalso; have l0 := (show (4 : Int32).toInt = 4 by decide); have l1 := (show (64 : Int32).toInt = 64 by decide); simp only [Int32.le_iff_toInt_le, Int32.lt_iff_toInt_lt, ← Int32.toInt_inj] at c0 c1 c2; omega
  · refine ab_iload_n d_PW_keep_5 rfl ?_
    refine ab_bipush (v := 64) d_PW_keep_6 (by decide) ?_
    refine ab_icmp_le (tgt := 21) d_PW_keep_8 (by decide) (fun c3 => ?_) (fun c3 => ?_)
    · refine ab_aload_n d_PW_keep_21 rfl ?_
      refine ab_getf (fs := [vR 19, vR 20, vR 22, vR 30, vR 31, vR 36, vR 37, vR 46, vR 51, vR 60, vR 69, vR 70, vR 72, vR 74, vR 76, vR 78, vI 0, vI 0]) f_PW_69 d_PW_keep_22 h18 rfl ?_
      refine ab_iload_n d_PW_keep_25 rfl ?_
      refine ab_callV (d' := d - 1) (as := [vI (xs 1)]) (st := []) (r := _) (q_ST_holdAtMost_0 (xs := xs) hlen hsl h60) (fun o G2 h => ⟨_, h.1⟩) (by omega) m_ST_holdAtMost ml_PW_237 im_ST_holdAtMost se_ST_holdAtMost c_ST h60 (Nat.le_of_ble_eq_true rfl) d_PW_keep_26 rfl ?_
      intro v G1 hq
      obtain ⟨hv, hfk, hlen, hsl, h60⟩ := hq
      cases hv
      have h18 := hfk.get (by decide) h18
      have hfr := hfr.cl hfk (by decide)
      change ab_W _ _ _ G1 29 [some (vR 18), some (vI (xs 1))] [] _
      exact ab_vret rfl d_PW_keep_29 (by rw [hQ]; exact ⟨rfl, hfr, hlen, hsl, h60⟩)
    · exfalso; have l0 := (show (4 : Int32).toInt = 4 by decide); have l1 := (show (64 : Int32).toInt = 64 by decide); simp only [Int32.le_iff_toInt_le, Int32.lt_iff_toInt_lt, ← Int32.toInt_inj] at c0 c1 c2 c3; omega
set_option maxRecDepth 100000 in
set_option maxHeartbeats 4000000 in
theorem q_LA_keep_2 {X : ab_X} {d : Nat} {G : ab_G} {xs : Nat → Int32} (hlen : G.length = 149) (hsl : ab_slots G = 1890753) (h18 : G[18]? = some (ab_ob 0 [vR 19, vR 20, vR 22, vR 30, vR 31, vR 36, vR 37, vR 46, vR 51, vR 60, vR 69, vR 70, vR 72, vR 74, vR 76, vR 78, vI 0, vI 0])) (h60 : G[60]? = some (ab_ob 8 [vI 32, vN, vI 0, vI 0, vR 61, vI 0, vR 62, vR 63, vR 64, vR 65, vI 0, vR 66, vI 0, vR 67, vI 0, vR 68, vI 0, vJ 0])) (c0 : 4 ≤ (xs 1)) (c1 : (xs 1) ≤ 64) (hd : 2 ≤ d) : ab_F X d y_LA_keep (.codeWith y_LA_keep b_LA_keep 3 (some (.int)) [(0, 5, 8, 13)]) [vR 18, vI (xs 1)] G (fun o G2 => o = .returned (some (vI 0)) ∧ ab_fr [60] G G2 ∧ G2.length = 149 ∧ ab_slots G2 = 1890753 ∧ G2[60]? = some (ab_ob 8 [vI (xs 1), vN, vI 0, vI 0, vR 61, vI 0, vR 62, vR 63, vR 64, vR 65, vI 0, vR 66, vI 0, vR 67, vI 0, vR 68, vI 0, vJ 0])) := by
  refine ab_F_ofW (by decide +kernel) (Nat.le_of_ble_eq_true rfl) ?_
  obtain ⟨Q, hQ⟩ : ∃ z : Outcome → ab_G → Prop, z = (fun o G2 => o = .returned (some (vI 0)) ∧ ab_fr [60] G G2 ∧ G2.length = 149 ∧ ab_slots G2 = 1890753 ∧ G2[60]? = some (ab_ob 8 [vI (xs 1), vN, vI 0, vI 0, vR 61, vI 0, vR 62, vR 63, vR 64, vR 65, vI 0, vR 66, vI 0, vR 67, vI 0, vR 68, vI 0, vJ 0])) := ⟨_, rfl⟩
  rw [← hQ]
  change ab_W X (ab_plW y_LA_keep b_LA_keep 3 (some (.int)) [(0, 5, 8, 13)]) d G 0 [some (vR 18), some (vI (xs 1)), none] [] Q
  have hfr : ab_fr [60] G G := ab_fr.rf
  refine ab_aload_n d_LA_keep_0 rfl ?_
  refine ab_iload_n d_LA_keep_1 rfl ?_
  refine ab_callV (d' := d - 1) (as := [vI (xs 1)]) (st := []) (r := _) (q_PW_keep_2 (xs := xs) hlen hsl h18 h60 c0 c1 (by omega)) (fun o G2 h => ⟨_, h.1⟩) (by omega) m_PW_keep ml_LA_29 im_PW_keep se_PW_keep c_PW h18 (Nat.le_of_ble_eq_true rfl) d_LA_keep_2 rfl ?_
  intro v G1 hq
  obtain ⟨hv, hfk, hlen, hsl, h60⟩ := hq
  cases hv
  have h18 := hfk.get (by decide) h18
  have hfr := hfr.cl hfk (by decide)
  change ab_W _ _ _ G1 5 [some (vR 18), some (vI (xs 1)), none] [] _
  refine ab_goto (tgt := 11) d_LA_keep_5 (by decide) ?_
  refine ab_iconst (v := 0) d_LA_keep_11 (by decide) ?_
  exact ab_iret (rt := .int) rfl rfl d_LA_keep_12 (by rw [hQ]; exact ⟨rfl, hfr, hlen, hsl, h60⟩)
set_option maxRecDepth 100000 in
set_option maxHeartbeats 4000000 in
theorem q_MO_keep_2 {X : ab_X} {d : Nat} {G : ab_G} {xs : Nat → Int32} (hlen : G.length = 149) (hsl : ab_slots G = 1890753) (h80 : G[80]? = some (ab_ob 12 (m_fv (vI 0) (vI 0) (vI 0) (vI 0) (vI 0) (vI 0) (vI 0) (vI 0) (vI 0) (vI 0) (vI 0) (vI 0) (vI (-1)) (vI 0) (vI 0) (vI 0) (vI 0) (vI 0) (vI 0) (vI 0) (vI 0) (vI 0) (vI 0) (vI 0) (vI 0) (vI 0) (vI 0) (vI 0) (vI 0) (vI 0) (vI 0) (vI 0) (vI 0) (vI 0) (vI 0)))) (c0 : 4 ≤ (xs 1)) (c1 : (xs 1) ≤ 64) : ab_F X d y_MO_keep (.code y_MO_keep b_MO_keep 2 none) [vR 80, vI (xs 1)] G (fun o G2 => o = .returned none ∧ ab_fr [80] G G2 ∧ G2.length = 149 ∧ ab_slots G2 = 1890753 ∧ G2[80]? = some (ab_ob 12 (m_fv (vI 0) (vI 0) (vI 0) (vI 0) (vI 0) (vI 0) (vI 0) (vI 0) (vI 0) (vI 0) (vI 0) (vI 0) (vI (-1)) (vI 0) (vI 0) (vI 0) (vI 0) (vI 0) (vI 0) (vI 0) (vI 0) (vI 0) (vI 0) (vI 0) (vI 0) (vI 0) (vI 0) (vI 0) (vI 0) (vI 0) (vI 0) (vI 0) (vI 0) (vI 0) (vI 0)))) := by
  refine ab_F_of (by decide +kernel) (Nat.le_of_ble_eq_true rfl) ?_
  obtain ⟨Q, hQ⟩ : ∃ z : Outcome → ab_G → Prop, z = (fun o G2 => o = .returned none ∧ ab_fr [80] G G2 ∧ G2.length = 149 ∧ ab_slots G2 = 1890753 ∧ G2[80]? = some (ab_ob 12 (m_fv (vI 0) (vI 0) (vI 0) (vI 0) (vI 0) (vI 0) (vI 0) (vI 0) (vI 0) (vI 0) (vI 0) (vI 0) (vI (-1)) (vI 0) (vI 0) (vI 0) (vI 0) (vI 0) (vI 0) (vI 0) (vI 0) (vI 0) (vI 0) (vI 0) (vI 0) (vI 0) (vI 0) (vI 0) (vI 0) (vI 0) (vI 0) (vI 0) (vI 0) (vI 0) (vI 0)))) := ⟨_, rfl⟩
  rw [← hQ]
  change ab_W X (ab_pl y_MO_keep b_MO_keep 2 none) d G 0 [some (vR 80), some (vI (xs 1))] [] Q
  have hfr : ab_fr [80] G G := ab_fr.rf
  refine ab_aload_n d_MO_keep_0 rfl ?_
  refine ab_iload_n d_MO_keep_1 rfl ?_
  refine ab_iconst (v := 4) d_MO_keep_2 (by decide) ?_
  refine ab_icmp_lt (tgt := 12) d_MO_keep_3 (by decide) (fun c2 => ?_) (fun c2 => ?_)
  · exfalso; have l0 := (show (4 : Int32).toInt = 4 by decide); have l1 := (show (64 : Int32).toInt = 64 by decide); simp only [Int32.le_iff_toInt_le, Int32.lt_iff_toInt_lt, ← Int32.toInt_inj] at c0 c1 c2; omega
  · refine ab_iload_n d_MO_keep_6 rfl ?_
    refine ab_bipush (v := 64) d_MO_keep_7 (by decide) ?_
    refine ab_icmp_le (tgt := 16) d_MO_keep_9 (by decide) (fun c3 => ?_) (fun c3 => ?_)
    · refine ab_iconst (v := 0) d_MO_keep_16 (by decide) ?_
      refine ab_putf (fs := (m_fv (vI 0) (vI 0) (vI 0) (vI 0) (vI 0) (vI 0) (vI 0) (vI 0) (vI 0) (vI 0) (vI 0) (vI 0) (vI (-1)) (vI 0) (vI 0) (vI 0) (vI 0) (vI 0) (vI 0) (vI 0) (vI 0) (vI 0) (vI 0) (vI 0) (vI 0) (vI 0) (vI 0) (vI 0) (vI 0) (vI 0) (vI 0) (vI 0) (vI 0) (vI 0) (vI 0))) f_MO_220 (Or.inl rfl) d_MO_keep_17 h80 (Nat.le_of_ble_eq_true rfl) (fun _ => ⟨rfl, rfl⟩) (by decide) ?_
      obtain ⟨G1, eG1⟩ : ∃ z : ab_G, z = List.set G 80 (ab_ob 12 (m_fv (vI 0) (vI 0) (vI 0) (vI 0) (vI 0) (vI 0) (vI 0) (vI 0) (vI 0) (vI 0) (vI 0) (vI 0) (vI (-1)) (vI 0) (vI 0) (vI 0) (vI 0) (vI 0) (vI 0) (vI 0) (vI 0) (vI 0) (vI 0) (vI 0) (vI 0) (vI 0) (vI 0) (vI 0) (vI 0) (vI 0) (vI 0) (vI 0) (vI 0) (vI 0) (vI 0))) := ⟨_, rfl⟩
      have hlen := ab_klen eG1 hlen
      have hsl := ab_ksl 102 eG1 h80 rfl rfl hsl
      have hfr := hfr.wr eG1 (by decide)
      have h80 := ab_kept eG1 h80
      change ab_W _ _ _ (List.set G 80 (ab_ob 12 (m_fv (vI 0) (vI 0) (vI 0) (vI 0) (vI 0) (vI 0) (vI 0) (vI 0) (vI 0) (vI 0) (vI 0) (vI 0) (vI (-1)) (vI 0) (vI 0) (vI 0) (vI 0) (vI 0) (vI 0) (vI 0) (vI 0) (vI 0) (vI 0) (vI 0) (vI 0) (vI 0) (vI 0) (vI 0) (vI 0) (vI 0) (vI 0) (vI 0) (vI 0) (vI 0) (vI 0)))) 20 [some (vR 80), some (vI (xs 1))] [] _
      rw [← eG1]
      exact ab_vret rfl d_MO_keep_20 (by rw [hQ]; exact ⟨rfl, hfr, hlen, hsl, h80⟩)
    · exfalso; have l0 := (show (4 : Int32).toInt = 4 by decide); have l1 := (show (64 : Int32).toInt = 64 by decide); simp only [Int32.le_iff_toInt_le, Int32.lt_iff_toInt_lt, ← Int32.toInt_inj] at c0 c1 c2 c3; omega
set_option maxRecDepth 100000 in
set_option maxHeartbeats 4000000 in
theorem q_MO_thrown_2 {X : ab_X} {d : Nat} {G : ab_G}  (hlen : G.length = 149) (hsl : ab_slots G = 1890753) (h80 : G[80]? = some (ab_ob 12 (m_fv (vI 0) (vI 0) (vI 0) (vI 0) (vI 0) (vI 0) (vI 0) (vI 0) (vI 0) (vI 0) (vI 0) (vI 0) (vI (-1)) (vI 0) (vI 0) (vI 0) (vI 0) (vI 0) (vI 0) (vI 0) (vI 0) (vI 0) (vI 0) (vI 0) (vI 0) (vI 0) (vI 0) (vI 0) (vI 0) (vI 0) (vI 0) (vI 0) (vI 0) (vI 0) (vI 0)))) : ab_F X d y_MO_thrown (.code y_MO_thrown b_MO_thrown 1 (some (.int))) [vR 80] G (fun o G2 => o = .returned (some (vI 0)) ∧ ab_fr [] G G2 ∧ G2.length = 149 ∧ ab_slots G2 = 1890753) := by
  refine ab_F_of (by decide +kernel) (Nat.le_of_ble_eq_true rfl) ?_
  obtain ⟨Q, hQ⟩ : ∃ z : Outcome → ab_G → Prop, z = (fun o G2 => o = .returned (some (vI 0)) ∧ ab_fr [] G G2 ∧ G2.length = 149 ∧ ab_slots G2 = 1890753) := ⟨_, rfl⟩
  rw [← hQ]
  change ab_W X (ab_pl y_MO_thrown b_MO_thrown 1 (some (.int))) d G 0 [some (vR 80)] [] Q
  have hfr : ab_fr [] G G := ab_fr.rf
  refine ab_aload_n d_MO_thrown_0 rfl ?_
  refine ab_getf (fs := (m_fv (vI 0) (vI 0) (vI 0) (vI 0) (vI 0) (vI 0) (vI 0) (vI 0) (vI 0) (vI 0) (vI 0) (vI 0) (vI (-1)) (vI 0) (vI 0) (vI 0) (vI 0) (vI 0) (vI 0) (vI 0) (vI 0) (vI 0) (vI 0) (vI 0) (vI 0) (vI 0) (vI 0) (vI 0) (vI 0) (vI 0) (vI 0) (vI 0) (vI 0) (vI 0) (vI 0))) f_MO_220 d_MO_thrown_1 h80 rfl ?_
  exact ab_iret (rt := .int) rfl rfl d_MO_thrown_4 (by rw [hQ]; exact ⟨rfl, hfr, hlen, hsl⟩)
set_option maxRecDepth 100000 in
set_option maxHeartbeats 4000000 in
theorem lc_17c {X : ab_X} {d : Nat} {G : ab_G} {xs : Nat → Int32} (hlen : G.length = 149) (hsl : ab_slots G = 1890753) (h0 : G[0]? = some (ab_if 6 (xs))) (h18 : G[18]? = some (ab_ob 0 [vR 19, vR 20, vR 22, vR 30, vR 31, vR 36, vR 37, vR 46, vR 51, vR 60, vR 69, vR 70, vR 72, vR 74, vR 76, vR 78, vI 0, vI 0])) (h60 : G[60]? = some (ab_ob 8 [vI 32, vN, vI 0, vI 0, vR 61, vI 0, vR 62, vR 63, vR 64, vR 65, vI 0, vR 66, vI 0, vR 67, vI 0, vR 68, vI 0, vJ 0])) (h80 : G[80]? = some (ab_ob 12 (m_fv (vI 0) (vI 0) (vI 0) (vI 0) (vI 0) (vI 0) (vI 0) (vI 0) (vI 0) (vI 0) (vI 0) (vI 0) (vI (-1)) (vI 0) (vI 0) (vI 0) (vI 0) (vI 0) (vI 0) (vI 0) (vI 0) (vI 0) (vI 0) (vI 0) (vI 0) (vI 0) (vI 0) (vI 0) (vI 0) (vI 0) (vI 0) (vI 0) (vI 0) (vI 0) (vI 0)))) (c0 : 4 ≤ (xs 1)) (c1 : (xs 1) ≤ 64) (hd : 3 ≤ d) : ab_W X ab_LW d G 882 [some (vR 0), some (vR 18), some (vR 80), some (vR 148), some (vI 0), none, none] [] (fun o _ => o = .returned (some (vI 1))) := by
  obtain ⟨Q, hQ⟩ : ∃ z : Outcome → ab_G → Prop, z = (fun o _ => o = .returned (some (vI 1))) := ⟨_, rfl⟩
  rw [← hQ]
  have hfr : ab_fr [60, 80] G G := ab_fr.rf
  refine ab_aload_n d_LA_law_882 rfl ?_
  refine ab_aload_n d_LA_law_883 rfl ?_
  refine ab_iload d_LA_law_884 rfl ?_
  refine ab_iconst (v := 1) d_LA_law_886 (by decide) ?_
  refine ab_iadd d_LA_law_887 ?_
  refine ab_topi (y := 1) (by decide) ?_
  refine ab_iald d_LA_law_888 h0 (by unfold vp_in; decide) ?_
  refine ab_topi (y := (xs 1)) rfl ?_
  refine ab_callSW (d' := d - 1) (as := [vR 18, vI (xs 1)]) (st := []) (q_LA_keep_2 (xs := xs) hlen hsl h18 h60 c0 c1 (by omega)) (fun o G2 h => ⟨_, h.1⟩) (by omega) m_LA_keep mw_LA_112 st_LA_keep (Nat.le_of_ble_eq_true rfl) d_LA_law_889 rfl ?_
  intro v G1 hq
  obtain ⟨hv, hfk, hlen, hsl, h60⟩ := hq
  cases hv
  have h0 := hfk.get (by decide) h0
  have h18 := hfk.get (by decide) h18
  have h80 := hfk.get (by decide) h80
  have hfr := hfr.cl hfk (by decide)
  change ab_W _ _ _ G1 892 [some (vR 0), some (vR 18), some (vR 80), some (vR 148), some (vI 0), none, none] [vI 0] _
  refine ab_istore d_LA_law_892 (Nat.le_of_ble_eq_true rfl) (Nat.le_of_ble_eq_true rfl) rfl ?_
  change ab_W _ _ _ G1 894 [some (vR 0), some (vR 18), some (vR 80), some (vR 148), some (vI 0), some (vI 0), none] [] _
  refine ab_aload_n d_LA_law_894 rfl ?_
  refine ab_aload_n d_LA_law_895 rfl ?_
  refine ab_iload d_LA_law_896 rfl ?_
  refine ab_iconst (v := 1) d_LA_law_898 (by decide) ?_
  refine ab_iadd d_LA_law_899 ?_
  refine ab_topi (y := 1) (by decide) ?_
  refine ab_iald d_LA_law_900 h0 (by unfold vp_in; decide) ?_
  refine ab_topi (y := (xs 1)) rfl ?_
  refine ab_callV (d' := d - 1) (as := [vI (xs 1)]) (st := []) (r := _) (q_MO_keep_2 (xs := xs) hlen hsl h80 c0 c1) (fun o G2 h => ⟨_, h.1⟩) (by omega) m_MO_keep ml_LA_115 im_MO_keep se_MO_keep c_MO h80 (Nat.le_of_ble_eq_true rfl) d_LA_law_901 rfl ?_
  intro v G2 hq
  obtain ⟨hv, hfk, hlen, hsl, h80⟩ := hq
  cases hv
  have h0 := hfk.get (by decide) h0
  have h18 := hfk.get (by decide) h18
  have h60 := hfk.get (by decide) h60
  have hfr := hfr.cl hfk (by decide)
  change ab_W _ _ _ G2 904 [some (vR 0), some (vR 18), some (vR 80), some (vR 148), some (vI 0), some (vI 0), none] [] _
  refine ab_aload_n d_LA_law_904 rfl ?_
  refine ab_callV (d' := d - 1) (as := []) (st := []) (r := _) (q_MO_thrown_2  hlen hsl h80) (fun o G2 h => ⟨_, h.1⟩) (by omega) m_MO_thrown ml_LA_52 im_MO_thrown se_MO_thrown c_MO h80 (Nat.le_of_ble_eq_true rfl) d_LA_law_905 rfl ?_
  intro v G3 hq
  obtain ⟨hv, hfk, hlen, hsl⟩ := hq
  cases hv
  have h0 := hfk.get (by decide) h0
  have h18 := hfk.get (by decide) h18
  have h60 := hfk.get (by decide) h60
  have h80 := hfk.get (by decide) h80
  have hfr := hfr.cl hfk (by decide)
  change ab_W _ _ _ G3 908 [some (vR 0), some (vR 18), some (vR 80), some (vR 148), some (vI 0), some (vI 0), none] [vI 0] _
  refine ab_iload d_LA_law_908 rfl ?_
  refine ab_icmp_eq (tgt := 915) d_LA_law_910 (by decide) (fun _ => ?_) (fun c => absurd c (by decide))
  refine ab_goto (tgt := 931) d_LA_law_915 (by decide) ?_
  refine ab_iinc (v := 6) d_LA_law_931 rfl (by decide) (Nat.le_of_ble_eq_true rfl) (Nat.le_of_ble_eq_true rfl) rfl ?_
  change ab_W _ _ _ G3 934 [some (vR 0), some (vR 18), some (vR 80), some (vR 148), some (vI 6), some (vI 0), none] [] _
  refine ab_goto (tgt := 23) d_LA_law_934 (by decide) ?_
  refine ab_iload d_LA_law_23 rfl ?_
  refine ab_aload_n d_LA_law_25 rfl ?_
  refine ab_alen (v := 6) d_LA_law_26 h0 (by first | decide | rfl) ?_
  refine ab_bipush (v := 6) d_LA_law_27 (by decide) ?_
  refine ab_isub d_LA_law_29 ?_
  refine ab_topi (y := 0) (by decide) ?_
  refine ab_icmp_gt (tgt := 937) d_LA_law_30 (by decide) (fun _ => ?_) (fun c => absurd c (by decide))
  refine ab_iconst (v := 1) d_LA_law_937 (by decide) ?_
  exact ab_iret (rt := .boolean) rfl (by decide) d_LA_law_938 (by rw [hQ])
set_option maxRecDepth 100000 in
set_option maxHeartbeats 4000000 in
theorem q_PW_over_0 {X : ab_X} {d : Nat} {G : ab_G}  (hlen : G.length = 149) (hsl : ab_slots G = 1890753) (h18 : G[18]? = some (ab_ob 0 [vR 19, vR 20, vR 22, vR 30, vR 31, vR 36, vR 37, vR 46, vR 51, vR 60, vR 69, vR 70, vR 72, vR 74, vR 76, vR 78, vI 0, vI 0])) : ab_F X d y_PW_over (.code y_PW_over b_PW_over 1 (some (.int))) [vR 18] G (fun o G2 => o = .returned (some (vI 0)) ∧ ab_fr [] G G2 ∧ G2.length = 149 ∧ ab_slots G2 = 1890753) := by
  refine ab_F_of (by decide +kernel) (Nat.le_of_ble_eq_true rfl) ?_
  obtain ⟨Q, hQ⟩ : ∃ z : Outcome → ab_G → Prop, z = (fun o G2 => o = .returned (some (vI 0)) ∧ ab_fr [] G G2 ∧ G2.length = 149 ∧ ab_slots G2 = 1890753) := ⟨_, rfl⟩
  rw [← hQ]
  change ab_W X (ab_pl y_PW_over b_PW_over 1 (some (.int))) d G 0 [some (vR 18)] [] Q
  have hfr : ab_fr [] G G := ab_fr.rf
  refine ab_aload_n d_PW_over_0 rfl ?_
  refine ab_getf (fs := [vR 19, vR 20, vR 22, vR 30, vR 31, vR 36, vR 37, vR 46, vR 51, vR 60, vR 69, vR 70, vR 72, vR 74, vR 76, vR 78, vI 0, vI 0]) f_PW_240 d_PW_over_1 h18 rfl ?_
  exact ab_iret (rt := .int) rfl rfl d_PW_over_4 (by rw [hQ]; exact ⟨rfl, hfr, hlen, hsl⟩)
set_option maxRecDepth 100000 in
set_option maxHeartbeats 4000000 in
theorem q_MO_over_0 {X : ab_X} {d : Nat} {G : ab_G}  (hlen : G.length = 149) (hsl : ab_slots G = 1890753) (h80 : G[80]? = some (ab_ob 12 (m_fv (vI 0) (vI 0) (vI 0) (vI 0) (vI 0) (vI 0) (vI 0) (vI 0) (vI 0) (vI 0) (vI 0) (vI 0) (vI (-1)) (vI 0) (vI 0) (vI 0) (vI 0) (vI 0) (vI 0) (vI 0) (vI 0) (vI 0) (vI 0) (vI 0) (vI 0) (vI 0) (vI 0) (vI 0) (vI 0) (vI 0) (vI 0) (vI 0) (vI 0) (vI 0) (vI 0)))) : ab_F X d y_MO_over (.code y_MO_over b_MO_over 1 (some (.int))) [vR 80] G (fun o G2 => o = .returned (some (vI 0)) ∧ ab_fr [80] G G2 ∧ G2.length = 149 ∧ ab_slots G2 = 1890753 ∧ G2[80]? = some (ab_ob 12 (m_fv (vI 0) (vI 0) (vI 0) (vI 0) (vI 0) (vI 0) (vI 0) (vI 0) (vI 0) (vI 0) (vI 0) (vI 0) (vI (-1)) (vI 0) (vI 0) (vI 0) (vI 0) (vI 0) (vI 0) (vI 0) (vI 0) (vI 0) (vI 0) (vI 0) (vI 0) (vI 0) (vI 0) (vI 0) (vI 0) (vI 0) (vI 0) (vI 0) (vI 0) (vI 0) (vI 0)))) := by
  refine ab_F_of (by decide +kernel) (Nat.le_of_ble_eq_true rfl) ?_
  obtain ⟨Q, hQ⟩ : ∃ z : Outcome → ab_G → Prop, z = (fun o G2 => o = .returned (some (vI 0)) ∧ ab_fr [80] G G2 ∧ G2.length = 149 ∧ ab_slots G2 = 1890753 ∧ G2[80]? = some (ab_ob 12 (m_fv (vI 0) (vI 0) (vI 0) (vI 0) (vI 0) (vI 0) (vI 0) (vI 0) (vI 0) (vI 0) (vI 0) (vI 0) (vI (-1)) (vI 0) (vI 0) (vI 0) (vI 0) (vI 0) (vI 0) (vI 0) (vI 0) (vI 0) (vI 0) (vI 0) (vI 0) (vI 0) (vI 0) (vI 0) (vI 0) (vI 0) (vI 0) (vI 0) (vI 0) (vI 0) (vI 0)))) := ⟨_, rfl⟩
  rw [← hQ]
  change ab_W X (ab_pl y_MO_over b_MO_over 1 (some (.int))) d G 0 [some (vR 80)] [] Q
  have hfr : ab_fr [80] G G := ab_fr.rf
  refine ab_aload_n d_MO_over_0 rfl ?_
  refine ab_iconst (v := 0) d_MO_over_1 (by decide) ?_
  refine ab_putf (fs := (m_fv (vI 0) (vI 0) (vI 0) (vI 0) (vI 0) (vI 0) (vI 0) (vI 0) (vI 0) (vI 0) (vI 0) (vI 0) (vI (-1)) (vI 0) (vI 0) (vI 0) (vI 0) (vI 0) (vI 0) (vI 0) (vI 0) (vI 0) (vI 0) (vI 0) (vI 0) (vI 0) (vI 0) (vI 0) (vI 0) (vI 0) (vI 0) (vI 0) (vI 0) (vI 0) (vI 0))) f_MO_220 (Or.inl rfl) d_MO_over_2 h80 (Nat.le_of_ble_eq_true rfl) (fun _ => ⟨rfl, rfl⟩) (by decide) ?_
  obtain ⟨G1, eG1⟩ : ∃ z : ab_G, z = List.set G 80 (ab_ob 12 (m_fv (vI 0) (vI 0) (vI 0) (vI 0) (vI 0) (vI 0) (vI 0) (vI 0) (vI 0) (vI 0) (vI 0) (vI 0) (vI (-1)) (vI 0) (vI 0) (vI 0) (vI 0) (vI 0) (vI 0) (vI 0) (vI 0) (vI 0) (vI 0) (vI 0) (vI 0) (vI 0) (vI 0) (vI 0) (vI 0) (vI 0) (vI 0) (vI 0) (vI 0) (vI 0) (vI 0))) := ⟨_, rfl⟩
  have hlen := ab_klen eG1 hlen
  have hsl := ab_ksl 102 eG1 h80 rfl rfl hsl
  have hfr := hfr.wr eG1 (by decide)
  have h80 := ab_kept eG1 h80
  change ab_W _ _ _ (List.set G 80 (ab_ob 12 (m_fv (vI 0) (vI 0) (vI 0) (vI 0) (vI 0) (vI 0) (vI 0) (vI 0) (vI 0) (vI 0) (vI 0) (vI 0) (vI (-1)) (vI 0) (vI 0) (vI 0) (vI 0) (vI 0) (vI 0) (vI 0) (vI 0) (vI 0) (vI 0) (vI 0) (vI 0) (vI 0) (vI 0) (vI 0) (vI 0) (vI 0) (vI 0) (vI 0) (vI 0) (vI 0) (vI 0)))) 5 [some (vR 80)] [] _
  rw [← eG1]
  refine ab_iconst (v := 0) d_MO_over_5 (by decide) ?_
  exact ab_iret (rt := .int) rfl rfl d_MO_over_6 (by rw [hQ]; exact ⟨rfl, hfr, hlen, hsl, h80⟩)
set_option maxRecDepth 100000 in
set_option maxHeartbeats 4000000 in
theorem lc_18 {X : ab_X} {d : Nat} {G : ab_G} {xs : Nat → Int32} (hlen : G.length = 149) (hsl : ab_slots G = 1890753) (h0 : G[0]? = some (ab_if 6 (xs))) (h18 : G[18]? = some (ab_ob 0 [vR 19, vR 20, vR 22, vR 30, vR 31, vR 36, vR 37, vR 46, vR 51, vR 60, vR 69, vR 70, vR 72, vR 74, vR 76, vR 78, vI 0, vI 0])) (h80 : G[80]? = some (ab_ob 12 (m_fv (vI 0) (vI 0) (vI 0) (vI 0) (vI 0) (vI 0) (vI 0) (vI 0) (vI 0) (vI 0) (vI 0) (vI 0) (vI (-1)) (vI 0) (vI 0) (vI 0) (vI 0) (vI 0) (vI 0) (vI 0) (vI 0) (vI 0) (vI 0) (vI 0) (vI 0) (vI 0) (vI 0) (vI 0) (vI 0) (vI 0) (vI 0) (vI 0) (vI 0) (vI 0) (vI 0)))) (hd : 1 ≤ d) : ab_W X ab_LW d G 918 [some (vR 0), some (vR 18), some (vR 80), some (vR 148), some (vI 0), none, none] [] (fun o _ => o = .returned (some (vI 1))) := by
  obtain ⟨Q, hQ⟩ : ∃ z : Outcome → ab_G → Prop, z = (fun o _ => o = .returned (some (vI 1))) := ⟨_, rfl⟩
  rw [← hQ]
  have hfr : ab_fr [80] G G := ab_fr.rf
  refine ab_aload_n d_LA_law_918 rfl ?_
  refine ab_callV (d' := d - 1) (as := []) (st := []) (r := _) (q_PW_over_0  hlen hsl h18) (fun o G2 h => ⟨_, h.1⟩) (by omega) m_PW_over ml_LA_116 im_PW_over se_PW_over c_PW h18 (Nat.le_of_ble_eq_true rfl) d_LA_law_919 rfl ?_
  intro v G1 hq
  obtain ⟨hv, hfk, hlen, hsl⟩ := hq
  cases hv
  have h0 := hfk.get (by decide) h0
  have h18 := hfk.get (by decide) h18
  have h80 := hfk.get (by decide) h80
  have hfr := hfr.cl hfk (by decide)
  change ab_W _ _ _ G1 922 [some (vR 0), some (vR 18), some (vR 80), some (vR 148), some (vI 0), none, none] [vI 0] _
  refine ab_aload_n d_LA_law_922 rfl ?_
  refine ab_callV (d' := d - 1) (as := []) (st := [vI 0]) (r := _) (q_MO_over_0  hlen hsl h80) (fun o G2 h => ⟨_, h.1⟩) (by omega) m_MO_over ml_LA_119 im_MO_over se_MO_over c_MO h80 (Nat.le_of_ble_eq_true rfl) d_LA_law_923 rfl ?_
  intro v G2 hq
  obtain ⟨hv, hfk, hlen, hsl, h80⟩ := hq
  cases hv
  have h0 := hfk.get (by decide) h0
  have h18 := hfk.get (by decide) h18
  have hfr := hfr.cl hfk (by decide)
  change ab_W _ _ _ G2 926 [some (vR 0), some (vR 18), some (vR 80), some (vR 148), some (vI 0), none, none] [vI 0, vI 0] _
  refine ab_icmp_eq (tgt := 931) d_LA_law_926 (by decide) (fun _ => ?_) (fun c => absurd c (by decide))
  refine ab_iinc (v := 6) d_LA_law_931 rfl (by decide) (Nat.le_of_ble_eq_true rfl) (Nat.le_of_ble_eq_true rfl) rfl ?_
  change ab_W _ _ _ G2 934 [some (vR 0), some (vR 18), some (vR 80), some (vR 148), some (vI 6), none, none] [] _
  refine ab_goto (tgt := 23) d_LA_law_934 (by decide) ?_
  refine ab_iload d_LA_law_23 rfl ?_
  refine ab_aload_n d_LA_law_25 rfl ?_
  refine ab_alen (v := 6) d_LA_law_26 h0 (by first | decide | rfl) ?_
  refine ab_bipush (v := 6) d_LA_law_27 (by decide) ?_
  refine ab_isub d_LA_law_29 ?_
  refine ab_topi (y := 0) (by decide) ?_
  refine ab_icmp_gt (tgt := 937) d_LA_law_30 (by decide) (fun _ => ?_) (fun c => absurd c (by decide))
  refine ab_iconst (v := 1) d_LA_law_937 (by decide) ?_
  exact ab_iret (rt := .boolean) rfl (by decide) d_LA_law_938 (by rw [hQ])
set_option maxRecDepth 100000 in
set_option maxHeartbeats 4000000 in
theorem lc_d {X : ab_X} {d : Nat} {G : ab_G} {xs : Nat → Int32} (hlen : G.length = 149) (hsl : ab_slots G = 1890753) (h0 : G[0]? = some (ab_if 6 (xs))) (hd : 0 ≤ d) : ab_W X ab_LW d G 931 [some (vR 0), some (vR 18), some (vR 80), some (vR 148), some (vI 0), none, none] [] (fun o _ => o = .returned (some (vI 1))) := by
  obtain ⟨Q, hQ⟩ : ∃ z : Outcome → ab_G → Prop, z = (fun o _ => o = .returned (some (vI 1))) := ⟨_, rfl⟩
  rw [← hQ]
  have hfr : ab_fr [] G G := ab_fr.rf
  refine ab_iinc (v := 6) d_LA_law_931 rfl (by decide) (Nat.le_of_ble_eq_true rfl) (Nat.le_of_ble_eq_true rfl) rfl ?_
  change ab_W _ _ _ G 934 [some (vR 0), some (vR 18), some (vR 80), some (vR 148), some (vI 6), none, none] [] _
  refine ab_goto (tgt := 23) d_LA_law_934 (by decide) ?_
  refine ab_iload d_LA_law_23 rfl ?_
  refine ab_aload_n d_LA_law_25 rfl ?_
  refine ab_alen (v := 6) d_LA_law_26 h0 (by first | decide | rfl) ?_
  refine ab_bipush (v := 6) d_LA_law_27 (by decide) ?_
  refine ab_isub d_LA_law_29 ?_
  refine ab_topi (y := 0) (by decide) ?_
  refine ab_icmp_gt (tgt := 937) d_LA_law_30 (by decide) (fun _ => ?_) (fun c => absurd c (by decide))
  refine ab_iconst (v := 1) d_LA_law_937 (by decide) ?_
  exact ab_iret (rt := .boolean) rfl (by decide) d_LA_law_938 (by rw [hQ])
