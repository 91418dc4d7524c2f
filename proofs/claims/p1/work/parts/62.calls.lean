set_option maxRecDepth 100000 in
set_option maxHeartbeats 4000000 in
theorem s_MO_which_133_9 {X : ab_X} {d : Nat} {G : ab_G} {Q : Outcome → ab_G → Prop} {xs : Nat → Int32} (hlen : G.length = 149) (hsl : ab_slots G = 1890753) (h80 : G[80]? = some (ab_ob 12 (m_fv (vI 0) (vI 0) (vI 0) (vI 0) (vI 0) (vI 0) (vI 0) (vI 0) (vI 0) (vI 0) (vI 0) (vI 0) (vI (-1)) (vI 0) (vI 0) (vI 0) (vI 0) (vI 0) (vI 0) (vI 0) (vI 0) (vI 0) (vI 0) (vI 0) (vI 0) (vI 0) (vI 0) (vI 0) (vI 0) (vI 0) (vI 0) (vI 0) (vI 0) (vI 0) (vI 0)))) (h112 : G[112]? = some (ab_zf 6 ((fun _ => 0)))) (hk : ∀ o G2, (o = .returned (some (vI 0)) ∧ ab_fr [] G G2 ∧ G2.length = 149 ∧ ab_slots G2 = 1890753) → Q o G2) : ab_W X (ab_pl y_MO_which b_MO_which 7 (some (.int))) d G 133 [some (vR 80), some (vI (xs 1)), some (vI 1), some (vI 0), some (vI 3), none, none] [] Q := by
  have hfr : ab_fr [] G G := ab_fr.rf
  refine ab_iinc (v := 4) d_MO_which_133 rfl (by decide) (Nat.le_of_ble_eq_true rfl) (Nat.le_of_ble_eq_true rfl) rfl ?_
  change ab_W _ _ _ G 136 [some (vR 80), some (vI (xs 1)), some (vI 1), some (vI 0), some (vI 4), none, none] [] _
  refine ab_goto (tgt := 10) d_MO_which_136 (by decide) ?_
  refine ab_iload d_MO_which_10 rfl ?_
  refine ab_bipush (v := 6) d_MO_which_12 (by decide) ?_
  refine ab_icmp_ge (tgt := 139) d_MO_which_14 (by decide) (fun c => absurd c (by decide)) (fun _ => ?_)
  refine ab_iload_n d_MO_which_17 rfl ?_
  refine ab_iload d_MO_which_18 rfl ?_
  refine ab_ishr d_MO_which_20 ?_
  refine ab_iconst (v := 1) d_MO_which_21 (by decide) ?_
  refine ab_iand d_MO_which_22 ?_
  refine ab_if_eq (tgt := 133) d_MO_which_23 (by decide) (fun c0 => ?_) (fun c0 => ?_)
  · refine s_MO_which_133_8 (xs := xs) hlen hsl h80 h112 (fun o Gz hq => ?_)
    obtain ⟨hv, hfk, hlen, hsl⟩ := hq
    have h80 := hfk.get (by decide) h80
    have h112 := hfk.get (by decide) h112
    have hfr := hfr.cl hfk (by decide)
    exact hk _ _ ⟨hv, hfr, hlen, hsl⟩
  · refine ab_aload_n d_MO_which_26 rfl ?_
    refine ab_getf (fs := (m_fv (vI 0) (vI 0) (vI 0) (vI 0) (vI 0) (vI 0) (vI 0) (vI 0) (vI 0) (vI 0) (vI 0) (vI 0) (vI (-1)) (vI 0) (vI 0) (vI 0) (vI 0) (vI 0) (vI 0) (vI 0) (vI 0) (vI 0) (vI 0) (vI 0) (vI 0) (vI 0) (vI 0) (vI 0) (vI 0) (vI 0) (vI 0) (vI 0) (vI 0) (vI 0) (vI 0))) f_MO_109 d_MO_which_27 h80 rfl ?_
    refine ab_iload d_MO_which_30 rfl ?_
    refine ab_zald d_MO_which_32 h112 (by unfold vp_in; decide) ?_
    refine ab_topi (y := 0) rfl ?_
    refine ab_if_ne (tgt := 39) d_MO_which_33 (by decide) (fun c => absurd c (by decide)) (fun _ => ?_)
    refine ab_goto (tgt := 133) d_MO_which_36 (by decide) ?_
    refine s_MO_which_133_8 (xs := xs) hlen hsl h80 h112 (fun o Gz hq => ?_)
    obtain ⟨hv, hfk, hlen, hsl⟩ := hq
    have h80 := hfk.get (by decide) h80
    have h112 := hfk.get (by decide) h112
    have hfr := hfr.cl hfk (by decide)
    exact hk _ _ ⟨hv, hfr, hlen, hsl⟩
set_option maxRecDepth 100000 in
set_option maxHeartbeats 4000000 in
theorem s_MO_which_133_10 {X : ab_X} {d : Nat} {G : ab_G} {Q : Outcome → ab_G → Prop} {xs : Nat → Int32} (hlen : G.length = 149) (hsl : ab_slots G = 1890753) (h80 : G[80]? = some (ab_ob 12 (m_fv (vI 0) (vI 0) (vI 0) (vI 0) (vI 0) (vI 0) (vI 0) (vI 0) (vI 0) (vI 0) (vI 0) (vI 0) (vI (-1)) (vI 0) (vI 0) (vI 0) (vI 0) (vI 0) (vI 0) (vI 0) (vI 0) (vI 0) (vI 0) (vI 0) (vI 0) (vI 0) (vI 0) (vI 0) (vI 0) (vI 0) (vI 0) (vI 0) (vI 0) (vI 0) (vI 0)))) (h112 : G[112]? = some (ab_zf 6 ((fun _ => 0)))) (hk : ∀ o G2, (o = .returned (some (vI 0)) ∧ ab_fr [] G G2 ∧ G2.length = 149 ∧ ab_slots G2 = 1890753) → Q o G2) : ab_W X (ab_pl y_MO_which b_MO_which 7 (some (.int))) d G 133 [some (vR 80), some (vI (xs 1)), some (vI 1), some (vI 0), some (vI 2), none, none] [] Q := by
  have hfr : ab_fr [] G G := ab_fr.rf
  refine ab_iinc (v := 3) d_MO_which_133 rfl (by decide) (Nat.le_of_ble_eq_true rfl) (Nat.le_of_ble_eq_true rfl) rfl ?_
  change ab_W _ _ _ G 136 [some (vR 80), some (vI (xs 1)), some (vI 1), some (vI 0), some (vI 3), none, none] [] _
  refine ab_goto (tgt := 10) d_MO_which_136 (by decide) ?_
  refine ab_iload d_MO_which_10 rfl ?_
  refine ab_bipush (v := 6) d_MO_which_12 (by decide) ?_
  refine ab_icmp_ge (tgt := 139) d_MO_which_14 (by decide) (fun c => absurd c (by decide)) (fun _ => ?_)
  refine ab_iload_n d_MO_which_17 rfl ?_
  refine ab_iload d_MO_which_18 rfl ?_
  refine ab_ishr d_MO_which_20 ?_
  refine ab_iconst (v := 1) d_MO_which_21 (by decide) ?_
  refine ab_iand d_MO_which_22 ?_
  refine ab_if_eq (tgt := 133) d_MO_which_23 (by decide) (fun c0 => ?_) (fun c0 => ?_)
  · refine s_MO_which_133_9 (xs := xs) hlen hsl h80 h112 (fun o Gz hq => ?_)
    obtain ⟨hv, hfk, hlen, hsl⟩ := hq
    have h80 := hfk.get (by decide) h80
    have h112 := hfk.get (by decide) h112
    have hfr := hfr.cl hfk (by decide)
    exact hk _ _ ⟨hv, hfr, hlen, hsl⟩
  · refine ab_aload_n d_MO_which_26 rfl ?_
    refine ab_getf (fs := (m_fv (vI 0) (vI 0) (vI 0) (vI 0) (vI 0) (vI 0) (vI 0) (vI 0) (vI 0) (vI 0) (vI 0) (vI 0) (vI (-1)) (vI 0) (vI 0) (vI 0) (vI 0) (vI 0) (vI 0) (vI 0) (vI 0) (vI 0) (vI 0) (vI 0) (vI 0) (vI 0) (vI 0) (vI 0) (vI 0) (vI 0) (vI 0) (vI 0) (vI 0) (vI 0) (vI 0))) f_MO_109 d_MO_which_27 h80 rfl ?_
    refine ab_iload d_MO_which_30 rfl ?_
    refine ab_zald d_MO_which_32 h112 (by unfold vp_in; decide) ?_
    refine ab_topi (y := 0) rfl ?_
    refine ab_if_ne (tgt := 39) d_MO_which_33 (by decide) (fun c => absurd c (by decide)) (fun _ => ?_)
    refine ab_goto (tgt := 133) d_MO_which_36 (by decide) ?_
    refine s_MO_which_133_9 (xs := xs) hlen hsl h80 h112 (fun o Gz hq => ?_)
    obtain ⟨hv, hfk, hlen, hsl⟩ := hq
    have h80 := hfk.get (by decide) h80
    have h112 := hfk.get (by decide) h112
    have hfr := hfr.cl hfk (by decide)
    exact hk _ _ ⟨hv, hfr, hlen, hsl⟩
set_option maxRecDepth 100000 in
set_option maxHeartbeats 4000000 in
theorem s_MO_which_133_11 {X : ab_X} {d : Nat} {G : ab_G} {Q : Outcome → ab_G → Prop} {xs : Nat → Int32} (hlen : G.length = 149) (hsl : ab_slots G = 1890753) (h80 : G[80]? = some (ab_ob 12 (m_fv (vI 0) (vI 0) (vI 0) (vI 0) (vI 0) (vI 0) (vI 0) (vI 0) (vI 0) (vI 0) (vI 0) (vI 0) (vI (-1)) (vI 0) (vI 0) (vI 0) (vI 0) (vI 0) (vI 0) (vI 0) (vI 0) (vI 0) (vI 0) (vI 0) (vI 0) (vI 0) (vI 0) (vI 0) (vI 0) (vI 0) (vI 0) (vI 0) (vI 0) (vI 0) (vI 0)))) (h112 : G[112]? = some (ab_zf 6 ((fun _ => 0)))) (hk : ∀ o G2, (o = .returned (some (vI 0)) ∧ ab_fr [] G G2 ∧ G2.length = 149 ∧ ab_slots G2 = 1890753) → Q o G2) : ab_W X (ab_pl y_MO_which b_MO_which 7 (some (.int))) d G 133 [some (vR 80), some (vI (xs 1)), some (vI 1), some (vI 0), some (vI 1), none, none] [] Q := by
  have hfr : ab_fr [] G G := ab_fr.rf
  refine ab_iinc (v := 2) d_MO_which_133 rfl (by decide) (Nat.le_of_ble_eq_true rfl) (Nat.le_of_ble_eq_true rfl) rfl ?_
  change ab_W _ _ _ G 136 [some (vR 80), some (vI (xs 1)), some (vI 1), some (vI 0), some (vI 2), none, none] [] _
  refine ab_goto (tgt := 10) d_MO_which_136 (by decide) ?_
  refine ab_iload d_MO_which_10 rfl ?_
  refine ab_bipush (v := 6) d_MO_which_12 (by decide) ?_
  refine ab_icmp_ge (tgt := 139) d_MO_which_14 (by decide) (fun c => absurd c (by decide)) (fun _ => ?_)
  refine ab_iload_n d_MO_which_17 rfl ?_
  refine ab_iload d_MO_which_18 rfl ?_
  refine ab_ishr d_MO_which_20 ?_
  refine ab_iconst (v := 1) d_MO_which_21 (by decide) ?_
  refine ab_iand d_MO_which_22 ?_
  refine ab_if_eq (tgt := 133) d_MO_which_23 (by decide) (fun c0 => ?_) (fun c0 => ?_)
  · refine s_MO_which_133_10 (xs := xs) hlen hsl h80 h112 (fun o Gz hq => ?_)
    obtain ⟨hv, hfk, hlen, hsl⟩ := hq
    have h80 := hfk.get (by decide) h80
    have h112 := hfk.get (by decide) h112
    have hfr := hfr.cl hfk (by decide)
    exact hk _ _ ⟨hv, hfr, hlen, hsl⟩
  · refine ab_aload_n d_MO_which_26 rfl ?_
    refine ab_getf (fs := (m_fv (vI 0) (vI 0) (vI 0) (vI 0) (vI 0) (vI 0) (vI 0) (vI 0) (vI 0) (vI 0) (vI 0) (vI 0) (vI (-1)) (vI 0) (vI 0) (vI 0) (vI 0) (vI 0) (vI 0) (vI 0) (vI 0) (vI 0) (vI 0) (vI 0) (vI 0) (vI 0) (vI 0) (vI 0) (vI 0) (vI 0) (vI 0) (vI 0) (vI 0) (vI 0) (vI 0))) f_MO_109 d_MO_which_27 h80 rfl ?_
    refine ab_iload d_MO_which_30 rfl ?_
    refine ab_zald d_MO_which_32 h112 (by unfold vp_in; decide) ?_
    refine ab_topi (y := 0) rfl ?_
    refine ab_if_ne (tgt := 39) d_MO_which_33 (by decide) (fun c => absurd c (by decide)) (fun _ => ?_)
    refine ab_goto (tgt := 133) d_MO_which_36 (by decide) ?_
    refine s_MO_which_133_10 (xs := xs) hlen hsl h80 h112 (fun o Gz hq => ?_)
    obtain ⟨hv, hfk, hlen, hsl⟩ := hq
    have h80 := hfk.get (by decide) h80
    have h112 := hfk.get (by decide) h112
    have hfr := hfr.cl hfk (by decide)
    exact hk _ _ ⟨hv, hfr, hlen, hsl⟩
set_option maxRecDepth 100000 in
set_option maxHeartbeats 4000000 in
theorem s_MO_which_133_12 {X : ab_X} {d : Nat} {G : ab_G} {Q : Outcome → ab_G → Prop} {xs : Nat → Int32} (hlen : G.length = 149) (hsl : ab_slots G = 1890753) (h80 : G[80]? = some (ab_ob 12 (m_fv (vI 0) (vI 0) (vI 0) (vI 0) (vI 0) (vI 0) (vI 0) (vI 0) (vI 0) (vI 0) (vI 0) (vI 0) (vI (-1)) (vI 0) (vI 0) (vI 0) (vI 0) (vI 0) (vI 0) (vI 0) (vI 0) (vI 0) (vI 0) (vI 0) (vI 0) (vI 0) (vI 0) (vI 0) (vI 0) (vI 0) (vI 0) (vI 0) (vI 0) (vI 0) (vI 0)))) (h112 : G[112]? = some (ab_zf 6 ((fun _ => 0)))) (hk : ∀ o G2, (o = .returned (some (vI 0)) ∧ ab_fr [] G G2 ∧ G2.length = 149 ∧ ab_slots G2 = 1890753) → Q o G2) : ab_W X (ab_pl y_MO_which b_MO_which 7 (some (.int))) d G 133 [some (vR 80), some (vI (xs 1)), some (vI 1), some (vI 0), some (vI 0), none, none] [] Q := by
  have hfr : ab_fr [] G G := ab_fr.rf
  refine ab_iinc (v := 1) d_MO_which_133 rfl (by decide) (Nat.le_of_ble_eq_true rfl) (Nat.le_of_ble_eq_true rfl) rfl ?_
  change ab_W _ _ _ G 136 [some (vR 80), some (vI (xs 1)), some (vI 1), some (vI 0), some (vI 1), none, none] [] _
  refine ab_goto (tgt := 10) d_MO_which_136 (by decide) ?_
  refine ab_iload d_MO_which_10 rfl ?_
  refine ab_bipush (v := 6) d_MO_which_12 (by decide) ?_
  refine ab_icmp_ge (tgt := 139) d_MO_which_14 (by decide) (fun c => absurd c (by decide)) (fun _ => ?_)
  refine ab_iload_n d_MO_which_17 rfl ?_
  refine ab_iload d_MO_which_18 rfl ?_
  refine ab_ishr d_MO_which_20 ?_
  refine ab_iconst (v := 1) d_MO_which_21 (by decide) ?_
  refine ab_iand d_MO_which_22 ?_
  refine ab_if_eq (tgt := 133) d_MO_which_23 (by decide) (fun c0 => ?_) (fun c0 => ?_)
  · refine s_MO_which_133_11 (xs := xs) hlen hsl h80 h112 (fun o Gz hq => ?_)
    obtain ⟨hv, hfk, hlen, hsl⟩ := hq
    have h80 := hfk.get (by decide) h80
    have h112 := hfk.get (by decide) h112
    have hfr := hfr.cl hfk (by decide)
    exact hk _ _ ⟨hv, hfr, hlen, hsl⟩
  · refine ab_aload_n d_MO_which_26 rfl ?_
    refine ab_getf (fs := (m_fv (vI 0) (vI 0) (vI 0) (vI 0) (vI 0) (vI 0) (vI 0) (vI 0) (vI 0) (vI 0) (vI 0) (vI 0) (vI (-1)) (vI 0) (vI 0) (vI 0) (vI 0) (vI 0) (vI 0) (vI 0) (vI 0) (vI 0) (vI 0) (vI 0) (vI 0) (vI 0) (vI 0) (vI 0) (vI 0) (vI 0) (vI 0) (vI 0) (vI 0) (vI 0) (vI 0))) f_MO_109 d_MO_which_27 h80 rfl ?_
    refine ab_iload d_MO_which_30 rfl ?_
    refine ab_zald d_MO_which_32 h112 (by unfold vp_in; decide) ?_
    refine ab_topi (y := 0) rfl ?_
    refine ab_if_ne (tgt := 39) d_MO_which_33 (by decide) (fun c => absurd c (by decide)) (fun _ => ?_)
    refine ab_goto (tgt := 133) d_MO_which_36 (by decide) ?_
    refine s_MO_which_133_11 (xs := xs) hlen hsl h80 h112 (fun o Gz hq => ?_)
    obtain ⟨hv, hfk, hlen, hsl⟩ := hq
    have h80 := hfk.get (by decide) h80
    have h112 := hfk.get (by decide) h112
    have hfr := hfr.cl hfk (by decide)
    exact hk _ _ ⟨hv, hfr, hlen, hsl⟩
set_option maxRecDepth 100000 in
set_option maxHeartbeats 4000000 in
theorem q_MO_which_13 {X : ab_X} {d : Nat} {G : ab_G} {xs : Nat → Int32} (hlen : G.length = 149) (hsl : ab_slots G = 1890753) (h80 : G[80]? = some (ab_ob 12 (m_fv (vI 0) (vI 0) (vI 0) (vI 0) (vI 0) (vI 0) (vI 0) (vI 0) (vI 0) (vI 0) (vI 0) (vI 0) (vI (-1)) (vI 0) (vI 0) (vI 0) (vI 0) (vI 0) (vI 0) (vI 0) (vI 0) (vI 0) (vI 0) (vI 0) (vI 0) (vI 0) (vI 0) (vI 0) (vI 0) (vI 0) (vI 0) (vI 0) (vI 0) (vI 0) (vI 0)))) (h112 : G[112]? = some (ab_zf 6 ((fun _ => 0)))) : ab_F X d y_MO_which (.code y_MO_which b_MO_which 7 (some (.int))) [vR 80, vI (xs 1), vI 1] G (fun o G2 => o = .returned (some (vI 0)) ∧ ab_fr [80] G G2 ∧ G2.length = 149 ∧ ab_slots G2 = 1890753 ∧ G2[80]? = some (ab_ob 12 (m_fv (vI 0) (vI 0) (vI 0) (vI 0) (vI 0) (vI 0) (vI 0) (vI 0) (vI 0) (vI 0) (vI 0) (vI 0) (vI (-1)) (vI 0) (vI 0) (vI 0) (vI 0) (vI 0) (vI 0) (vI 0) (vI 0) (vI 0) (vI 0) (vI 0) (vI 0) (vI 0) (vI 0) (vI 0) (vI 0) (vI 0) (vI 0) (vI 0) (vI 0) (vI 0) (vI 0)))) := by
  refine ab_F_of (by decide +kernel) (Nat.le_of_ble_eq_true rfl) ?_
  obtain ⟨Q, hQ⟩ : ∃ z : Outcome → ab_G → Prop, z = (fun o G2 => o = .returned (some (vI 0)) ∧ ab_fr [80] G G2 ∧ G2.length = 149 ∧ ab_slots G2 = 1890753 ∧ G2[80]? = some (ab_ob 12 (m_fv (vI 0) (vI 0) (vI 0) (vI 0) (vI 0) (vI 0) (vI 0) (vI 0) (vI 0) (vI 0) (vI 0) (vI 0) (vI (-1)) (vI 0) (vI 0) (vI 0) (vI 0) (vI 0) (vI 0) (vI 0) (vI 0) (vI 0) (vI 0) (vI 0) (vI 0) (vI 0) (vI 0) (vI 0) (vI 0) (vI 0) (vI 0) (vI 0) (vI 0) (vI 0) (vI 0)))) := ⟨_, rfl⟩
  rw [← hQ]
  change ab_W X (ab_pl y_MO_which b_MO_which 7 (some (.int))) d G 0 [some (vR 80), some (vI (xs 1)), some (vI 1), none, none, none, none] [] Q
  have hfr : ab_fr [80] G G := ab_fr.rf
  refine ab_aload_n d_MO_which_0 rfl ?_
  refine ab_iconst (v := 0) d_MO_which_1 (by decide) ?_
  refine ab_putf (fs := (m_fv (vI 0) (vI 0) (vI 0) (vI 0) (vI 0) (vI 0) (vI 0) (vI 0) (vI 0) (vI 0) (vI 0) (vI 0) (vI (-1)) (vI 0) (vI 0) (vI 0) (vI 0) (vI 0) (vI 0) (vI 0) (vI 0) (vI 0) (vI 0) (vI 0) (vI 0) (vI 0) (vI 0) (vI 0) (vI 0) (vI 0) (vI 0) (vI 0) (vI 0) (vI 0) (vI 0))) f_MO_220 (Or.inl rfl) d_MO_which_2 h80 (Nat.le_of_ble_eq_true rfl) (fun _ => ⟨rfl, rfl⟩) (by decide) ?_
  obtain ⟨G1, eG1⟩ : ∃ z : ab_G, z = List.set G 80 (ab_ob 12 (m_fv (vI 0) (vI 0) (vI 0) (vI 0) (vI 0) (vI 0) (vI 0) (vI 0) (vI 0) (vI 0) (vI 0) (vI 0) (vI (-1)) (vI 0) (vI 0) (vI 0) (vI 0) (vI 0) (vI 0) (vI 0) (vI 0) (vI 0) (vI 0) (vI 0) (vI 0) (vI 0) (vI 0) (vI 0) (vI 0) (vI 0) (vI 0) (vI 0) (vI 0) (vI 0) (vI 0))) := ⟨_, rfl⟩
  have h112 := ab_keep eG1 (by decide) h112
  have hlen := ab_klen eG1 hlen
  have hsl := ab_ksl 102 eG1 h80 rfl rfl hsl
  have hfr := hfr.wr eG1 (by decide)
  have h80 := ab_kept eG1 h80
  change ab_W _ _ _ (List.set G 80 (ab_ob 12 (m_fv (vI 0) (vI 0) (vI 0) (vI 0) (vI 0) (vI 0) (vI 0) (vI 0) (vI 0) (vI 0) (vI 0) (vI 0) (vI (-1)) (vI 0) (vI 0) (vI 0) (vI 0) (vI 0) (vI 0) (vI 0) (vI 0) (vI 0) (vI 0) (vI 0) (vI 0) (vI 0) (vI 0) (vI 0) (vI 0) (vI 0) (vI 0) (vI 0) (vI 0) (vI 0) (vI 0)))) 5 [some (vR 80), some (vI (xs 1)), some (vI 1), none, none, none, none] [] _
  rw [← eG1]
  refine ab_iconst (v := 0) d_MO_which_5 (by decide) ?_
  refine ab_istore_n d_MO_which_6 (Nat.le_of_ble_eq_true rfl) (Nat.le_of_ble_eq_true rfl) rfl ?_
  change ab_W _ _ _ G1 7 [some (vR 80), some (vI (xs 1)), some (vI 1), some (vI 0), none, none, none] [] _
  refine ab_iconst (v := 0) d_MO_which_7 (by decide) ?_
  refine ab_istore d_MO_which_8 (Nat.le_of_ble_eq_true rfl) (Nat.le_of_ble_eq_true rfl) rfl ?_
  change ab_W _ _ _ G1 10 [some (vR 80), some (vI (xs 1)), some (vI 1), some (vI 0), some (vI 0), none, none] [] _
  refine ab_iload d_MO_which_10 rfl ?_
  refine ab_bipush (v := 6) d_MO_which_12 (by decide) ?_
  refine ab_icmp_ge (tgt := 139) d_MO_which_14 (by decide) (fun c => absurd c (by decide)) (fun _ => ?_)
  refine ab_iload_n d_MO_which_17 rfl ?_
  refine ab_iload d_MO_which_18 rfl ?_
  refine ab_ishr d_MO_which_20 ?_
  refine ab_iconst (v := 1) d_MO_which_21 (by decide) ?_
  refine ab_iand d_MO_which_22 ?_
  refine ab_if_eq (tgt := 133) d_MO_which_23 (by decide) (fun c0 => ?_) (fun c0 => ?_)
  · refine s_MO_which_133_12 (xs := xs) hlen hsl h80 h112 (fun o Gz hq => ?_)
    obtain ⟨hv, hfk, hlen, hsl⟩ := hq
    have h80 := hfk.get (by decide) h80
    have h112 := hfk.get (by decide) h112
    have hfr := hfr.cl hfk (by decide)
    rw [hQ]; exact ⟨hv, hfr, hlen, hsl, h80⟩
  · refine ab_aload_n d_MO_which_26 rfl ?_
    refine ab_getf (fs := (m_fv (vI 0) (vI 0) (vI 0) (vI 0) (vI 0) (vI 0) (vI 0) (vI 0) (vI 0) (vI 0) (vI 0) (vI 0) (vI (-1)) (vI 0) (vI 0) (vI 0) (vI 0) (vI 0) (vI 0) (vI 0) (vI 0) (vI 0) (vI 0) (vI 0) (vI 0) (vI 0) (vI 0) (vI 0) (vI 0) (vI 0) (vI 0) (vI 0) (vI 0) (vI 0) (vI 0))) f_MO_109 d_MO_which_27 h80 rfl ?_
    refine ab_iload d_MO_which_30 rfl ?_
    refine ab_zald d_MO_which_32 h112 (by unfold vp_in; decide) ?_
    refine ab_topi (y := 0) rfl ?_
    refine ab_if_ne (tgt := 39) d_MO_which_33 (by decide) (fun c => absurd c (by decide)) (fun _ => ?_)
    refine ab_goto (tgt := 133) d_MO_which_36 (by decide) ?_
    refine s_MO_which_133_12 (xs := xs) hlen hsl h80 h112 (fun o Gz hq => ?_)
    obtain ⟨hv, hfk, hlen, hsl⟩ := hq
    have h80 := hfk.get (by decide) h80
    have h112 := hfk.get (by decide) h112
    have hfr := hfr.cl hfk (by decide)
    rw [hQ]; exact ⟨hv, hfr, hlen, hsl, h80⟩
set_option maxRecDepth 100000 in
set_option maxHeartbeats 4000000 in
theorem lc_14 {X : ab_X} {d : Nat} {G : ab_G} {xs : Nat → Int32} (hlen : G.length = 149) (hsl : ab_slots G = 1890753) (h0 : G[0]? = some (ab_if 6 (xs))) (h18 : G[18]? = some (ab_ob 0 [vR 19, vR 20, vR 22, vR 30, vR 31, vR 36, vR 37, vR 46, vR 51, vR 60, vR 69, vR 70, vR 72, vR 74, vR 76, vR 78, vI 0, vI 0])) (h30 : G[30]? = some (.inl (3, 6, .inr (.inr (.inr (.inr (fun _ => none))))))) (h31 : G[31]? = some (ab_ob 9 [vR 32, vR 33, vR 34, vR 35, vI 0])) (h37 : G[37]? = some (ab_ob 11 [vR 38, vR 39, vR 40, vR 41, vR 42, vR 43, vI 0, vI 0, vR 44, vI 0, vR 45, vI 0, vN, vN, vI 0, vI 0, vJ 0])) (h46 : G[46]? = some (ab_ob 2 [vR 47, vR 48, vR 49, vI 0, vI 0, vR 50, vI 0, vI 0, vI 0, vI 0, vN, vN, vJ 0])) (h51 : G[51]? = some (ab_ob 3 [vR 52, vR 53, vR 54, vR 55, vR 57, vR 58, vR 59, vI 0, vI 0, vI 0, vN, vN, vI 0, vI 0, vJ 0])) (h60 : G[60]? = some (ab_ob 8 [vI 32, vN, vI 0, vI 0, vR 61, vI 0, vR 62, vR 63, vR 64, vR 65, vI 0, vR 66, vI 0, vR 67, vI 0, vR 68, vI 0, vJ 0])) (h80 : G[80]? = some (ab_ob 12 (m_fv (vI 0) (vI 0) (vI 0) (vI 0) (vI 0) (vI 0) (vI 0) (vI 0) (vI 0) (vI 0) (vI 0) (vI 0) (vI (-1)) (vI 0) (vI 0) (vI 0) (vI 0) (vI 0) (vI 0) (vI 0) (vI 0) (vI 0) (vI 0) (vI 0) (vI 0) (vI 0) (vI 0) (vI 0) (vI 0) (vI 0) (vI 0) (vI 0) (vI 0) (vI 0) (vI 0)))) (h112 : G[112]? = some (ab_zf 6 ((fun _ => 0)))) (hd : 2 ≤ d) : ab_W X ab_LW d G 791 [some (vR 0), some (vR 18), some (vR 80), some (vR 148), some (vI 0), none, none] [] (fun o _ => o = .returned (some (vI 1))) := by
  obtain ⟨Q, hQ⟩ : ∃ z : Outcome → ab_G → Prop, z = (fun o _ => o = .returned (some (vI 1))) := ⟨_, rfl⟩
  rw [← hQ]
  have hfr : ab_fr [37, 46, 51, 60, 80] G G := ab_fr.rf
  refine ab_aload_n d_LA_law_791 rfl ?_
  refine ab_aload_n d_LA_law_792 rfl ?_
  refine ab_iload d_LA_law_793 rfl ?_
  refine ab_iconst (v := 1) d_LA_law_795 (by decide) ?_
  refine ab_iadd d_LA_law_796 ?_
  refine ab_topi (y := 1) (by decide) ?_
  refine ab_iald d_LA_law_797 h0 (by unfold vp_in; decide) ?_
  refine ab_topi (y := (xs 1)) rfl ?_
  refine ab_aload_n d_LA_law_798 rfl ?_
  refine ab_iload d_LA_law_799 rfl ?_
  refine ab_iconst (v := 2) d_LA_law_801 (by decide) ?_
  refine ab_iadd d_LA_law_802 ?_
  refine ab_topi (y := 2) (by decide) ?_
  refine ab_iald d_LA_law_803 h0 (by unfold vp_in; decide) ?_
  refine ab_topi (y := (xs 2)) rfl ?_
  refine ab_if_eq (tgt := 811) d_LA_law_804 (by decide) (fun c0 => ?_) (fun c0 => ?_)
  · refine ab_iconst (v := 0) d_LA_law_811 (by decide) ?_
    refine ab_callV (d' := d - 1) (as := [vI (xs 1), vI 0]) (st := []) (r := _) (q_PW_which_0 (xs := xs) hlen hsl h18 h30 h31 h37 h46 h51 h60 (by omega)) (fun o G2 h => ⟨_, h.1⟩) (by omega) m_PW_which ml_LA_99 im_PW_which se_PW_which c_PW h18 (Nat.le_of_ble_eq_true rfl) d_LA_law_812 rfl ?_
    intro v G1 hq
    obtain ⟨hv, hfk, hlen, hsl, h37, h46, h51, h60⟩ := hq
    cases hv
    have h0 := hfk.get (by decide) h0
    have h18 := hfk.get (by decide) h18
    have h30 := hfk.get (by decide) h30
    have h31 := hfk.get (by decide) h31
    have h80 := hfk.get (by decide) h80
    have h112 := hfk.get (by decide) h112
    have hfr := hfr.cl hfk (by decide)
    change ab_W _ _ _ G1 815 [some (vR 0), some (vR 18), some (vR 80), some (vR 148), some (vI 0), none, none] [vI 0] _
    refine ab_aload_n d_LA_law_815 rfl ?_
    refine ab_aload_n d_LA_law_816 rfl ?_
    refine ab_iload d_LA_law_817 rfl ?_
    refine ab_iconst (v := 1) d_LA_law_819 (by decide) ?_
    refine ab_iadd d_LA_law_820 ?_
    refine ab_topi (y := 1) (by decide) ?_
    refine ab_iald d_LA_law_821 h0 (by unfold vp_in; decide) ?_
    refine ab_topi (y := (xs 1)) rfl ?_
    refine ab_aload_n d_LA_law_822 rfl ?_
    refine ab_iload d_LA_law_823 rfl ?_
    refine ab_iconst (v := 2) d_LA_law_825 (by decide) ?_
    refine ab_iadd d_LA_law_826 ?_
    refine ab_topi (y := 2) (by decide) ?_
    refine ab_iald d_LA_law_827 h0 (by unfold vp_in; decide) ?_
    refine ab_topi (y := (xs 2)) rfl ?_
    refine ab_if_eq (tgt := 835) d_LA_law_828 (by decide) (fun c1 => ?_) (fun c1 => ?_)
    · refine ab_iconst (v := 0) d_LA_law_835 (by decide) ?_
      refine ab_callV (d' := d - 1) (as := [vI (xs 1), vI 0]) (st := [vI 0]) (r := _) (q_MO_which_6 (xs := xs) hlen hsl h80 h112) (fun o G2 h => ⟨_, h.1⟩) (by omega) m_MO_which ml_LA_103 im_MO_which se_MO_which c_MO h80 (Nat.le_of_ble_eq_true rfl) d_LA_law_836 rfl ?_
      intro v G2 hq
      obtain ⟨hv, hfk, hlen, hsl, h80⟩ := hq
      cases hv
      have h0 := hfk.get (by decide) h0
      have h18 := hfk.get (by decide) h18
      have h30 := hfk.get (by decide) h30
      have h31 := hfk.get (by decide) h31
      have h37 := hfk.get (by decide) h37
      have h46 := hfk.get (by decide) h46
      have h51 := hfk.get (by decide) h51
      have h60 := hfk.get (by decide) h60
      have h112 := hfk.get (by decide) h112
      have hfr := hfr.cl hfk (by decide)
      change ab_W _ _ _ G2 839 [some (vR 0), some (vR 18), some (vR 80), some (vR 148), some (vI 0), none, none] [vI 0, vI 0] _
      refine ab_icmp_eq (tgt := 931) d_LA_law_839 (by decide) (fun _ => ?_) (fun c => absurd c (by decide))
      refine ab_iinc (v := 6) d_LA_law_931 rfl (by decide) (Nat.le_of_ble_eq_true rfl) (Nat.le_of_ble_eq_true rfl) rfl ?_
      change ab_W _ _ _ G2 934 [some (vR 0), some (vR 18), some (vR 80), some (vR 148), some (vI 6), none, none] [] _
      refine ab_goto (tgt := 23) d_LA_law_934 (by decide) ?_
      refine ab_iload d_LA_law_23 rfl ?_
      refine ab_aload_n d_LA_law_25 rfl ?_
      refine ab_alen (v := 6) d_LA_law_26 h0 (by first | decide | rfl) ?_
      refine ab_bipush (v := 6) d_LA_law_27 (by decide) ?_
      refine ab_isub d_LA_law_29 ?_
      refine ab_topi (y := 0) (by decide) ?_
      refine ab_icmp_gt (tgt := 937) d_LA_law_30 (by decide) (fun _ => ?_) (fun c => absurd c (by decide))
      refine ab_iconst (v := 1) d_LA_law_937 (by decide) ?_
      exact ab_iret (rt := .boolean) rfl (by decide) d_LA_law_938 (by rw [hQ])
    · exfalso; have l0 := (show (0 : Int32).toInt = 0 by decide); simp only [Int32.le_iff_toInt_le, Int32.lt_iff_toInt_lt, ← Int32.toInt_inj] at c0 c1; omega
  · refine ab_iconst (v := 1) d_LA_law_807 (by decide) ?_
    refine ab_goto (tgt := 812) d_LA_law_808 (by decide) ?_
    refine ab_callV (d' := d - 1) (as := [vI (xs 1), vI 1]) (st := []) (r := _) (q_PW_which_1 (xs := xs) hlen hsl h18 h30 h31 h37 h46 h51 h60 (by omega)) (fun o G2 h => ⟨_, h.1⟩) (by omega) m_PW_which ml_LA_99 im_PW_which se_PW_which c_PW h18 (Nat.le_of_ble_eq_true rfl) d_LA_law_812 rfl ?_
    intro v G1 hq
    obtain ⟨hv, hfk, hlen, hsl, h37, h46, h51, h60⟩ := hq
    cases hv
    have h0 := hfk.get (by decide) h0
    have h18 := hfk.get (by decide) h18
    have h30 := hfk.get (by decide) h30
    have h31 := hfk.get (by decide) h31
    have h80 := hfk.get (by decide) h80
    have h112 := hfk.get (by decide) h112
    have hfr := hfr.cl hfk (by decide)
    change ab_W _ _ _ G1 815 [some (vR 0), some (vR 18), some (vR 80), some (vR 148), some (vI 0), none, none] [vI 0] _
    refine ab_aload_n d_LA_law_815 rfl ?_
    refine ab_aload_n d_LA_law_816 rfl ?_
    refine ab_iload d_LA_law_817 rfl ?_
    refine ab_iconst (v := 1) d_LA_law_819 (by decide) ?_
    refine ab_iadd d_LA_law_820 ?_
    refine ab_topi (y := 1) (by decide) ?_
    refine ab_iald d_LA_law_821 h0 (by unfold vp_in; decide) ?_
    refine ab_topi (y := (xs 1)) rfl ?_
    refine ab_aload_n d_LA_law_822 rfl ?_
    refine ab_iload d_LA_law_823 rfl ?_
    refine ab_iconst (v := 2) d_LA_law_825 (by decide) ?_
    refine ab_iadd d_LA_law_826 ?_
    refine ab_topi (y := 2) (by decide) ?_
    refine ab_iald d_LA_law_827 h0 (by unfold vp_in; decide) ?_
    refine ab_topi (y := (xs 2)) rfl ?_
    refine ab_if_eq (tgt := 835) d_LA_law_828 (by decide) (fun c1 => ?_) (fun c1 => ?_)
    · exfalso; have l0 := (show (0 : Int32).toInt = 0 by decide); simp only [Int32.le_iff_toInt_le, Int32.lt_iff_toInt_lt, ← Int32.toInt_inj] at c0 c1; omega
    · refine ab_iconst (v := 1) d_LA_law_831 (by decide) ?_
      refine ab_goto (tgt := 836) d_LA_law_832 (by decide) ?_
      refine ab_callV (d' := d - 1) (as := [vI (xs 1), vI 1]) (st := [vI 0]) (r := _) (q_MO_which_13 (xs := xs) hlen hsl h80 h112) (fun o G2 h => ⟨_, h.1⟩) (by omega) m_MO_which ml_LA_103 im_MO_which se_MO_which c_MO h80 (Nat.le_of_ble_eq_true rfl) d_LA_law_836 rfl ?_
      intro v G2 hq
      obtain ⟨hv, hfk, hlen, hsl, h80⟩ := hq
      cases hv
      have h0 := hfk.get (by decide) h0
      have h18 := hfk.get (by decide) h18
      have h30 := hfk.get (by decide) h30
      have h31 := hfk.get (by decide) h31
      have h37 := hfk.get (by decide) h37
      have h46 := hfk.get (by decide) h46
      have h51 := hfk.get (by decide) h51
      have h60 := hfk.get (by decide) h60
      have h112 := hfk.get (by decide) h112
      have hfr := hfr.cl hfk (by decide)
      change ab_W _ _ _ G2 839 [some (vR 0), some (vR 18), some (vR 80), some (vR 148), some (vI 0), none, none] [vI 0, vI 0] _
      refine ab_icmp_eq (tgt := 931) d_LA_law_839 (by decide) (fun _ => ?_) (fun c => absurd c (by decide))
      refine ab_iinc (v := 6) d_LA_law_931 rfl (by decide) (Nat.le_of_ble_eq_true rfl) (Nat.le_of_ble_eq_true rfl) rfl ?_
      change ab_W _ _ _ G2 934 [some (vR 0), some (vR 18), some (vR 80), some (vR 148), some (vI 6), none, none] [] _
      refine ab_goto (tgt := 23) d_LA_law_934 (by decide) ?_
      refine ab_iload d_LA_law_23 rfl ?_
      refine ab_aload_n d_LA_law_25 rfl ?_
      refine ab_alen (v := 6) d_LA_law_26 h0 (by first | decide | rfl) ?_
      refine ab_bipush (v := 6) d_LA_law_27 (by decide) ?_
      refine ab_isub d_LA_law_29 ?_
      refine ab_topi (y := 0) (by decide) ?_
      refine ab_icmp_gt (tgt := 937) d_LA_law_30 (by decide) (fun _ => ?_) (fun c => absurd c (by decide))
      refine ab_iconst (v := 1) d_LA_law_937 (by decide) ?_
      exact ab_iret (rt := .boolean) rfl (by decide) d_LA_law_938 (by rw [hQ])
set_option maxRecDepth 100000 in
set_option maxHeartbeats 4000000 in
theorem q_RW_clear_2 {X : ab_X} {d : Nat} {G : ab_G}  (hlen : G.length = 149) (hsl : ab_slots G = 1890753) (h76 : G[76]? = some (ab_ob 7 [vI 6000, vR 77, vI 0])) : ab_F X d y_RW_clear (.code y_RW_clear b_RW_clear 1 none) [vR 76] G (fun o G2 => o = .returned none ∧ ab_fr [76] G G2 ∧ G2.length = 149 ∧ ab_slots G2 = 1890753 ∧ G2[76]? = some (ab_ob 7 [vI 6000, vR 77, vI 0])) := by
  refine ab_F_of (by decide +kernel) (Nat.le_of_ble_eq_true rfl) ?_
  obtain ⟨Q, hQ⟩ : ∃ z : Outcome → ab_G → Prop, z = (fun o G2 => o = .returned none ∧ ab_fr [76] G G2 ∧ G2.length = 149 ∧ ab_slots G2 = 1890753 ∧ G2[76]? = some (ab_ob 7 [vI 6000, vR 77, vI 0])) := ⟨_, rfl⟩
  rw [← hQ]
  change ab_W X (ab_pl y_RW_clear b_RW_clear 1 none) d G 0 [some (vR 76)] [] Q
  have hfr : ab_fr [76] G G := ab_fr.rf
  refine ab_aload_n d_RW_clear_0 rfl ?_
  refine ab_iconst (v := 0) d_RW_clear_1 (by decide) ?_
  refine ab_putf (fs := [vI 6000, vR 77, vI 0]) f_RW_19 (Or.inl rfl) d_RW_clear_2 h76 (Nat.le_of_ble_eq_true rfl) (fun _ => ⟨rfl, rfl⟩) (by decide) ?_
  obtain ⟨G1, eG1⟩ : ∃ z : ab_G, z = List.set G 76 (ab_ob 7 [vI 6000, vR 77, vI 0]) := ⟨_, rfl⟩
  have hlen := ab_klen eG1 hlen
  have hsl := ab_ksl 3 eG1 h76 rfl rfl hsl
  have hfr := hfr.wr eG1 (by decide)
  have h76 := ab_kept eG1 h76
  change ab_W _ _ _ (List.set G 76 (ab_ob 7 [vI 6000, vR 77, vI 0])) 5 [some (vR 76)] [] _
  rw [← eG1]
  exact ab_vret rfl d_RW_clear_5 (by rw [hQ]; exact ⟨rfl, hfr, hlen, hsl, h76⟩)
set_option maxRecDepth 100000 in
set_option maxHeartbeats 4000000 in
theorem q_PW_quote_0 {X : ab_X} {d : Nat} {G : ab_G}  (hlen : G.length = 149) (hsl : ab_slots G = 1890753) (h18 : G[18]? = some (ab_ob 0 [vR 19, vR 20, vR 22, vR 30, vR 31, vR 36, vR 37, vR 46, vR 51, vR 60, vR 69, vR 70, vR 72, vR 74, vR 76, vR 78, vI 0, vI 0])) (h20 : G[20]? = some (ab_ob 7 [vI 2000, vR 21, vI 0])) (h76 : G[76]? = some (ab_ob 7 [vI 6000, vR 77, vI 0])) (hd : 1 ≤ d) : ab_F X d y_PW_quote (.code y_PW_quote b_PW_quote 3 (some (.int))) [vR 18] G (fun o G2 => o = .returned (some (vI 0)) ∧ ab_fr [20, 76] G G2 ∧ G2.length = 149 ∧ ab_slots G2 = 1890753 ∧ G2[20]? = some (ab_ob 7 [vI 2000, vR 21, vI 0]) ∧ G2[76]? = some (ab_ob 7 [vI 6000, vR 77, vI 0])) := by
  refine ab_F_of (by decide +kernel) (Nat.le_of_ble_eq_true rfl) ?_
  obtain ⟨Q, hQ⟩ : ∃ z : Outcome → ab_G → Prop, z = (fun o G2 => o = .returned (some (vI 0)) ∧ ab_fr [20, 76] G G2 ∧ G2.length = 149 ∧ ab_slots G2 = 1890753 ∧ G2[20]? = some (ab_ob 7 [vI 2000, vR 21, vI 0]) ∧ G2[76]? = some (ab_ob 7 [vI 6000, vR 77, vI 0])) := ⟨_, rfl⟩
  rw [← hQ]
  change ab_W X (ab_pl y_PW_quote b_PW_quote 3 (some (.int))) d G 0 [some (vR 18), none, none] [] Q
  have hfr : ab_fr [20, 76] G G := ab_fr.rf
  refine ab_aload_n d_PW_quote_0 rfl ?_
  refine ab_getf (fs := [vR 19, vR 20, vR 22, vR 30, vR 31, vR 36, vR 37, vR 46, vR 51, vR 60, vR 69, vR 70, vR 72, vR 74, vR 76, vR 78, vI 0, vI 0]) f_PW_85 d_PW_quote_1 h18 rfl ?_
  refine ab_callV (d' := d - 1) (as := []) (st := []) (r := _) (q_RW_clear_2  hlen hsl h76) (fun o G2 h => ⟨_, h.1⟩) (by omega) m_RW_clear ml_PW_120 im_RW_clear se_RW_clear c_RW h76 (Nat.le_of_ble_eq_true rfl) d_PW_quote_4 rfl ?_
  intro v G1 hq
  obtain ⟨hv, hfk, hlen, hsl, h76⟩ := hq
  cases hv
  have h18 := hfk.get (by decide) h18
  have h20 := hfk.get (by decide) h20
  have hfr := hfr.cl hfk (by decide)
  change ab_W _ _ _ G1 7 [some (vR 18), none, none] [] _
  refine ab_iconst (v := 0) d_PW_quote_7 (by decide) ?_
  refine ab_istore_n d_PW_quote_8 (Nat.le_of_ble_eq_true rfl) (Nat.le_of_ble_eq_true rfl) rfl ?_
  change ab_W _ _ _ G1 9 [some (vR 18), some (vI 0), none] [] _
  refine ab_iload_n d_PW_quote_9 rfl ?_
  refine ab_aload_n d_PW_quote_10 rfl ?_
  refine ab_getf (fs := [vR 19, vR 20, vR 22, vR 30, vR 31, vR 36, vR 37, vR 46, vR 51, vR 60, vR 69, vR 70, vR 72, vR 74, vR 76, vR 78, vI 0, vI 0]) f_PW_18 d_PW_quote_11 h18 rfl ?_
  refine ab_getf (fs := [vI 2000, vR 21, vI 0]) f_PW_101 d_PW_quote_14 h20 rfl ?_
  refine ab_icmp_ge (tgt := 68) d_PW_quote_17 (by decide) (fun _ => ?_) (fun c => absurd c (by decide))
  refine ab_aload_n d_PW_quote_68 rfl ?_
  refine ab_getf (fs := [vR 19, vR 20, vR 22, vR 30, vR 31, vR 36, vR 37, vR 46, vR 51, vR 60, vR 69, vR 70, vR 72, vR 74, vR 76, vR 78, vI 0, vI 0]) f_PW_18 d_PW_quote_69 h18 rfl ?_
  refine ab_callV (d' := d - 1) (as := []) (st := []) (r := _) (q_RW_clear_1  hlen hsl h20) (fun o G2 h => ⟨_, h.1⟩) (by omega) m_RW_clear ml_PW_120 im_RW_clear se_RW_clear c_RW h20 (Nat.le_of_ble_eq_true rfl) d_PW_quote_72 rfl ?_
  intro v G2 hq
  obtain ⟨hv, hfk, hlen, hsl, h20⟩ := hq
  cases hv
  have h18 := hfk.get (by decide) h18
  have h76 := hfk.get (by decide) h76
  have hfr := hfr.cl hfk (by decide)
  change ab_W _ _ _ G2 75 [some (vR 18), some (vI 0), none] [] _
  refine ab_aload_n d_PW_quote_75 rfl ?_
  refine ab_getf (fs := [vR 19, vR 20, vR 22, vR 30, vR 31, vR 36, vR 37, vR 46, vR 51, vR 60, vR 69, vR 70, vR 72, vR 74, vR 76, vR 78, vI 0, vI 0]) f_PW_85 d_PW_quote_76 h18 rfl ?_
  refine ab_getf (fs := [vI 6000, vR 77, vI 0]) f_PW_101 d_PW_quote_79 h76 rfl ?_
  exact ab_iret (rt := .int) rfl rfl d_PW_quote_82 (by rw [hQ]; exact ⟨rfl, hfr, hlen, hsl, h20, h76⟩)
set_option maxRecDepth 100000 in
set_option maxHeartbeats 4000000 in
theorem q_MO_quote_0 {X : ab_X} {d : Nat} {G : ab_G}  (hlen : G.length = 149) (hsl : ab_slots G = 1890753) (h80 : G[80]? = some (ab_ob 12 (m_fv (vI 0) (vI 0) (vI 0) (vI 0) (vI 0) (vI 0) (vI 0) (vI 0) (vI 0) (vI 0) (vI 0) (vI 0) (vI (-1)) (vI 0) (vI 0) (vI 0) (vI 0) (vI 0) (vI 0) (vI 0) (vI 0) (vI 0) (vI 0) (vI 0) (vI 0) (vI 0) (vI 0) (vI 0) (vI 0) (vI 0) (vI 0) (vI 0) (vI 0) (vI 0) (vI 0)))) : ab_F X d y_MO_quote (.code y_MO_quote b_MO_quote 3 (some (.int))) [vR 80] G (fun o G2 => o = .returned (some (vI 0)) ∧ ab_fr [80] G G2 ∧ G2.length = 149 ∧ ab_slots G2 = 1890753 ∧ G2[80]? = some (ab_ob 12 (m_fv (vI 0) (vI 0) (vI 0) (vI 0) (vI 0) (vI 0) (vI 0) (vI 0) (vI 0) (vI 0) (vI 0) (vI 0) (vI (-1)) (vI 0) (vI 0) (vI 0) (vI 0) (vI 0) (vI 0) (vI 0) (vI 0) (vI 0) (vI 0) (vI 0) (vI 0) (vI 0) (vI 0) (vI 0) (vI 0) (vI 0) (vI 0) (vI 0) (vI 0) (vI 0) (vI 0)))) := by
  refine ab_F_of (by decide +kernel) (Nat.le_of_ble_eq_true rfl) ?_
  obtain ⟨Q, hQ⟩ : ∃ z : Outcome → ab_G → Prop, z = (fun o G2 => o = .returned (some (vI 0)) ∧ ab_fr [80] G G2 ∧ G2.length = 149 ∧ ab_slots G2 = 1890753 ∧ G2[80]? = some (ab_ob 12 (m_fv (vI 0) (vI 0) (vI 0) (vI 0) (vI 0) (vI 0) (vI 0) (vI 0) (vI 0) (vI 0) (vI 0) (vI 0) (vI (-1)) (vI 0) (vI 0) (vI 0) (vI 0) (vI 0) (vI 0) (vI 0) (vI 0) (vI 0) (vI 0) (vI 0) (vI 0) (vI 0) (vI 0) (vI 0) (vI 0) (vI 0) (vI 0) (vI 0) (vI 0) (vI 0) (vI 0)))) := ⟨_, rfl⟩
  rw [← hQ]
  change ab_W X (ab_pl y_MO_quote b_MO_quote 3 (some (.int))) d G 0 [some (vR 80), none, none] [] Q
  have hfr : ab_fr [80] G G := ab_fr.rf
  refine ab_aload_n d_MO_quote_0 rfl ?_
  refine ab_iconst (v := 0) d_MO_quote_1 (by decide) ?_
  refine ab_putf (fs := (m_fv (vI 0) (vI 0) (vI 0) (vI 0) (vI 0) (vI 0) (vI 0) (vI 0) (vI 0) (vI 0) (vI 0) (vI 0) (vI (-1)) (vI 0) (vI 0) (vI 0) (vI 0) (vI 0) (vI 0) (vI 0) (vI 0) (vI 0) (vI 0) (vI 0) (vI 0) (vI 0) (vI 0) (vI 0) (vI 0) (vI 0) (vI 0) (vI 0) (vI 0) (vI 0) (vI 0))) f_MO_220 (Or.inl rfl) d_MO_quote_2 h80 (Nat.le_of_ble_eq_true rfl) (fun _ => ⟨rfl, rfl⟩) (by decide) ?_
  obtain ⟨G1, eG1⟩ : ∃ z : ab_G, z = List.set G 80 (ab_ob 12 (m_fv (vI 0) (vI 0) (vI 0) (vI 0) (vI 0) (vI 0) (vI 0) (vI 0) (vI 0) (vI 0) (vI 0) (vI 0) (vI (-1)) (vI 0) (vI 0) (vI 0) (vI 0) (vI 0) (vI 0) (vI 0) (vI 0) (vI 0) (vI 0) (vI 0) (vI 0) (vI 0) (vI 0) (vI 0) (vI 0) (vI 0) (vI 0) (vI 0) (vI 0) (vI 0) (vI 0))) := ⟨_, rfl⟩
  have hlen := ab_klen eG1 hlen
  have hsl := ab_ksl 102 eG1 h80 rfl rfl hsl
  have hfr := hfr.wr eG1 (by decide)
  have h80 := ab_kept eG1 h80
  change ab_W _ _ _ (List.set G 80 (ab_ob 12 (m_fv (vI 0) (vI 0) (vI 0) (vI 0) (vI 0) (vI 0) (vI 0) (vI 0) (vI 0) (vI 0) (vI 0) (vI 0) (vI (-1)) (vI 0) (vI 0) (vI 0) (vI 0) (vI 0) (vI 0) (vI 0) (vI 0) (vI 0) (vI 0) (vI 0) (vI 0) (vI 0) (vI 0) (vI 0) (vI 0) (vI 0) (vI 0) (vI 0) (vI 0) (vI 0) (vI 0)))) 5 [some (vR 80), none, none] [] _
  rw [← eG1]
  refine ab_aload_n d_MO_quote_5 rfl ?_
  refine ab_iconst (v := 0) d_MO_quote_6 (by decide) ?_
  refine ab_putf (fs := (m_fv (vI 0) (vI 0) (vI 0) (vI 0) (vI 0) (vI 0) (vI 0) (vI 0) (vI 0) (vI 0) (vI 0) (vI 0) (vI (-1)) (vI 0) (vI 0) (vI 0) (vI 0) (vI 0) (vI 0) (vI 0) (vI 0) (vI 0) (vI 0) (vI 0) (vI 0) (vI 0) (vI 0) (vI 0) (vI 0) (vI 0) (vI 0) (vI 0) (vI 0) (vI 0) (vI 0))) f_MO_618 (Or.inl rfl) d_MO_quote_7 h80 (Nat.le_of_ble_eq_true rfl) (fun _ => ⟨rfl, rfl⟩) (by decide) ?_
  obtain ⟨G2, eG2⟩ : ∃ z : ab_G, z = List.set G1 80 (ab_ob 12 (m_fv (vI 0) (vI 0) (vI 0) (vI 0) (vI 0) (vI 0) (vI 0) (vI 0) (vI 0) (vI 0) (vI 0) (vI 0) (vI (-1)) (vI 0) (vI 0) (vI 0) (vI 0) (vI 0) (vI 0) (vI 0) (vI 0) (vI 0) (vI 0) (vI 0) (vI 0) (vI 0) (vI 0) (vI 0) (vI 0) (vI 0) (vI 0) (vI 0) (vI 0) (vI 0) (vI 0))) := ⟨_, rfl⟩
  have hlen := ab_klen eG2 hlen
  have hsl := ab_ksl 102 eG2 h80 rfl rfl hsl
  have hfr := hfr.wr eG2 (by decide)
  have h80 := ab_kept eG2 h80
  change ab_W _ _ _ (List.set G1 80 (ab_ob 12 (m_fv (vI 0) (vI 0) (vI 0) (vI 0) (vI 0) (vI 0) (vI 0) (vI 0) (vI 0) (vI 0) (vI 0) (vI 0) (vI (-1)) (vI 0) (vI 0) (vI 0) (vI 0) (vI 0) (vI 0) (vI 0) (vI 0) (vI 0) (vI 0) (vI 0) (vI 0) (vI 0) (vI 0) (vI 0) (vI 0) (vI 0) (vI 0) (vI 0) (vI 0) (vI 0) (vI 0)))) 10 [some (vR 80), none, none] [] _
  rw [← eG2]
  refine ab_iconst (v := 0) d_MO_quote_10 (by decide) ?_
  refine ab_istore_n d_MO_quote_11 (Nat.le_of_ble_eq_true rfl) (Nat.le_of_ble_eq_true rfl) rfl ?_
  change ab_W _ _ _ G2 12 [some (vR 80), some (vI 0), none] [] _
  refine ab_iload_n d_MO_quote_12 rfl ?_
  refine ab_aload_n d_MO_quote_13 rfl ?_
  refine ab_getf (fs := (m_fv (vI 0) (vI 0) (vI 0) (vI 0) (vI 0) (vI 0) (vI 0) (vI 0) (vI 0) (vI 0) (vI 0) (vI 0) (vI (-1)) (vI 0) (vI 0) (vI 0) (vI 0) (vI 0) (vI 0) (vI 0) (vI 0) (vI 0) (vI 0) (vI 0) (vI 0) (vI 0) (vI 0) (vI 0) (vI 0) (vI 0) (vI 0) (vI 0) (vI 0) (vI 0) (vI 0))) f_MO_223 d_MO_quote_14 h80 rfl ?_
  refine ab_icmp_ge (tgt := 105) d_MO_quote_17 (by decide) (fun _ => ?_) (fun c => absurd c (by decide))
  refine ab_aload_n d_MO_quote_105 rfl ?_
  refine ab_iconst (v := 0) d_MO_quote_106 (by decide) ?_
  refine ab_putf (fs := (m_fv (vI 0) (vI 0) (vI 0) (vI 0) (vI 0) (vI 0) (vI 0) (vI 0) (vI 0) (vI 0) (vI 0) (vI 0) (vI (-1)) (vI 0) (vI 0) (vI 0) (vI 0) (vI 0) (vI 0) (vI 0) (vI 0) (vI 0) (vI 0) (vI 0) (vI 0) (vI 0) (vI 0) (vI 0) (vI 0) (vI 0) (vI 0) (vI 0) (vI 0) (vI 0) (vI 0))) f_MO_223 (Or.inl rfl) d_MO_quote_107 h80 (Nat.le_of_ble_eq_true rfl) (fun _ => ⟨rfl, rfl⟩) (by decide) ?_
  obtain ⟨G3, eG3⟩ : ∃ z : ab_G, z = List.set G2 80 (ab_ob 12 (m_fv (vI 0) (vI 0) (vI 0) (vI 0) (vI 0) (vI 0) (vI 0) (vI 0) (vI 0) (vI 0) (vI 0) (vI 0) (vI (-1)) (vI 0) (vI 0) (vI 0) (vI 0) (vI 0) (vI 0) (vI 0) (vI 0) (vI 0) (vI 0) (vI 0) (vI 0) (vI 0) (vI 0) (vI 0) (vI 0) (vI 0) (vI 0) (vI 0) (vI 0) (vI 0) (vI 0))) := ⟨_, rfl⟩
  have hlen := ab_klen eG3 hlen
  have hsl := ab_ksl 102 eG3 h80 rfl rfl hsl
  have hfr := hfr.wr eG3 (by decide)
  have h80 := ab_kept eG3 h80
  change ab_W _ _ _ (List.set G2 80 (ab_ob 12 (m_fv (vI 0) (vI 0) (vI 0) (vI 0) (vI 0) (vI 0) (vI 0) (vI 0) (vI 0) (vI 0) (vI 0) (vI 0) (vI (-1)) (vI 0) (vI 0) (vI 0) (vI 0) (vI 0) (vI 0) (vI 0) (vI 0) (vI 0) (vI 0) (vI 0) (vI 0) (vI 0) (vI 0) (vI 0) (vI 0) (vI 0) (vI 0) (vI 0) (vI 0) (vI 0) (vI 0)))) 110 [some (vR 80), some (vI 0), none] [] _
  rw [← eG3]
  refine ab_aload_n d_MO_quote_110 rfl ?_
  refine ab_getf (fs := (m_fv (vI 0) (vI 0) (vI 0) (vI 0) (vI 0) (vI 0) (vI 0) (vI 0) (vI 0) (vI 0) (vI 0) (vI 0) (vI (-1)) (vI 0) (vI 0) (vI 0) (vI 0) (vI 0) (vI 0) (vI 0) (vI 0) (vI 0) (vI 0) (vI 0) (vI 0) (vI 0) (vI 0) (vI 0) (vI 0) (vI 0) (vI 0) (vI 0) (vI 0) (vI 0) (vI 0))) f_MO_618 d_MO_quote_111 h80 rfl ?_
  exact ab_iret (rt := .int) rfl rfl d_MO_quote_114 (by rw [hQ]; exact ⟨rfl, hfr, hlen, hsl, h80⟩)
set_option maxRecDepth 100000 in
set_option maxHeartbeats 4000000 in
theorem lc_15 {X : ab_X} {d : Nat} {G : ab_G} {xs : Nat → Int32} (hlen : G.length = 149) (hsl : ab_slots G = 1890753) (h0 : G[0]? = some (ab_if 6 (xs))) (h18 : G[18]? = some (ab_ob 0 [vR 19, vR 20, vR 22, vR 30, vR 31, vR 36, vR 37, vR 46, vR 51, vR 60, vR 69, vR 70, vR 72, vR 74, vR 76, vR 78, vI 0, vI 0])) (h20 : G[20]? = some (ab_ob 7 [vI 2000, vR 21, vI 0])) (h76 : G[76]? = some (ab_ob 7 [vI 6000, vR 77, vI 0])) (h80 : G[80]? = some (ab_ob 12 (m_fv (vI 0) (vI 0) (vI 0) (vI 0) (vI 0) (vI 0) (vI 0) (vI 0) (vI 0) (vI 0) (vI 0) (vI 0) (vI (-1)) (vI 0) (vI 0) (vI 0) (vI 0) (vI 0) (vI 0) (vI 0) (vI 0) (vI 0) (vI 0) (vI 0) (vI 0) (vI 0) (vI 0) (vI 0) (vI 0) (vI 0) (vI 0) (vI 0) (vI 0) (vI 0) (vI 0)))) (hd : 2 ≤ d) : ab_W X ab_LW d G 844 [some (vR 0), some (vR 18), some (vR 80), some (vR 148), some (vI 0), none, none] [] (fun o _ => o = .returned (some (vI 1))) := by
  obtain ⟨Q, hQ⟩ : ∃ z : Outcome → ab_G → Prop, z = (fun o _ => o = .returned (some (vI 1))) := ⟨_, rfl⟩
  rw [← hQ]
  have hfr : ab_fr [20, 76, 80] G G := ab_fr.rf
  refine ab_aload_n d_LA_law_844 rfl ?_
  refine ab_callV (d' := d - 1) (as := []) (st := []) (r := _) (q_PW_quote_0  hlen hsl h18 h20 h76 (by omega)) (fun o G2 h => ⟨_, h.1⟩) (by omega) m_PW_quote ml_LA_104 im_PW_quote se_PW_quote c_PW h18 (Nat.le_of_ble_eq_true rfl) d_LA_law_845 rfl ?_
  intro v G1 hq
  obtain ⟨hv, hfk, hlen, hsl, h20, h76⟩ := hq
  cases hv
  have h0 := hfk.get (by decide) h0
  have h18 := hfk.get (by decide) h18
  have h80 := hfk.get (by decide) h80
  have hfr := hfr.cl hfk (by decide)
  change ab_W _ _ _ G1 848 [some (vR 0), some (vR 18), some (vR 80), some (vR 148), some (vI 0), none, none] [vI 0] _
  refine ab_aload_n d_LA_law_848 rfl ?_
  refine ab_callV (d' := d - 1) (as := []) (st := [vI 0]) (r := _) (q_MO_quote_0  hlen hsl h80) (fun o G2 h => ⟨_, h.1⟩) (by omega) m_MO_quote ml_LA_107 im_MO_quote se_MO_quote c_MO h80 (Nat.le_of_ble_eq_true rfl) d_LA_law_849 rfl ?_
  intro v G2 hq
  obtain ⟨hv, hfk, hlen, hsl, h80⟩ := hq
  cases hv
  have h0 := hfk.get (by decide) h0
  have h18 := hfk.get (by decide) h18
  have h20 := hfk.get (by decide) h20
  have h76 := hfk.get (by decide) h76
  have hfr := hfr.cl hfk (by decide)
  change ab_W _ _ _ G2 852 [some (vR 0), some (vR 18), some (vR 80), some (vR 148), some (vI 0), none, none] [vI 0, vI 0] _
  refine ab_icmp_eq (tgt := 931) d_LA_law_852 (by decide) (fun _ => ?_) (fun c => absurd c (by decide))
  refine ab_iinc (v := 6) d_LA_law_931 rfl (by decide) (Nat.le_of_ble_eq_true rfl) (Nat.le_of_ble_eq_true rfl) rfl ?_
  change ab_W _ _ _ G2 934 [some (vR 0), some (vR 18), some (vR 80), some (vR 148), some (vI 6), none, none] [] _
  refine ab_goto (tgt := 23) d_LA_law_934 (by decide) ?_
  refine ab_iload d_LA_law_23 rfl ?_
  refine ab_aload_n d_LA_law_25 rfl ?_
  refine ab_alen (v := 6) d_LA_law_26 h0 (by first | decide | rfl) ?_
  refine ab_bipush (v := 6) d_LA_law_27 (by decide) ?_
  refine ab_isub d_LA_law_29 ?_
  refine ab_topi (y := 0) (by decide) ?_
  refine ab_icmp_gt (tgt := 937) d_LA_law_30 (by decide) (fun _ => ?_) (fun c => absurd c (by decide))
  refine ab_iconst (v := 1) d_LA_law_937 (by decide) ?_
  exact ab_iret (rt := .boolean) rfl (by decide) d_LA_law_938 (by rw [hQ])
set_option maxRecDepth 100000 in
set_option maxHeartbeats 4000000 in
theorem q_RW_at_0 {X : ab_X} {d : Nat} {G : ab_G} {xs : Nat → Int32} (hlen : G.length = 149) (hsl : ab_slots G = 1890753) (h76 : G[76]? = some (ab_ob 7 [vI 6000, vR 77, vI 0])) : ab_F X d y_RW_at (.code y_RW_at b_RW_at 2 (some (.int))) [vR 76, vI (xs 1)] G (fun o G2 => o = .returned (some (vI (-1))) ∧ ab_fr [] G G2 ∧ G2.length = 149 ∧ ab_slots G2 = 1890753) := by
  refine ab_F_of (by decide +kernel) (Nat.le_of_ble_eq_true rfl) ?_
  obtain ⟨Q, hQ⟩ : ∃ z : Outcome → ab_G → Prop, z = (fun o G2 => o = .returned (some (vI (-1))) ∧ ab_fr [] G G2 ∧ G2.length = 149 ∧ ab_slots G2 = 1890753) := ⟨_, rfl⟩
  rw [← hQ]
  change ab_W X (ab_pl y_RW_at b_RW_at 2 (some (.int))) d G 0 [some (vR 76), some (vI (xs 1))] [] Q
  have hfr : ab_fr [] G G := ab_fr.rf
  refine ab_iload_n d_RW_at_0 rfl ?_
  refine ab_if_lt (tgt := 21) d_RW_at_1 (by decide) (fun c0 => ?_) (fun c0 => ?_)
  · refine ab_iconst (v := (-1)) d_RW_at_21 (by decide) ?_
    exact ab_iret (rt := .int) rfl rfl d_RW_at_22 (by rw [hQ]; exact ⟨rfl, hfr, hlen, hsl⟩)
  · refine ab_iload_n d_RW_at_4 rfl ?_
    refine ab_aload_n d_RW_at_5 rfl ?_
    refine ab_getf (fs := [vI 6000, vR 77, vI 0]) f_RW_19 d_RW_at_6 h76 rfl ?_
    refine ab_icmp_ge (tgt := 21) d_RW_at_9 (by decide) (fun c1 => ?_) (fun c1 => ?_)
    · refine ab_iconst (v := (-1)) d_RW_at_21 (by decide) ?_
      exact ab_iret (rt := .int) rfl rfl d_RW_at_22 (by rw [hQ]; exact ⟨rfl, hfr, hlen, hsl⟩)
    · exfalso; have l0 := (show (0 : Int32).toInt = 0 by decide); simp only [Int32.le_iff_toInt_le, Int32.lt_iff_toInt_lt, ← Int32.toInt_inj] at c0 c1; omega
set_option maxRecDepth 100000 in
set_option maxHeartbeats 4000000 in
theorem q_PW_output_0 {X : ab_X} {d : Nat} {G : ab_G} {xs : Nat → Int32} (hlen : G.length = 149) (hsl : ab_slots G = 1890753) (h18 : G[18]? = some (ab_ob 0 [vR 19, vR 20, vR 22, vR 30, vR 31, vR 36, vR 37, vR 46, vR 51, vR 60, vR 69, vR 70, vR 72, vR 74, vR 76, vR 78, vI 0, vI 0])) (h76 : G[76]? = some (ab_ob 7 [vI 6000, vR 77, vI 0])) (hd : 1 ≤ d) : ab_F X d y_PW_output (.code y_PW_output b_PW_output 2 (some (.int))) [vR 18, vI (xs 1)] G (fun o G2 => o = .returned (some (vI (-1))) ∧ ab_fr [] G G2 ∧ G2.length = 149 ∧ ab_slots G2 = 1890753) := by
  refine ab_F_of (by decide +kernel) (Nat.le_of_ble_eq_true rfl) ?_
  obtain ⟨Q, hQ⟩ : ∃ z : Outcome → ab_G → Prop, z = (fun o G2 => o = .returned (some (vI (-1))) ∧ ab_fr [] G G2 ∧ G2.length = 149 ∧ ab_slots G2 = 1890753) := ⟨_, rfl⟩
  rw [← hQ]
  change ab_W X (ab_pl y_PW_output b_PW_output 2 (some (.int))) d G 0 [some (vR 18), some (vI (xs 1))] [] Q
  have hfr : ab_fr [] G G := ab_fr.rf
  refine ab_aload_n d_PW_output_0 rfl ?_
  refine ab_getf (fs := [vR 19, vR 20, vR 22, vR 30, vR 31, vR 36, vR 37, vR 46, vR 51, vR 60, vR 69, vR 70, vR 72, vR 74, vR 76, vR 78, vI 0, vI 0]) f_PW_85 d_PW_output_1 h18 rfl ?_
  refine ab_iload_n d_PW_output_4 rfl ?_
  refine ab_callV (d' := d - 1) (as := [vI (xs 1)]) (st := []) (r := _) (q_RW_at_0 (xs := xs) hlen hsl h76) (fun o G2 h => ⟨_, h.1⟩) (by omega) m_RW_at ml_PW_228 im_RW_at se_RW_at c_RW h76 (Nat.le_of_ble_eq_true rfl) d_PW_output_5 rfl ?_
  intro v G1 hq
  obtain ⟨hv, hfk, hlen, hsl⟩ := hq
  cases hv
  have h18 := hfk.get (by decide) h18
  have h76 := hfk.get (by decide) h76
  have hfr := hfr.cl hfk (by decide)
  change ab_W _ _ _ G1 8 [some (vR 18), some (vI (xs 1))] [vI (-1)] _
  exact ab_iret (rt := .int) rfl rfl d_PW_output_8 (by rw [hQ]; exact ⟨rfl, hfr, hlen, hsl⟩)
set_option maxRecDepth 100000 in
set_option maxHeartbeats 4000000 in
theorem q_MO_output_0 {X : ab_X} {d : Nat} {G : ab_G} {xs : Nat → Int32} (hlen : G.length = 149) (hsl : ab_slots G = 1890753) (h80 : G[80]? = some (ab_ob 12 (m_fv (vI 0) (vI 0) (vI 0) (vI 0) (vI 0) (vI 0) (vI 0) (vI 0) (vI 0) (vI 0) (vI 0) (vI 0) (vI (-1)) (vI 0) (vI 0) (vI 0) (vI 0) (vI 0) (vI 0) (vI 0) (vI 0) (vI 0) (vI 0) (vI 0) (vI 0) (vI 0) (vI 0) (vI 0) (vI 0) (vI 0) (vI 0) (vI 0) (vI 0) (vI 0) (vI 0)))) : ab_F X d y_MO_output (.code y_MO_output b_MO_output 2 (some (.int))) [vR 80, vI (xs 1)] G (fun o G2 => o = .returned (some (vI (-1))) ∧ ab_fr [80] G G2 ∧ G2.length = 149 ∧ ab_slots G2 = 1890753 ∧ G2[80]? = some (ab_ob 12 (m_fv (vI 0) (vI 0) (vI 0) (vI 0) (vI 0) (vI 0) (vI 0) (vI 0) (vI 0) (vI 0) (vI 0) (vI 0) (vI (-1)) (vI 0) (vI 0) (vI 0) (vI 0) (vI 0) (vI 0) (vI 0) (vI 0) (vI 0) (vI 0) (vI 0) (vI 0) (vI 0) (vI 0) (vI 0) (vI 0) (vI 0) (vI 0) (vI 0) (vI 0) (vI 0) (vI 0)))) := by
  refine ab_F_of (by decide +kernel) (Nat.le_of_ble_eq_true rfl) ?_
  obtain ⟨Q, hQ⟩ : ∃ z : Outcome → ab_G → Prop, z = (fun o G2 => o = .returned (some (vI (-1))) ∧ ab_fr [80] G G2 ∧ G2.length = 149 ∧ ab_slots G2 = 1890753 ∧ G2[80]? = some (ab_ob 12 (m_fv (vI 0) (vI 0) (vI 0) (vI 0) (vI 0) (vI 0) (vI 0) (vI 0) (vI 0) (vI 0) (vI 0) (vI 0) (vI (-1)) (vI 0) (vI 0) (vI 0) (vI 0) (vI 0) (vI 0) (vI 0) (vI 0) (vI 0) (vI 0) (vI 0) (vI 0) (vI 0) (vI 0) (vI 0) (vI 0) (vI 0) (vI 0) (vI 0) (vI 0) (vI 0) (vI 0)))) := ⟨_, rfl⟩
  rw [← hQ]
  change ab_W X (ab_pl y_MO_output b_MO_output 2 (some (.int))) d G 0 [some (vR 80), some (vI (xs 1))] [] Q
  have hfr : ab_fr [80] G G := ab_fr.rf
  refine ab_aload_n d_MO_output_0 rfl ?_
  refine ab_iconst (v := 0) d_MO_output_1 (by decide) ?_
  refine ab_putf (fs := (m_fv (vI 0) (vI 0) (vI 0) (vI 0) (vI 0) (vI 0) (vI 0) (vI 0) (vI 0) (vI 0) (vI 0) (vI 0) (vI (-1)) (vI 0) (vI 0) (vI 0) (vI 0) (vI 0) (vI 0) (vI 0) (vI 0) (vI 0) (vI 0) (vI 0) (vI 0) (vI 0) (vI 0) (vI 0) (vI 0) (vI 0) (vI 0) (vI 0) (vI 0) (vI 0) (vI 0))) f_MO_220 (Or.inl rfl) d_MO_output_2 h80 (Nat.le_of_ble_eq_true rfl) (fun _ => ⟨rfl, rfl⟩) (by decide) ?_
  obtain ⟨G1, eG1⟩ : ∃ z : ab_G, z = List.set G 80 (ab_ob 12 (m_fv (vI 0) (vI 0) (vI 0) (vI 0) (vI 0) (vI 0) (vI 0) (vI 0) (vI 0) (vI 0) (vI 0) (vI 0) (vI (-1)) (vI 0) (vI 0) (vI 0) (vI 0) (vI 0) (vI 0) (vI 0) (vI 0) (vI 0) (vI 0) (vI 0) (vI 0) (vI 0) (vI 0) (vI 0) (vI 0) (vI 0) (vI 0) (vI 0) (vI 0) (vI 0) (vI 0))) := ⟨_, rfl⟩
  have hlen := ab_klen eG1 hlen
  have hsl := ab_ksl 102 eG1 h80 rfl rfl hsl
  have hfr := hfr.wr eG1 (by decide)
  have h80 := ab_kept eG1 h80
  change ab_W _ _ _ (List.set G 80 (ab_ob 12 (m_fv (vI 0) (vI 0) (vI 0) (vI 0) (vI 0) (vI 0) (vI 0) (vI 0) (vI 0) (vI 0) (vI 0) (vI 0) (vI (-1)) (vI 0) (vI 0) (vI 0) (vI 0) (vI 0) (vI 0) (vI 0) (vI 0) (vI 0) (vI 0) (vI 0) (vI 0) (vI 0) (vI 0) (vI 0) (vI 0) (vI 0) (vI 0) (vI 0) (vI 0) (vI 0) (vI 0)))) 5 [some (vR 80), some (vI (xs 1))] [] _
  rw [← eG1]
  refine ab_iload_n d_MO_output_5 rfl ?_
  refine ab_if_lt (tgt := 17) d_MO_output_6 (by decide) (fun c0 => ?_) (fun c0 => ?_)
  · refine ab_iconst (v := (-1)) d_MO_output_17 (by decide) ?_
    refine ab_goto (tgt := 27) d_MO_output_18 (by decide) ?_
    exact ab_iret (rt := .int) rfl rfl d_MO_output_27 (by rw [hQ]; exact ⟨rfl, hfr, hlen, hsl, h80⟩)
  · refine ab_iload_n d_MO_output_9 rfl ?_
    refine ab_aload_n d_MO_output_10 rfl ?_
    refine ab_getf (fs := (m_fv (vI 0) (vI 0) (vI 0) (vI 0) (vI 0) (vI 0) (vI 0) (vI 0) (vI 0) (vI 0) (vI 0) (vI 0) (vI (-1)) (vI 0) (vI 0) (vI 0) (vI 0) (vI 0) (vI 0) (vI 0) (vI 0) (vI 0) (vI 0) (vI 0) (vI 0) (vI 0) (vI 0) (vI 0) (vI 0) (vI 0) (vI 0) (vI 0) (vI 0) (vI 0) (vI 0))) f_MO_618 d_MO_output_11 h80 rfl ?_
    refine ab_icmp_lt (tgt := 21) d_MO_output_14 (by decide) (fun c1 => ?_) (fun c1 => ?_)
    · exfalso; have l0 := (show (0 : Int32).toInt = 0 by decide); simp only [Int32.le_iff_toInt_le, Int32.lt_iff_toInt_lt, ← Int32.toInt_inj] at c0 c1; omega
    · refine ab_iconst (v := (-1)) d_MO_output_17 (by decide) ?_
      refine ab_goto (tgt := 27) d_MO_output_18 (by decide) ?_
      exact ab_iret (rt := .int) rfl rfl d_MO_output_27 (by rw [hQ]; exact ⟨rfl, hfr, hlen, hsl, h80⟩)
set_option maxRecDepth 100000 in
set_option maxHeartbeats 4000000 in
theorem lc_16 {X : ab_X} {d : Nat} {G : ab_G} {xs : Nat → Int32} (hlen : G.length = 149) (hsl : ab_slots G = 1890753) (h0 : G[0]? = some (ab_if 6 (xs))) (h18 : G[18]? = some (ab_ob 0 [vR 19, vR 20, vR 22, vR 30, vR 31, vR 36, vR 37, vR 46, vR 51, vR 60, vR 69, vR 70, vR 72, vR 74, vR 76, vR 78, vI 0, vI 0])) (h76 : G[76]? = some (ab_ob 7 [vI 6000, vR 77, vI 0])) (h80 : G[80]? = some (ab_ob 12 (m_fv (vI 0) (vI 0) (vI 0) (vI 0) (vI 0) (vI 0) (vI 0) (vI 0) (vI 0) (vI 0) (vI 0) (vI 0) (vI (-1)) (vI 0) (vI 0) (vI 0) (vI 0) (vI 0) (vI 0) (vI 0) (vI 0) (vI 0) (vI 0) (vI 0) (vI 0) (vI 0) (vI 0) (vI 0) (vI 0) (vI 0) (vI 0) (vI 0) (vI 0) (vI 0) (vI 0)))) (hd : 2 ≤ d) : ab_W X ab_LW d G 857 [some (vR 0), some (vR 18), some (vR 80), some (vR 148), some (vI 0), none, none] [] (fun o _ => o = .returned (some (vI 1))) := by
  obtain ⟨Q, hQ⟩ : ∃ z : Outcome → ab_G → Prop, z = (fun o _ => o = .returned (some (vI 1))) := ⟨_, rfl⟩
  rw [← hQ]
  have hfr : ab_fr [80] G G := ab_fr.rf
  refine ab_aload_n d_LA_law_857 rfl ?_
  refine ab_aload_n d_LA_law_858 rfl ?_
  refine ab_iload d_LA_law_859 rfl ?_
  refine ab_iconst (v := 1) d_LA_law_861 (by decide) ?_
  refine ab_iadd d_LA_law_862 ?_
  refine ab_topi (y := 1) (by decide) ?_
  refine ab_iald d_LA_law_863 h0 (by unfold vp_in; decide) ?_
  refine ab_topi (y := (xs 1)) rfl ?_
  refine ab_callV (d' := d - 1) (as := [vI (xs 1)]) (st := []) (r := _) (q_PW_output_0 (xs := xs) hlen hsl h18 h76 (by omega)) (fun o G2 h => ⟨_, h.1⟩) (by omega) m_PW_output ml_LA_108 im_PW_output se_PW_output c_PW h18 (Nat.le_of_ble_eq_true rfl) d_LA_law_864 rfl ?_
  intro v G1 hq
  obtain ⟨hv, hfk, hlen, hsl⟩ := hq
  cases hv
  have h0 := hfk.get (by decide) h0
  have h18 := hfk.get (by decide) h18
  have h76 := hfk.get (by decide) h76
  have h80 := hfk.get (by decide) h80
  have hfr := hfr.cl hfk (by decide)
  change ab_W _ _ _ G1 867 [some (vR 0), some (vR 18), some (vR 80), some (vR 148), some (vI 0), none, none] [vI (-1)] _
  refine ab_aload_n d_LA_law_867 rfl ?_
  refine ab_aload_n d_LA_law_868 rfl ?_
  refine ab_iload d_LA_law_869 rfl ?_
  refine ab_iconst (v := 1) d_LA_law_871 (by decide) ?_
  refine ab_iadd d_LA_law_872 ?_
  refine ab_topi (y := 1) (by decide) ?_
  refine ab_iald d_LA_law_873 h0 (by unfold vp_in; decide) ?_
  refine ab_topi (y := (xs 1)) rfl ?_
  refine ab_callV (d' := d - 1) (as := [vI (xs 1)]) (st := [vI (-1)]) (r := _) (q_MO_output_0 (xs := xs) hlen hsl h80) (fun o G2 h => ⟨_, h.1⟩) (by omega) m_MO_output ml_LA_111 im_MO_output se_MO_output c_MO h80 (Nat.le_of_ble_eq_true rfl) d_LA_law_874 rfl ?_
  intro v G2 hq
  obtain ⟨hv, hfk, hlen, hsl, h80⟩ := hq
  cases hv
  have h0 := hfk.get (by decide) h0
  have h18 := hfk.get (by decide) h18
  have h76 := hfk.get (by decide) h76
  have hfr := hfr.cl hfk (by decide)
  change ab_W _ _ _ G2 877 [some (vR 0), some (vR 18), some (vR 80), some (vR 148), some (vI 0), none, none] [vI (-1), vI (-1)] _
  refine ab_icmp_eq (tgt := 931) d_LA_law_877 (by decide) (fun _ => ?_) (fun c => absurd c (by decide))
  refine ab_iinc (v := 6) d_LA_law_931 rfl (by decide) (Nat.le_of_ble_eq_true rfl) (Nat.le_of_ble_eq_true rfl) rfl ?_
  change ab_W _ _ _ G2 934 [some (vR 0), some (vR 18), some (vR 80), some (vR 148), some (vI 6), none, none] [] _
  refine ab_goto (tgt := 23) d_LA_law_934 (by decide) ?_
  refine ab_iload d_LA_law_23 rfl ?_
  refine ab_aload_n d_LA_law_25 rfl ?_
  refine ab_alen (v := 6) d_LA_law_26 h0 (by first | decide | rfl) ?_
  refine ab_bipush (v := 6) d_LA_law_27 (by decide) ?_
  refine ab_isub d_LA_law_29 ?_
  refine ab_topi (y := 0) (by decide) ?_
  refine ab_icmp_gt (tgt := 937) d_LA_law_30 (by decide) (fun _ => ?_) (fun c => absurd c (by decide))
  refine ab_iconst (v := 1) d_LA_law_937 (by decide) ?_
  exact ab_iret (rt := .boolean) rfl (by decide) d_LA_law_938 (by rw [hQ])
set_option maxRecDepth 100000 in
set_option maxHeartbeats 4000000 in
theorem q_ST_holdAtMost_0 {X : ab_X} {d : Nat} {G : ab_G} {xs : Nat → Int32} (hlen : G.length = 149) (hsl : ab_slots G = 1890753) (h60 : G[60]? = some (ab_ob 8 [vI 32, vN, vI 0, vI 0, vR 61, vI 0, vR 62, vR 63, vR 64, vR 65, vI 0, vR 66, vI 0, vR 67, vI 0, vR 68, vI 0, vJ 0])) : ab_F X d y_ST_holdAtMost (.code y_ST_holdAtMost b_ST_holdAtMost 2 none) [vR 60, vI (xs 1)] G (fun o G2 => o = .returned none ∧ ab_fr [60] G G2 ∧ G2.length = 149 ∧ ab_slots G2 = 1890753 ∧ G2[60]? = some (ab_ob 8 [vI (xs 1), vN, vI 0, vI 0, vR 61, vI 0, vR 62, vR 63, vR 64, vR 65, vI 0, vR 66, vI 0, vR 67, vI 0, vR 68, vI 0, vJ 0])) := by
  refine ab_F_of (by decide +kernel) (Nat.le_of_ble_eq_true rfl) ?_
  obtain ⟨Q, hQ⟩ : ∃ z : Outcome → ab_G → Prop, z = (fun o G2 => o = .returned none ∧ ab_fr [60] G G2 ∧ G2.length = 149 ∧ ab_slots G2 = 1890753 ∧ G2[60]? = some (ab_ob 8 [vI (xs 1), vN, vI 0, vI 0, vR 61, vI 0, vR 62, vR 63, vR 64, vR 65, vI 0, vR 66, vI 0, vR 67, vI 0, vR 68, vI 0, vJ 0])) := ⟨_, rfl⟩
  rw [← hQ]
  change ab_W X (ab_pl y_ST_holdAtMost b_ST_holdAtMost 2 none) d G 0 [some (vR 60), some (vI (xs 1))] [] Q
  have hfr : ab_fr [60] G G := ab_fr.rf
  refine ab_aload_n d_ST_holdAtMost_0 rfl ?_
  refine ab_iload_n d_ST_holdAtMost_1 rfl ?_
  refine ab_putf (fs := [vI 32, vN, vI 0, vI 0, vR 61, vI 0, vR 62, vR 63, vR 64, vR 65, vI 0, vR 66, vI 0, vR 67, vI 0, vR 68, vI 0, vJ 0]) f_ST_9 (Or.inl rfl) d_ST_holdAtMost_2 h60 (Nat.le_of_ble_eq_true rfl) (fun _ => ⟨rfl, rfl⟩) (by decide) ?_
  obtain ⟨G1, eG1⟩ : ∃ z : ab_G, z = List.set G 60 (ab_ob 8 [vI (xs 1), vN, vI 0, vI 0, vR 61, vI 0, vR 62, vR 63, vR 64, vR 65, vI 0, vR 66, vI 0, vR 67, vI 0, vR 68, vI 0, vJ 0]) := ⟨_, rfl⟩
  have hlen := ab_klen eG1 hlen
  have hsl := ab_ksl 18 eG1 h60 rfl rfl hsl
  have hfr := hfr.wr eG1 (by decide)
  have h60 := ab_kept eG1 h60
  change ab_W _ _ _ (List.set G 60 (ab_ob 8 [vI (xs 1), vN, vI 0, vI 0, vR 61, vI 0, vR 62, vR 63, vR 64, vR 65, vI 0, vR 66, vI 0, vR 67, vI 0, vR 68, vI 0, vJ 0])) 5 [some (vR 60), some (vI (xs 1))] [] _
  rw [← eG1]
  refine ab_aload_n d_ST_holdAtMost_5 rfl ?_
  refine ab_iconst (v := 0) d_ST_holdAtMost_6 (by decide) ?_
  refine ab_putf (fs := [vI (xs 1), vN, vI 0, vI 0, vR 61, vI 0, vR 62, vR 63, vR 64, vR 65, vI 0, vR 66, vI 0, vR 67, vI 0, vR 68, vI 0, vJ 0]) f_ST_40 (Or.inl rfl) d_ST_holdAtMost_7 h60 (Nat.le_of_ble_eq_true rfl) (fun _ => ⟨rfl, rfl⟩) (by decide) ?_
  obtain ⟨G2, eG2⟩ : ∃ z : ab_G, z = List.set G1 60 (ab_ob 8 [vI (xs 1), vN, vI 0, vI 0, vR 61, vI 0, vR 62, vR 63, vR 64, vR 65, vI 0, vR 66, vI 0, vR 67, vI 0, vR 68, vI 0, vJ 0]) := ⟨_, rfl⟩
  have hlen := ab_klen eG2 hlen
  have hsl := ab_ksl 18 eG2 h60 rfl rfl hsl
  have hfr := hfr.wr eG2 (by decide)
  have h60 := ab_kept eG2 h60
  change ab_W _ _ _ (List.set G1 60 (ab_ob 8 [vI (xs 1), vN, vI 0, vI 0, vR 61, vI 0, vR 62, vR 63, vR 64, vR 65, vI 0, vR 66, vI 0, vR 67, vI 0, vR 68, vI 0, vJ 0])) 10 [some (vR 60), some (vI (xs 1))] [] _
  rw [← eG2]
  exact ab_vret rfl d_ST_holdAtMost_10 (by rw [hQ]; exact ⟨rfl, hfr, hlen, hsl, h60⟩)
set_option maxRecDepth 100000 in
set_option maxHeartbeats 4000000 in
theorem q_PW_keep_0 {X : ab_X} {d : Nat} {G : ab_G} {xs : Nat → Int32} (hlen : G.length = 149) (hsl : ab_slots G = 1890753) (c0 : (xs 1) < 4) (hd : 6 ≤ d) : ab_F X d y_PW_keep (.code y_PW_keep b_PW_keep 2 none) [vR 18, vI (xs 1)] G (fun o G2 => o = .threw 149 ∧ ab_fr [149] G G2 ∧ G2.length = 150 ∧ ab_slots G2 = 1890759 ∧ G2[149]? = some (ab_ob 13 [])) := by
  refine ab_F_of (by decide +kernel) (Nat.le_of_ble_eq_true rfl) ?_
  obtain ⟨Q, hQ⟩ : ∃ z : Outcome → ab_G → Prop, z = (fun o G2 => o = .threw 149 ∧ ab_fr [149] G G2 ∧ G2.length = 150 ∧ ab_slots G2 = 1890759 ∧ G2[149]? = some (ab_ob 13 [])) := ⟨_, rfl⟩
  rw [← hQ]
  change ab_W X (ab_pl y_PW_keep b_PW_keep 2 none) d G 0 [some (vR 18), some (vI (xs 1))] [] Q
  have hfr : ab_fr [149] G G := ab_fr.rf
  refine ab_iload_n d_PW_keep_0 rfl ?_
  refine ab_iconst (v := 4) d_PW_keep_1 (by decide) ?_
  refine ab_icmp_lt (tgt := 11) d_PW_keep_2 (by decide) (fun c1 => ?_) (fun c1 => ?_)
  · refine ab_throw (tx := "no such number of states") (by decide) (fun c h => h) cl_PW_109 inst_IA ini_IA tw_PW_113 d_PW_keep_11 d_PW_keep_14 d_PW_keep_15 d_PW_keep_17 d_PW_keep_20 (by omega) (by rw [hlen]; decide) (by rw [hsl]; decide) ?_
    rw [hlen]
    obtain ⟨G1, eG1⟩ : ∃ z : ab_G, z = G ++ [ab_ob 13 []] := ⟨_, rfl⟩
    have h149 := ab_anew1 eG1 hlen
    have hsl : ab_slots G1 = 1890759 := ab_asl (z := 6) eG1 hlen (by decide) hsl rfl (by decide)
    have hlen : G1.length = 150 := ab_alen1 eG1 hlen
    have hfr := hfr.ap eG1
    rw [← eG1, hQ]
    exact ⟨rfl, hfr, hlen, hsl, h149⟩
  · exfalso; have l0 := (show (4 : Int32).toInt = 4 by decide); simp only [Int32.le_iff_toInt_le, Int32.lt_iff_toInt_lt, ← Int32.toInt_inj] at c0 c1; omega
set_option maxRecDepth 100000 in
set_option maxHeartbeats 4000000 in
theorem q_LA_keep_0 {X : ab_X} {d : Nat} {G : ab_G} {xs : Nat → Int32} (hlen : G.length = 149) (hsl : ab_slots G = 1890753) (h18 : G[18]? = some (ab_ob 0 [vR 19, vR 20, vR 22, vR 30, vR 31, vR 36, vR 37, vR 46, vR 51, vR 60, vR 69, vR 70, vR 72, vR 74, vR 76, vR 78, vI 0, vI 0])) (c0 : (xs 1) < 4) (hd : 7 ≤ d) : ab_F X d y_LA_keep (.codeWith y_LA_keep b_LA_keep 3 (some (.int)) [(0, 5, 8, 13)]) [vR 18, vI (xs 1)] G (fun o G2 => o = .returned (some (vI 1)) ∧ ab_fr [149] G G2 ∧ G2.length = 150 ∧ ab_slots G2 = 1890759 ∧ G2[149]? = some (ab_ob 13 [])) := by
  refine ab_F_ofW (by decide +kernel) (Nat.le_of_ble_eq_true rfl) ?_
  obtain ⟨Q, hQ⟩ : ∃ z : Outcome → ab_G → Prop, z = (fun o G2 => o = .returned (some (vI 1)) ∧ ab_fr [149] G G2 ∧ G2.length = 150 ∧ ab_slots G2 = 1890759 ∧ G2[149]? = some (ab_ob 13 [])) := ⟨_, rfl⟩
  rw [← hQ]
  change ab_W X (ab_plW y_LA_keep b_LA_keep 3 (some (.int)) [(0, 5, 8, 13)]) d G 0 [some (vR 18), some (vI (xs 1)), none] [] Q
  have hfr : ab_fr [149] G G := ab_fr.rf
  refine ab_aload_n d_LA_keep_0 rfl ?_
  refine ab_iload_n d_LA_keep_1 rfl ?_
  refine ab_callVT (d' := d - 1) (hp := 8) (ct := 13) (as := [vI (xs 1)]) (st := []) (q_PW_keep_0 (xs := xs) hlen hsl c0 (by omega)) (fun o G2 h => ⟨_, h.1, h.2.2.2.2⟩) (by omega) m_PW_keep mw_LA_29 im_PW_keep se_PW_keep c_PW h18 (Nat.le_of_ble_eq_true rfl) d_LA_keep_2 rfl (fun c hc => ab_hx hc (by decide)) (by decide) cl_LA_13 cast_IA ?_
  intro v G1 hq
  obtain ⟨hv, hfk, hlen, hsl, h149⟩ := hq
  cases hv
  have h18 := hfk.get (by decide) h18
  have hfr := hfr.cl hfk (by decide)
  change ab_W _ _ _ G1 8 [some (vR 18), some (vI (xs 1)), none] [vR 149] _
  refine ab_astore_n d_LA_keep_8 (Nat.le_of_ble_eq_true rfl) (Nat.le_of_ble_eq_true rfl) rfl ?_
  change ab_W _ _ _ G1 9 [some (vR 18), some (vI (xs 1)), some (vR 149)] [] _
  refine ab_iconst (v := 1) d_LA_keep_9 (by decide) ?_
  exact ab_iret (rt := .int) rfl rfl d_LA_keep_10 (by rw [hQ]; exact ⟨rfl, hfr, hlen, hsl, h149⟩)
set_option maxRecDepth 100000 in
set_option maxHeartbeats 4000000 in
theorem q_MO_keep_0 {X : ab_X} {d : Nat} {G : ab_G} {xs : Nat → Int32} (hlen : G.length = 150) (hsl : ab_slots G = 1890759) (h80 : G[80]? = some (ab_ob 12 (m_fv (vI 0) (vI 0) (vI 0) (vI 0) (vI 0) (vI 0) (vI 0) (vI 0) (vI 0) (vI 0) (vI 0) (vI 0) (vI (-1)) (vI 0) (vI 0) (vI 0) (vI 0) (vI 0) (vI 0) (vI 0) (vI 0) (vI 0) (vI 0) (vI 0) (vI 0) (vI 0) (vI 0) (vI 0) (vI 0) (vI 0) (vI 0) (vI 0) (vI 0) (vI 0) (vI 0)))) (c0 : (xs 1) < 4) : ab_F X d y_MO_keep (.code y_MO_keep b_MO_keep 2 none) [vR 80, vI (xs 1)] G (fun o G2 => o = .returned none ∧ ab_fr [80] G G2 ∧ G2.length = 150 ∧ ab_slots G2 = 1890759 ∧ G2[80]? = some (ab_ob 12 (m_fv (vI 1) (vI 0) (vI 0) (vI 0) (vI 0) (vI 0) (vI 0) (vI 0) (vI 0) (vI 0) (vI 0) (vI 0) (vI (-1)) (vI 0) (vI 0) (vI 0) (vI 0) (vI 0) (vI 0) (vI 0) (vI 0) (vI 0) (vI 0) (vI 0) (vI 0) (vI 0) (vI 0) (vI 0) (vI 0) (vI 0) (vI 0) (vI 0) (vI 0) (vI 0) (vI 0)))) := by
  refine ab_F_of (by decide +kernel) (Nat.le_of_ble_eq_true rfl) ?_
  obtain ⟨Q, hQ⟩ : ∃ z : Outcome → ab_G → Prop, z = (fun o G2 => o = .returned none ∧ ab_fr [80] G G2 ∧ G2.length = 150 ∧ ab_slots G2 = 1890759 ∧ G2[80]? = some (ab_ob 12 (m_fv (vI 1) (vI 0) (vI 0) (vI 0) (vI 0) (vI 0) (vI 0) (vI 0) (vI 0) (vI 0) (vI 0) (vI 0) (vI (-1)) (vI 0) (vI 0) (vI 0) (vI 0) (vI 0) (vI 0) (vI 0) (vI 0) (vI 0) (vI 0) (vI 0) (vI 0) (vI 0) (vI 0) (vI 0) (vI 0) (vI 0) (vI 0) (vI 0) (vI 0) (vI 0) (vI 0)))) := ⟨_, rfl⟩
  rw [← hQ]
  change ab_W X (ab_pl y_MO_keep b_MO_keep 2 none) d G 0 [some (vR 80), some (vI (xs 1))] [] Q
  have hfr : ab_fr [80] G G := ab_fr.rf
  refine ab_aload_n d_MO_keep_0 rfl ?_
  refine ab_iload_n d_MO_keep_1 rfl ?_
  refine ab_iconst (v := 4) d_MO_keep_2 (by decide) ?_
  refine ab_icmp_lt (tgt := 12) d_MO_keep_3 (by decide) (fun c1 => ?_) (fun c1 => ?_)
  · refine ab_iconst (v := 1) d_MO_keep_12 (by decide) ?_
    refine ab_goto (tgt := 17) d_MO_keep_13 (by decide) ?_
    refine ab_putf (fs := (m_fv (vI 0) (vI 0) (vI 0) (vI 0) (vI 0) (vI 0) (vI 0) (vI 0) (vI 0) (vI 0) (vI 0) (vI 0) (vI (-1)) (vI 0) (vI 0) (vI 0) (vI 0) (vI 0) (vI 0) (vI 0) (vI 0) (vI 0) (vI 0) (vI 0) (vI 0) (vI 0) (vI 0) (vI 0) (vI 0) (vI 0) (vI 0) (vI 0) (vI 0) (vI 0) (vI 0))) f_MO_220 (Or.inl rfl) d_MO_keep_17 h80 (Nat.le_of_ble_eq_true rfl) (fun _ => ⟨rfl, rfl⟩) (by decide) ?_
    obtain ⟨G1, eG1⟩ : ∃ z : ab_G, z = List.set G 80 (ab_ob 12 (m_fv (vI 1) (vI 0) (vI 0) (vI 0) (vI 0) (vI 0) (vI 0) (vI 0) (vI 0) (vI 0) (vI 0) (vI 0) (vI (-1)) (vI 0) (vI 0) (vI 0) (vI 0) (vI 0) (vI 0) (vI 0) (vI 0) (vI 0) (vI 0) (vI 0) (vI 0) (vI 0) (vI 0) (vI 0) (vI 0) (vI 0) (vI 0) (vI 0) (vI 0) (vI 0) (vI 0))) := ⟨_, rfl⟩
    have hlen := ab_klen eG1 hlen
    have hsl := ab_ksl 102 eG1 h80 rfl rfl hsl
    have hfr := hfr.wr eG1 (by decide)
    have h80 := ab_kept eG1 h80
    change ab_W _ _ _ (List.set G 80 (ab_ob 12 (m_fv (vI 1) (vI 0) (vI 0) (vI 0) (vI 0) (vI 0) (vI 0) (vI 0) (vI 0) (vI 0) (vI 0) (vI 0) (vI (-1)) (vI 0) (vI 0) (vI 0) (vI 0) (vI 0) (vI 0) (vI 0) (vI 0) (vI 0) (vI 0) (vI 0) (vI 0) (vI 0) (vI 0) (vI 0) (vI 0) (vI 0) (vI 0) (vI 0) (vI 0) (vI 0) (vI 0)))) 20 [some (vR 80), some (vI (xs 1))] [] _
    rw [← eG1]
    exact ab_vret rfl d_MO_keep_20 (by rw [hQ]; exact ⟨rfl, hfr, hlen, hsl, h80⟩)
  · exfalso; have l0 := (show (4 : Int32).toInt = 4 by decide); simp only [Int32.le_iff_toInt_le, Int32.lt_iff_toInt_lt, ← Int32.toInt_inj] at c0 c1; omega
set_option maxRecDepth 100000 in
set_option maxHeartbeats 4000000 in
theorem lc_17a {X : ab_X} {d : Nat} {G : ab_G} {xs : Nat → Int32} (hlen : G.length = 149) (hsl : ab_slots G = 1890753) (h0 : G[0]? = some (ab_if 6 (xs))) (h18 : G[18]? = some (ab_ob 0 [vR 19, vR 20, vR 22, vR 30, vR 31, vR 36, vR 37, vR 46, vR 51, vR 60, vR 69, vR 70, vR 72, vR 74, vR 76, vR 78, vI 0, vI 0])) (h80 : G[80]? = some (ab_ob 12 (m_fv (vI 0) (vI 0) (vI 0) (vI 0) (vI 0) (vI 0) (vI 0) (vI 0) (vI 0) (vI 0) (vI 0) (vI 0) (vI (-1)) (vI 0) (vI 0) (vI 0) (vI 0) (vI 0) (vI 0) (vI 0) (vI 0) (vI 0) (vI 0) (vI 0) (vI 0) (vI 0) (vI 0) (vI 0) (vI 0) (vI 0) (vI 0) (vI 0) (vI 0) (vI 0) (vI 0)))) (c0 : (xs 1) < 4) (hd : 8 ≤ d) : ab_W X ab_LW d G 882 [some (vR 0), some (vR 18), some (vR 80), some (vR 148), some (vI 0), none, none] [] (fun o _ => o = .returned (some (vI 1))) := by
  obtain ⟨Q, hQ⟩ : ∃ z : Outcome → ab_G → Prop, z = (fun o _ => o = .returned (some (vI 1))) := ⟨_, rfl⟩
  rw [← hQ]
  have hfr : ab_fr [80, 149] G G := ab_fr.rf
  refine ab_aload_n d_LA_law_882 rfl ?_
  refine ab_aload_n d_LA_law_883 rfl ?_
  refine ab_iload d_LA_law_884 rfl ?_
  refine ab_iconst (v := 1) d_LA_law_886 (by decide) ?_
  refine ab_iadd d_LA_law_887 ?_
  refine ab_topi (y := 1) (by decide) ?_
  refine ab_iald d_LA_law_888 h0 (by unfold vp_in; decide) ?_
  refine ab_topi (y := (xs 1)) rfl ?_
  refine ab_callSW (d' := d - 1) (as := [vR 18, vI (xs 1)]) (st := []) (q_LA_keep_0 (xs := xs) hlen hsl h18 c0 (by omega)) (fun o G2 h => ⟨_, h.1⟩) (by omega) m_LA_keep mw_LA_112 st_LA_keep (Nat.le_of_ble_eq_true rfl) d_LA_law_889 rfl ?_
  intro v G1 hq
  obtain ⟨hv, hfk, hlen, hsl, h149⟩ := hq
  cases hv
  have h0 := hfk.get (by decide) h0
  have h18 := hfk.get (by decide) h18
  have h80 := hfk.get (by decide) h80
  have hfr := hfr.cl hfk (by decide)
  change ab_W _ _ _ G1 892 [some (vR 0), some (vR 18), some (vR 80), some (vR 148), some (vI 0), none, none] [vI 1] _
  refine ab_istore d_LA_law_892 (Nat.le_of_ble_eq_true rfl) (Nat.le_of_ble_eq_true rfl) rfl ?_
  change ab_W _ _ _ G1 894 [some (vR 0), some (vR 18), some (vR 80), some (vR 148), some (vI 0), some (vI 1), none] [] _
  refine ab_aload_n d_LA_law_894 rfl ?_
  refine ab_aload_n d_LA_law_895 rfl ?_
  refine ab_iload d_LA_law_896 rfl ?_
  refine ab_iconst (v := 1) d_LA_law_898 (by decide) ?_
  refine ab_iadd d_LA_law_899 ?_
  refine ab_topi (y := 1) (by decide) ?_
  refine ab_iald d_LA_law_900 h0 (by unfold vp_in; decide) ?_
  refine ab_topi (y := (xs 1)) rfl ?_
  refine ab_callV (d' := d - 1) (as := [vI (xs 1)]) (st := []) (r := _) (q_MO_keep_0 (xs := xs) hlen hsl h80 c0) (fun o G2 h => ⟨_, h.1⟩) (by omega) m_MO_keep ml_LA_115 im_MO_keep se_MO_keep c_MO h80 (Nat.le_of_ble_eq_true rfl) d_LA_law_901 rfl ?_
  intro v G2 hq
  obtain ⟨hv, hfk, hlen, hsl, h80⟩ := hq
  cases hv
  have h0 := hfk.get (by decide) h0
  have h18 := hfk.get (by decide) h18
  have h149 := hfk.get (by decide) h149
  have hfr := hfr.cl hfk (by decide)
  change ab_W _ _ _ G2 904 [some (vR 0), some (vR 18), some (vR 80), some (vR 148), some (vI 0), some (vI 1), none] [] _
  refine ab_aload_n d_LA_law_904 rfl ?_
  refine ab_callV (d' := d - 1) (as := []) (st := []) (r := _) (q_MO_thrown_0  hlen hsl h80) (fun o G2 h => ⟨_, h.1⟩) (by omega) m_MO_thrown ml_LA_52 im_MO_thrown se_MO_thrown c_MO h80 (Nat.le_of_ble_eq_true rfl) d_LA_law_905 rfl ?_
  intro v G3 hq
  obtain ⟨hv, hfk, hlen, hsl⟩ := hq
  cases hv
  have h0 := hfk.get (by decide) h0
  have h18 := hfk.get (by decide) h18
  have h80 := hfk.get (by decide) h80
  have h149 := hfk.get (by decide) h149
  have hfr := hfr.cl hfk (by decide)
  change ab_W _ _ _ G3 908 [some (vR 0), some (vR 18), some (vR 80), some (vR 148), some (vI 0), some (vI 1), none] [vI 1] _
  refine ab_iload d_LA_law_908 rfl ?_
  refine ab_icmp_eq (tgt := 915) d_LA_law_910 (by decide) (fun _ => ?_) (fun c => absurd c (by decide))
  refine ab_goto (tgt := 931) d_LA_law_915 (by decide) ?_
  refine ab_iinc (v := 6) d_LA_law_931 rfl (by decide) (Nat.le_of_ble_eq_true rfl) (Nat.le_of_ble_eq_true rfl) rfl ?_
  change ab_W _ _ _ G3 934 [some (vR 0), some (vR 18), some (vR 80), some (vR 148), some (vI 6), some (vI 1), none] [] _
  refine ab_goto (tgt := 23) d_LA_law_934 (by decide) ?_
  refine ab_iload d_LA_law_23 rfl ?_
  refine ab_aload_n d_LA_law_25 rfl ?_
  refine ab_alen (v := 6) d_LA_law_26 h0 (by first | decide | rfl) ?_
  refine ab_bipush (v := 6) d_LA_law_27 (by decide) ?_
  refine ab_isub d_LA_law_29 ?_
  refine ab_topi (y := 0) (by decide) ?_
  refine ab_icmp_gt (tgt := 937) d_LA_law_30 (by decide) (fun _ => ?_) (fun c => absurd c (by decide))
  refine ab_iconst (v := 1) d_LA_law_937 (by decide) ?_
  exact ab_iret (rt := .boolean) rfl (by decide) d_LA_law_938 (by rw [hQ])
set_option maxRecDepth 100000 in
set_option maxHeartbeats 4000000 in
theorem q_PW_keep_1 {X : ab_X} {d : Nat} {G : ab_G} {xs : Nat → Int32} (hlen : G.length = 149) (hsl : ab_slots G = 1890753) (c0 : 4 ≤ (xs 1)) (c1 : 64 < (xs 1)) (hd : 6 ≤ d) : ab_F X d y_PW_keep (.code y_PW_keep b_PW_keep 2 none) [vR 18, vI (xs 1)] G (fun o G2 => o = .threw 149 ∧ ab_fr [149] G G2 ∧ G2.length = 150 ∧ ab_slots G2 = 1890759 ∧ G2[149]? = some (ab_ob 13 [])) := by
  refine ab_F_of (by decide +kernel) (Nat.le_of_ble_eq_true rfl) ?_
  obtain ⟨Q, hQ⟩ : ∃ z : Outcome → ab_G → Prop, z = (fun o G2 => o = .threw 149 ∧ ab_fr [149] G G2 ∧ G2.length = 150 ∧ ab_slots G2 = 1890759 ∧ G2[149]? = some (ab_ob 13 [])) := ⟨_, rfl⟩
  rw [← hQ]
  change ab_W X (ab_pl y_PW_keep b_PW_keep 2 none) d G 0 [some (vR 18), some (vI (xs 1))] [] Q
  have hfr : ab_fr [149] G G := ab_fr.rf
  refine ab_iload_n d_PW_keep_0 rfl ?_
  refine ab_iconst (v := 4) d_PW_keep_1 (by decide) ?_
  refine ab_icmp_lt (tgt := 11) d_PW_keep_2 (by decide) (fun c2 => ?_) (fun c2 => ?_)
  · exfalso; have l0 := (show (4 : Int32).toInt = 4 by decide); have l1 := (show (64 : Int32).toInt = 64 by decide); simp only [Int32.le_iff_toInt_le, Int32.lt_iff_toInt_lt, ← Int32.toInt_inj] at c0 c1 c2; omega
  · refine ab_iload_n d_PW_keep_5 rfl ?_
    refine ab_bipush (v := 64) d_PW_keep_6 (by decide) ?_
    refine ab_icmp_le (tgt := 21) d_PW_keep_8 (by decide) (fun c3 => ?_) (fun c3 => ?_)
    · exfalso; have l0 := (show (4 : Int32).toInt = 4 by decide); have l1 := (show (64 : Int32).toInt = 64 by decide); simp only [Int32.le_iff_toInt_le, Int32.lt_iff_toInt_lt, ← Int32.toInt_inj] at c0 c1 c2 c3; omega
    · refine ab_throw (tx := "no such number of states") (by decide) (fun c h => h) cl_PW_109 inst_IA ini_IA tw_PW_113 d_PW_keep_11 d_PW_keep_14 d_PW_keep_15 d_PW_keep_17 d_PW_keep_20 (by omega) (by rw [hlen]; decide) (by rw [hsl]; decide) ?_
      rw [hlen]
      obtain ⟨G1, eG1⟩ : ∃ z : ab_G, z = G ++ [ab_ob 13 []] := ⟨_, rfl⟩
      have h149 := ab_anew1 eG1 hlen
      have hsl : ab_slots G1 = 1890759 := ab_asl (z := 6) eG1 hlen (by decide) hsl rfl (by decide)
      have hlen : G1.length = 150 := ab_alen1 eG1 hlen
      have hfr := hfr.ap eG1
      rw [← eG1, hQ]
      exact ⟨rfl, hfr, hlen, hsl, h149⟩
set_option maxRecDepth 100000 in
set_option maxHeartbeats 4000000 in
theorem q_LA_keep_1 {X : ab_X} {d : Nat} {G : ab_G} {xs : Nat → Int32} (hlen : G.length = 149) (hsl : ab_slots G = 1890753) (h18 : G[18]? = some (ab_ob 0 [vR 19, vR 20, vR 22, vR 30, vR 31, vR 36, vR 37, vR 46, vR 51, vR 60, vR 69, vR 70, vR 72, vR 74, vR 76, vR 78, vI 0, vI 0])) (c0 : 4 ≤ (xs 1)) (c1 : 64 < (xs 1)) (hd : 7 ≤ d) : ab_F X d y_LA_keep (.codeWith y_LA_keep b_LA_keep 3 (some (.int)) [(0, 5, 8, 13)]) [vR 18, vI (xs 1)] G (fun o G2 => o = .returned (some (vI 1)) ∧ ab_fr [149] G G2 ∧ G2.length = 150 ∧ ab_slots G2 = 1890759 ∧ G2[149]? = some (ab_ob 13 [])) := by
  refine ab_F_ofW (by decide +kernel) (Nat.le_of_ble_eq_true rfl) ?_
  obtain ⟨Q, hQ⟩ : ∃ z : Outcome → ab_G → Prop, z = (fun o G2 => o = .returned (some (vI 1)) ∧ ab_fr [149] G G2 ∧ G2.length = 150 ∧ ab_slots G2 = 1890759 ∧ G2[149]? = some (ab_ob 13 [])) := ⟨_, rfl⟩
  rw [← hQ]
  change ab_W X (ab_plW y_LA_keep b_LA_keep 3 (some (.int)) [(0, 5, 8, 13)]) d G 0 [some (vR 18), some (vI (xs 1)), none] [] Q
  have hfr : ab_fr [149] G G := ab_fr.rf
  refine ab_aload_n d_LA_keep_0 rfl ?_
  refine ab_iload_n d_LA_keep_1 rfl ?_
  refine ab_callVT (d' := d - 1) (hp := 8) (ct := 13) (as := [vI (xs 1)]) (st := []) (q_PW_keep_1 (xs := xs) hlen hsl c0 c1 (by omega)) (fun o G2 h => ⟨_, h.1, h.2.2.2.2⟩) (by omega) m_PW_keep mw_LA_29 im_PW_keep se_PW_keep c_PW h18 (Nat.le_of_ble_eq_true rfl) d_LA_keep_2 rfl (fun c hc => ab_hx hc (by decide)) (by decide) cl_LA_13 cast_IA ?_
  intro v G1 hq
  obtain ⟨hv, hfk, hlen, hsl, h149⟩ := hq
  cases hv
  have h18 := hfk.get (by decide) h18
  have hfr := hfr.cl hfk (by decide)
  change ab_W _ _ _ G1 8 [some (vR 18), some (vI (xs 1)), none] [vR 149] _
  refine ab_astore_n d_LA_keep_8 (Nat.le_of_ble_eq_true rfl) (Nat.le_of_ble_eq_true rfl) rfl ?_
  change ab_W _ _ _ G1 9 [some (vR 18), some (vI (xs 1)), some (vR 149)] [] _
  refine ab_iconst (v := 1) d_LA_keep_9 (by decide) ?_
  exact ab_iret (rt := .int) rfl rfl d_LA_keep_10 (by rw [hQ]; exact ⟨rfl, hfr, hlen, hsl, h149⟩)
set_option maxRecDepth 100000 in
set_option maxHeartbeats 4000000 in
theorem q_MO_keep_1 {X : ab_X} {d : Nat} {G : ab_G} {xs : Nat → Int32} (hlen : G.length = 150) (hsl : ab_slots G = 1890759) (h80 : G[80]? = some (ab_ob 12 (m_fv (vI 0) (vI 0) (vI 0) (vI 0) (vI 0) (vI 0) (vI 0) (vI 0) (vI 0) (vI 0) (vI 0) (vI 0) (vI (-1)) (vI 0) (vI 0) (vI 0) (vI 0) (vI 0) (vI 0) (vI 0) (vI 0) (vI 0) (vI 0) (vI 0) (vI 0) (vI 0) (vI 0) (vI 0) (vI 0) (vI 0) (vI 0) (vI 0) (vI 0) (vI 0) (vI 0)))) (c0 : 4 ≤ (xs 1)) (c1 : 64 < (xs 1)) : ab_F X d y_MO_keep (.code y_MO_keep b_MO_keep 2 none) [vR 80, vI (xs 1)] G (fun o G2 => o = .returned none ∧ ab_fr [80] G G2 ∧ G2.length = 150 ∧ ab_slots G2 = 1890759 ∧ G2[80]? = some (ab_ob 12 (m_fv (vI 1) (vI 0) (vI 0) (vI 0) (vI 0) (vI 0) (vI 0) (vI 0) (vI 0) (vI 0) (vI 0) (vI 0) (vI (-1)) (vI 0) (vI 0) (vI 0) (vI 0) (vI 0) (vI 0) (vI 0) (vI 0) (vI 0) (vI 0) (vI 0) (vI 0) (vI 0) (vI 0) (vI 0) (vI 0) (vI 0) (vI 0) (vI 0) (vI 0) (vI 0) (vI 0)))) := by
  refine ab_F_of (by decide +kernel) (Nat.le_of_ble_eq_true rfl) ?_
  obtain ⟨Q, hQ⟩ : ∃ z : Outcome → ab_G → Prop, z = (fun o G2 => o = .returned none ∧ ab_fr [80] G G2 ∧ G2.length = 150 ∧ ab_slots G2 = 1890759 ∧ G2[80]? = some (ab_ob 12 (m_fv (vI 1) (vI 0) (vI 0) (vI 0) (vI 0) (vI 0) (vI 0) (vI 0) (vI 0) (vI 0) (vI 0) (vI 0) (vI (-1)) (vI 0) (vI 0) (vI 0) (vI 0) (vI 0) (vI 0) (vI 0) (vI 0) (vI 0) (vI 0) (vI 0) (vI 0) (vI 0) (vI 0) (vI 0) (vI 0) (vI 0) (vI 0) (vI 0) (vI 0) (vI 0) (vI 0)))) := ⟨_, rfl⟩
  rw [← hQ]
  change ab_W X (ab_pl y_MO_keep b_MO_keep 2 none) d G 0 [some (vR 80), some (vI (xs 1))] [] Q
  have hfr : ab_fr [80] G G := ab_fr.rf
  refine ab_aload_n d_MO_keep_0 rfl ?_
  refine ab_iload_n d_MO_keep_1 rfl ?_
  refine ab_iconst (v := 4) d_MO_keep_2 (by decide) ?_
  refine ab_icmp_lt (tgt := 12) d_MO_keep_3 (by decide) (fun c2 => ?_) (fun c2 => ?_)
  · exfalso; have l0 := (show (4 : Int32).toInt = 4 by decide); have l1 := (show (64 : Int32).toInt = 64 by decide); simp only [Int32.le_iff_toInt_le, Int32.lt_iff_toInt_lt, ← Int32.toInt_inj] at c0 c1 c2; omega
  · refine ab_iload_n d_MO_keep_6 rfl ?_
    refine ab_bipush (v := 64) d_MO_keep_7 (by decide) ?_
    refine ab_icmp_le (tgt := 16) d_MO_keep_9 (by decide) (fun c3 => ?_) (fun c3 => ?_)
    · exfalso; have l0 := (show (4 : Int32).toInt = 4 by decide); have l1 := (show (64 : Int32).toInt = 64 by decide); simp only [Int32.le_iff_toInt_le, Int32.lt_iff_toInt_lt, ← Int32.toInt_inj] at c0 c1 c2 c3; omega
    · refine ab_iconst (v := 1) d_MO_keep_12 (by decide) ?_
      refine ab_goto (tgt := 17) d_MO_keep_13 (by decide) ?_
      refine ab_putf (fs := (m_fv (vI 0) (vI 0) (vI 0) (vI 0) (vI 0) (vI 0) (vI 0) (vI 0) (vI 0) (vI 0) (vI 0) (vI 0) (vI (-1)) (vI 0) (vI 0) (vI 0) (vI 0) (vI 0) (vI 0) (vI 0) (vI 0) (vI 0) (vI 0) (vI 0) (vI 0) (vI 0) (vI 0) (vI 0) (vI 0) (vI 0) (vI 0) (vI 0) (vI 0) (vI 0) (vI 0))) f_MO_220 (Or.inl rfl) d_MO_keep_17 h80 (Nat.le_of_ble_eq_true rfl) (fun _ => ⟨rfl, rfl⟩) (by decide) ?_
      obtain ⟨G1, eG1⟩ : ∃ z : ab_G, z = List.set G 80 (ab_ob 12 (m_fv (vI 1) (vI 0) (vI 0) (vI 0) (vI 0) (vI 0) (vI 0) (vI 0) (vI 0) (vI 0) (vI 0) (vI 0) (vI (-1)) (vI 0) (vI 0) (vI 0) (vI 0) (vI 0) (vI 0) (vI 0) (vI 0) (vI 0) (vI 0) (vI 0) (vI 0) (vI 0) (vI 0) (vI 0) (vI 0) (vI 0) (vI 0) (vI 0) (vI 0) (vI 0) (vI 0))) := ⟨_, rfl⟩
      have hlen := ab_klen eG1 hlen
      have hsl := ab_ksl 102 eG1 h80 rfl rfl hsl
      have hfr := hfr.wr eG1 (by decide)
      have h80 := ab_kept eG1 h80
      change ab_W _ _ _ (List.set G 80 (ab_ob 12 (m_fv (vI 1) (vI 0) (vI 0) (vI 0) (vI 0) (vI 0) (vI 0) (vI 0) (vI 0) (vI 0) (vI 0) (vI 0) (vI (-1)) (vI 0) (vI 0) (vI 0) (vI 0) (vI 0) (vI 0) (vI 0) (vI 0) (vI 0) (vI 0) (vI 0) (vI 0) (vI 0) (vI 0) (vI 0) (vI 0) (vI 0) (vI 0) (vI 0) (vI 0) (vI 0) (vI 0)))) 20 [some (vR 80), some (vI (xs 1))] [] _
      rw [← eG1]
      exact ab_vret rfl d_MO_keep_20 (by rw [hQ]; exact ⟨rfl, hfr, hlen, hsl, h80⟩)
set_option maxRecDepth 100000 in
set_option maxHeartbeats 4000000 in
theorem lc_17b {X : ab_X} {d : Nat} {G : ab_G} {xs : Nat → Int32} (hlen : G.length = 149) (hsl : ab_slots G = 1890753) (h0 : G[0]? = some (ab_if 6 (xs))) (h18 : G[18]? = some (ab_ob 0 [vR 19, vR 20, vR 22, vR 30, vR 31, vR 36, vR 37, vR 46, vR 51, vR 60, vR 69, vR 70, vR 72, vR 74, vR 76, vR 78, vI 0, vI 0])) (h80 : G[80]? = some (ab_ob 12 (m_fv (vI 0) (vI 0) (vI 0) (vI 0) (vI 0) (vI 0) (vI 0) (vI 0) (vI 0) (vI 0) (vI 0) (vI 0) (vI (-1)) (vI 0) (vI 0) (vI 0) (vI 0) (vI 0) (vI 0) (vI 0) (vI 0) (vI 0) (vI 0) (vI 0) (vI 0) (vI 0) (vI 0) (vI 0) (vI 0) (vI 0) (vI 0) (vI 0) (vI 0) (vI 0) (vI 0)))) (c0 : 4 ≤ (xs 1)) (c1 : 64 < (xs 1)) (hd : 8 ≤ d) : ab_W X ab_LW d G 882 [some (vR 0), some (vR 18), some (vR 80), some (vR 148), some (vI 0), none, none] [] (fun o _ => o = .returned (some (vI 1))) := by
  obtain ⟨Q, hQ⟩ : ∃ z : Outcome → ab_G → Prop, z = (fun o _ => o = .returned (some (vI 1))) := ⟨_, rfl⟩
  rw [← hQ]
  have hfr : ab_fr [80, 149] G G := ab_fr.rf
  refine ab_aload_n d_LA_law_882 rfl ?_
  refine ab_aload_n d_LA_law_883 rfl ?_
  refine ab_iload d_LA_law_884 rfl ?_
  refine ab_iconst (v := 1) d_LA_law_886 (by decide) ?_
  refine ab_iadd d_LA_law_887 ?_
  refine ab_topi (y := 1) (by decide) ?_
  refine ab_iald d_LA_law_888 h0 (by unfold vp_in; decide) ?_
  refine ab_topi (y := (xs 1)) rfl ?_
  refine ab_callSW (d' := d - 1) (as := [vR 18, vI (xs 1)]) (st := []) (q_LA_keep_1 (xs := xs) hlen hsl h18 c0 c1 (by omega)) (fun o G2 h => ⟨_, h.1⟩) (by omega) m_LA_keep mw_LA_112 st_LA_keep (Nat.le_of_ble_eq_true rfl) d_LA_law_889 rfl ?_
  intro v G1 hq
  obtain ⟨hv, hfk, hlen, hsl, h149⟩ := hq
  cases hv
  have h0 := hfk.get (by decide) h0
  have h18 := hfk.get (by decide) h18
  have h80 := hfk.get (by decide) h80
  have hfr := hfr.cl hfk (by decide)
  change ab_W _ _ _ G1 892 [some (vR 0), some (vR 18), some (vR 80), some (vR 148), some (vI 0), none, none] [vI 1] _
  refine ab_istore d_LA_law_892 (Nat.le_of_ble_eq_true rfl) (Nat.le_of_ble_eq_true rfl) rfl ?_
  change ab_W _ _ _ G1 894 [some (vR 0), some (vR 18), some (vR 80), some (vR 148), some (vI 0), some (vI 1), none] [] _
  refine ab_aload_n d_LA_law_894 rfl ?_
  refine ab_aload_n d_LA_law_895 rfl ?_
  refine ab_iload d_LA_law_896 rfl ?_
  refine ab_iconst (v := 1) d_LA_law_898 (by decide) ?_
  refine ab_iadd d_LA_law_899 ?_
  refine ab_topi (y := 1) (by decide) ?_
  refine ab_iald d_LA_law_900 h0 (by unfold vp_in; decide) ?_
  refine ab_topi (y := (xs 1)) rfl ?_
  refine ab_callV (d' := d - 1) (as := [vI (xs 1)]) (st := []) (r := _) (q_MO_keep_1 (xs := xs) hlen hsl h80 c0 c1) (fun o G2 h => ⟨_, h.1⟩) (by omega) m_MO_keep ml_LA_115 im_MO_keep se_MO_keep c_MO h80 (Nat.le_of_ble_eq_true rfl) d_LA_law_901 rfl ?_
  intro v G2 hq
  obtain ⟨hv, hfk, hlen, hsl, h80⟩ := hq
  cases hv
  have h0 := hfk.get (by decide) h0
  have h18 := hfk.get (by decide) h18
  have h149 := hfk.get (by decide) h149
  have hfr := hfr.cl hfk (by decide)
  change ab_W _ _ _ G2 904 [some (vR 0), some (vR 18), some (vR 80), some (vR 148), some (vI 0), some (vI 1), none] [] _
  refine ab_aload_n d_LA_law_904 rfl ?_
  refine ab_callV (d' := d - 1) (as := []) (st := []) (r := _) (q_MO_thrown_0  hlen hsl h80) (fun o G2 h => ⟨_, h.1⟩) (by omega) m_MO_thrown ml_LA_52 im_MO_thrown se_MO_thrown c_MO h80 (Nat.le_of_ble_eq_true rfl) d_LA_law_905 rfl ?_
  intro v G3 hq
  obtain ⟨hv, hfk, hlen, hsl⟩ := hq
  cases hv
  have h0 := hfk.get (by decide) h0
  have h18 := hfk.get (by decide) h18
  have h80 := hfk.get (by decide) h80
  have h149 := hfk.get (by decide) h149
  have hfr := hfr.cl hfk (by decide)
  change ab_W _ _ _ G3 908 [some (vR 0), some (vR 18), some (vR 80), some (vR 148), some (vI 0), some (vI 1), none] [vI 1] _
  refine ab_iload d_LA_law_908 rfl ?_
  refine ab_icmp_eq (tgt := 915) d_LA_law_910 (by decide) (fun _ => ?_) (fun c => absurd c (by decide))
  refine ab_goto (tgt := 931) d_LA_law_915 (by decide) ?_
  refine ab_iinc (v := 6) d_LA_law_931 rfl (by decide) (Nat.le_of_ble_eq_true rfl) (Nat.le_of_ble_eq_true rfl) rfl ?_
  change ab_W _ _ _ G3 934 [some (vR 0), some (vR 18), some (vR 80), some (vR 148), some (vI 6), some (vI 1), none] [] _
  refine ab_goto (tgt := 23) d_LA_law_934 (by decide) ?_
  refine ab_iload d_LA_law_23 rfl ?_
  refine ab_aload_n d_LA_law_25 rfl ?_
  refine ab_alen (v := 6) d_LA_law_26 h0 (by first | decide | rfl) ?_
  refine ab_bipush (v := 6) d_LA_law_27 (by decide) ?_
  refine ab_isub d_LA_law_29 ?_
  refine ab_topi (y := 0) (by decide) ?_
  refine ab_icmp_gt (tgt := 937) d_LA_law_30 (by decide) (fun _ => ?_) (fun c => absurd c (by decide))
  refine ab_iconst (v := 1) d_LA_law_937 (by decide) ?_
  exact ab_iret (rt := .boolean) rfl (by decide) d_LA_law_938 (by rw [hQ])
