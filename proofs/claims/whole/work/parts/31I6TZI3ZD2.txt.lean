set_option maxRecDepth 100000 in
set_option maxHeartbeats 4000000 in
theorem z_MO_here {X : ab_X} {d : Nat} {o : Nat → Nat} {G : ab_G} {m_thrown : Int} {m_taped : Int} {m_length : Int} {m_out : Int} {m_wide : Int} {m_gathered : Int} {m_sets : Int} {m_ranges : Int} {m_nodes : Int} {m_at : Int} {m_flags : Int} {m_fault : Int} {m_place : Int} {m_numbered : Int} {m_depth : Int} {m_value : Int} {m_isNot : Int} {m_least0 : Int} {m_most0 : Int} {m_slot : Int} {m_work : Int} {m_got : Int} {m_rowMany : Int} {m_charAt : Int} {m_charWide : Int} {m_trail : Int} {m_isMatch : Int} {m_matchGroups : Int} {m_allFrom : Int} {m_allBefore : Int} {m_founds : Int} {m_pieces : Int} {m_writtenMany : Int} {m_templateWide : Int} {m_tooMuch : Int} {A_tape : Int → Int} {k : Int} {qh : Int} (h80 : cc o G 80 280 (ab_ob 12 (mof m_thrown m_taped m_length m_out m_wide m_gathered m_sets m_ranges m_nodes m_at m_flags m_fault m_place m_numbered m_depth m_value m_isNot m_least0 m_most0 m_slot m_work m_got m_rowMany m_charAt m_charWide m_trail m_isMatch m_matchGroups m_allFrom m_allBefore m_founds m_pieces m_writtenMany m_templateWide m_tooMuch))) (h84 : cc o G 84 284 (za 2000 A_tape)) (cat : 0 ≤ m_at ∧ m_at ≤ 4000) (cta : 0 ≤ m_taped ∧ m_taped ≤ 2000) (jtp : rgs A_tape 2000 0 255) (ck : 0 ≤ k ∧ k ≤ 2100) (cqh : qh = m_at + k) : ab_F X d y_MO_here (.code y_MO_here b_MO_here 2 (some (.int))) [vR 80, vz k] G (fun oc G2 => (oc = .returned (some (vz (tpk A_tape m_taped qh))) ∧ G2 = G ∧ (0 ≤ tpk A_tape m_taped qh ∧ tpk A_tape m_taped qh ≤ 255 ∧ m_at + k < m_taped)) ∨ (oc = .returned (some (vz (-1))) ∧ G2 = G ∧ (m_taped ≤ m_at + k) ∧ (tpk A_tape m_taped qh = -1))) := by
  refine ab_F_of (by decide +kernel) (Nat.le_of_ble_eq_true rfl) ?_
  obtain ⟨Q, hQ⟩ : ∃ z : Outcome → ab_G → Prop, z = (fun oc G2 => (oc = .returned (some (vz (tpk A_tape m_taped qh))) ∧ G2 = G ∧ (0 ≤ tpk A_tape m_taped qh ∧ tpk A_tape m_taped qh ≤ 255 ∧ m_at + k < m_taped)) ∨ (oc = .returned (some (vz (-1))) ∧ G2 = G ∧ (m_taped ≤ m_at + k) ∧ (tpk A_tape m_taped qh = -1))) := ⟨_, rfl⟩
  rw [← hQ]
  change ab_W X (ab_pl y_MO_here b_MO_here 2 (some (.int))) d G 0 [some (vR 80), some (vz k)] [] Q
  have hfr : fx o o [] G G := fx.rf
  have hlen : G.length = G.length := rfl
  have hsl : ab_slots G = ab_slots G := rfl
  refine ab_aload_n d_MO_here_0 rfl ?_
  refine ab_getf (fs := mof m_thrown m_taped m_length m_out m_wide m_gathered m_sets m_ranges m_nodes m_at m_flags m_fault m_place m_numbered m_depth m_value m_isNot m_least0 m_most0 m_slot m_work m_got m_rowMany m_charAt m_charWide m_trail m_isMatch m_matchGroups m_allFrom m_allBefore m_founds m_pieces m_writtenMany m_templateWide m_tooMuch) f_MO_279 d_MO_here_1 h80.2.2 rfl ?_
  refine ab_iload_n d_MO_here_4 rfl ?_
  refine zz_iadd d_MO_here_5 ?_
  refine ab_aload_n d_MO_here_6 rfl ?_
  refine ab_getf (fs := mof m_thrown m_taped m_length m_out m_wide m_gathered m_sets m_ranges m_nodes m_at m_flags m_fault m_place m_numbered m_depth m_value m_isNot m_least0 m_most0 m_slot m_work m_got m_rowMany m_charAt m_charWide m_trail m_isMatch m_matchGroups m_allFrom m_allBefore m_founds m_pieces m_writtenMany m_templateWide m_tooMuch) f_MO_223 d_MO_here_7 h80.2.2 rfl ?_
  refine zz_icmp_ge (tgt := 27) d_MO_here_10 (by decide) (by omega) (by omega) (fun c1 => ?_) (fun c1 => ?_)
  · refine zz_iconst d_MO_here_27 ?_
    refine zz_iret rfl d_MO_here_28 ?_
    rw [hQ]; exact (Or.inr ⟨rfl, rfl, (by omega), (by exact tpk_off (by omega))⟩)
  · refine ab_aload_n d_MO_here_13 rfl ?_
    refine ab_getf (fs := mof m_thrown m_taped m_length m_out m_wide m_gathered m_sets m_ranges m_nodes m_at m_flags m_fault m_place m_numbered m_depth m_value m_isNot m_least0 m_most0 m_slot m_work m_got m_rowMany m_charAt m_charWide m_trail m_isMatch m_matchGroups m_allFrom m_allBefore m_founds m_pieces m_writtenMany m_templateWide m_tooMuch) f_MO_19 d_MO_here_14 h80.2.2 rfl ?_
    refine ab_aload_n d_MO_here_17 rfl ?_
    refine ab_getf (fs := mof m_thrown m_taped m_length m_out m_wide m_gathered m_sets m_ranges m_nodes m_at m_flags m_fault m_place m_numbered m_depth m_value m_isNot m_least0 m_most0 m_slot m_work m_got m_rowMany m_charAt m_charWide m_trail m_isMatch m_matchGroups m_allFrom m_allBefore m_founds m_pieces m_writtenMany m_templateWide m_tooMuch) f_MO_279 d_MO_here_18 h80.2.2 rfl ?_
    refine ab_iload_n d_MO_here_21 rfl ?_
    refine zz_iadd d_MO_here_22 ?_
    refine zz_iald d_MO_here_23 h84 (by omega) ?_
    have hq2 := jtp (m_at + k) (by omega) (by omega)
    refine ab_goto (tgt := 28) d_MO_here_24 (by decide) ?_
    refine zz_top (y := tpk A_tape m_taped qh) (by rw [cqh]; exact (tpk_at (by omega)).symm) ?_
    have hqe_ : tpk A_tape m_taped qh = A_tape (m_at + k) := by rw [cqh]; exact tpk_at (by omega)
    change ab_W _ _ _ G 28 [some (vR 80), some (vz k)] [vz (tpk A_tape m_taped qh)] _
    refine zz_iret rfl d_MO_here_28 ?_
    rw [hQ]; exact (Or.inl ⟨rfl, rfl, (by omega)⟩)
set_option maxRecDepth 100000 in
set_option maxHeartbeats 4000000 in
theorem z1_MO_has {X : ab_X} {d : Nat} {o : Nat → Nat} {G : ab_G} {m_thrown : Int} {m_taped : Int} {m_length : Int} {m_out : Int} {m_wide : Int} {m_gathered : Int} {m_sets : Int} {m_ranges : Int} {m_nodes : Int} {m_at : Int} {m_flags : Int} {m_fault : Int} {m_place : Int} {m_numbered : Int} {m_depth : Int} {m_value : Int} {m_isNot : Int} {m_least0 : Int} {m_most0 : Int} {m_slot : Int} {m_work : Int} {m_got : Int} {m_rowMany : Int} {m_charAt : Int} {m_charWide : Int} {m_trail : Int} {m_isMatch : Int} {m_matchGroups : Int} {m_allFrom : Int} {m_allBefore : Int} {m_founds : Int} {m_pieces : Int} {m_writtenMany : Int} {m_templateWide : Int} {m_tooMuch : Int} (h80 : cc o G 80 280 (ab_ob 12 (mof m_thrown m_taped m_length m_out m_wide m_gathered m_sets m_ranges m_nodes m_at m_flags m_fault m_place m_numbered m_depth m_value m_isNot m_least0 m_most0 m_slot m_work m_got m_rowMany m_charAt m_charWide m_trail m_isMatch m_matchGroups m_allFrom m_allBefore m_founds m_pieces m_writtenMany m_templateWide m_tooMuch))) (cfl : 0 ≤ m_flags ∧ m_flags ≤ 31) : ab_F X d y_MO_has (.code y_MO_has b_MO_has 2 (some (.boolean))) [vR 80, vz 1] G (fun oc G2 => ∃ v : Int, oc = .returned (some (vz v)) ∧ G2 = G ∧ (0 ≤ v ∧ v ≤ 1) ∧ (v = m_flags / 1 % 2)) := by
  refine ab_F_of (by decide +kernel) (Nat.le_of_ble_eq_true rfl) ?_
  obtain ⟨Q, hQ⟩ : ∃ z : Outcome → ab_G → Prop, z = (fun oc G2 => ∃ v : Int, oc = .returned (some (vz v)) ∧ G2 = G ∧ (0 ≤ v ∧ v ≤ 1) ∧ (v = m_flags / 1 % 2)) := ⟨_, rfl⟩
  rw [← hQ]
  change ab_W X (ab_pl y_MO_has b_MO_has 2 (some (.boolean))) d G 0 [some (vR 80), some (vz 1)] [] Q
  have hfr : fx o o [] G G := fx.rf
  have hlen : G.length = G.length := rfl
  have hsl : ab_slots G = ab_slots G := rfl
  refine ab_aload_n d_MO_has_0 rfl ?_
  refine ab_getf (fs := mof m_thrown m_taped m_length m_out m_wide m_gathered m_sets m_ranges m_nodes m_at m_flags m_fault m_place m_numbered m_depth m_value m_isNot m_least0 m_most0 m_slot m_work m_got m_rowMany m_charAt m_charWide m_trail m_isMatch m_matchGroups m_allFrom m_allBefore m_founds m_pieces m_writtenMany m_templateWide m_tooMuch) f_MO_276 d_MO_has_1 h80.2.2 rfl ?_
  refine ab_iload_n d_MO_has_4 rfl ?_
  refine zz_iand5 (c := 1) 0 d_MO_has_5 (by decide) (by decide) (by decide) (by omega) ?_
  refine zz_if_le (tgt := 13) d_MO_has_6 (by decide) (by omega) (fun c1 => ?_) (fun c1 => ?_)
  · refine zz_iconst d_MO_has_13 ?_
    refine zz_bret rfl (by decide) d_MO_has_14 ?_
    rw [hQ]; exact ⟨_, rfl, rfl, (by omega), (by omega)⟩
  · refine zz_iconst d_MO_has_9 ?_
    refine ab_goto (tgt := 14) d_MO_has_10 (by decide) ?_
    refine zz_bret rfl (by decide) d_MO_has_14 ?_
    rw [hQ]; exact ⟨_, rfl, rfl, (by omega), (by omega)⟩
set_option maxRecDepth 100000 in
set_option maxHeartbeats 4000000 in
theorem z2_MO_has {X : ab_X} {d : Nat} {o : Nat → Nat} {G : ab_G} {m_thrown : Int} {m_taped : Int} {m_length : Int} {m_out : Int} {m_wide : Int} {m_gathered : Int} {m_sets : Int} {m_ranges : Int} {m_nodes : Int} {m_at : Int} {m_flags : Int} {m_fault : Int} {m_place : Int} {m_numbered : Int} {m_depth : Int} {m_value : Int} {m_isNot : Int} {m_least0 : Int} {m_most0 : Int} {m_slot : Int} {m_work : Int} {m_got : Int} {m_rowMany : Int} {m_charAt : Int} {m_charWide : Int} {m_trail : Int} {m_isMatch : Int} {m_matchGroups : Int} {m_allFrom : Int} {m_allBefore : Int} {m_founds : Int} {m_pieces : Int} {m_writtenMany : Int} {m_templateWide : Int} {m_tooMuch : Int} (h80 : cc o G 80 280 (ab_ob 12 (mof m_thrown m_taped m_length m_out m_wide m_gathered m_sets m_ranges m_nodes m_at m_flags m_fault m_place m_numbered m_depth m_value m_isNot m_least0 m_most0 m_slot m_work m_got m_rowMany m_charAt m_charWide m_trail m_isMatch m_matchGroups m_allFrom m_allBefore m_founds m_pieces m_writtenMany m_templateWide m_tooMuch))) (cfl : 0 ≤ m_flags ∧ m_flags ≤ 31) : ab_F X d y_MO_has (.code y_MO_has b_MO_has 2 (some (.boolean))) [vR 80, vz 2] G (fun oc G2 => ∃ v : Int, oc = .returned (some (vz v)) ∧ G2 = G ∧ (0 ≤ v ∧ v ≤ 1) ∧ (v = m_flags / 2 % 2)) := by
  refine ab_F_of (by decide +kernel) (Nat.le_of_ble_eq_true rfl) ?_
  obtain ⟨Q, hQ⟩ : ∃ z : Outcome → ab_G → Prop, z = (fun oc G2 => ∃ v : Int, oc = .returned (some (vz v)) ∧ G2 = G ∧ (0 ≤ v ∧ v ≤ 1) ∧ (v = m_flags / 2 % 2)) := ⟨_, rfl⟩
  rw [← hQ]
  change ab_W X (ab_pl y_MO_has b_MO_has 2 (some (.boolean))) d G 0 [some (vR 80), some (vz 2)] [] Q
  have hfr : fx o o [] G G := fx.rf
  have hlen : G.length = G.length := rfl
  have hsl : ab_slots G = ab_slots G := rfl
  refine ab_aload_n d_MO_has_0 rfl ?_
  refine ab_getf (fs := mof m_thrown m_taped m_length m_out m_wide m_gathered m_sets m_ranges m_nodes m_at m_flags m_fault m_place m_numbered m_depth m_value m_isNot m_least0 m_most0 m_slot m_work m_got m_rowMany m_charAt m_charWide m_trail m_isMatch m_matchGroups m_allFrom m_allBefore m_founds m_pieces m_writtenMany m_templateWide m_tooMuch) f_MO_276 d_MO_has_1 h80.2.2 rfl ?_
  refine ab_iload_n d_MO_has_4 rfl ?_
  refine zz_iand5 (c := 2) 1 d_MO_has_5 (by decide) (by decide) (by decide) (by omega) ?_
  refine zz_if_le (tgt := 13) d_MO_has_6 (by decide) (by omega) (fun c1 => ?_) (fun c1 => ?_)
  · refine zz_iconst d_MO_has_13 ?_
    refine zz_bret rfl (by decide) d_MO_has_14 ?_
    rw [hQ]; exact ⟨_, rfl, rfl, (by omega), (by omega)⟩
  · refine zz_iconst d_MO_has_9 ?_
    refine ab_goto (tgt := 14) d_MO_has_10 (by decide) ?_
    refine zz_bret rfl (by decide) d_MO_has_14 ?_
    rw [hQ]; exact ⟨_, rfl, rfl, (by omega), (by omega)⟩
set_option maxRecDepth 100000 in
set_option maxHeartbeats 4000000 in
theorem z4_MO_has {X : ab_X} {d : Nat} {o : Nat → Nat} {G : ab_G} {m_thrown : Int} {m_taped : Int} {m_length : Int} {m_out : Int} {m_wide : Int} {m_gathered : Int} {m_sets : Int} {m_ranges : Int} {m_nodes : Int} {m_at : Int} {m_flags : Int} {m_fault : Int} {m_place : Int} {m_numbered : Int} {m_depth : Int} {m_value : Int} {m_isNot : Int} {m_least0 : Int} {m_most0 : Int} {m_slot : Int} {m_work : Int} {m_got : Int} {m_rowMany : Int} {m_charAt : Int} {m_charWide : Int} {m_trail : Int} {m_isMatch : Int} {m_matchGroups : Int} {m_allFrom : Int} {m_allBefore : Int} {m_founds : Int} {m_pieces : Int} {m_writtenMany : Int} {m_templateWide : Int} {m_tooMuch : Int} (h80 : cc o G 80 280 (ab_ob 12 (mof m_thrown m_taped m_length m_out m_wide m_gathered m_sets m_ranges m_nodes m_at m_flags m_fault m_place m_numbered m_depth m_value m_isNot m_least0 m_most0 m_slot m_work m_got m_rowMany m_charAt m_charWide m_trail m_isMatch m_matchGroups m_allFrom m_allBefore m_founds m_pieces m_writtenMany m_templateWide m_tooMuch))) (cfl : 0 ≤ m_flags ∧ m_flags ≤ 31) : ab_F X d y_MO_has (.code y_MO_has b_MO_has 2 (some (.boolean))) [vR 80, vz 4] G (fun oc G2 => ∃ v : Int, oc = .returned (some (vz v)) ∧ G2 = G ∧ (0 ≤ v ∧ v ≤ 1) ∧ (v = m_flags / 4 % 2)) := by
  refine ab_F_of (by decide +kernel) (Nat.le_of_ble_eq_true rfl) ?_
  obtain ⟨Q, hQ⟩ : ∃ z : Outcome → ab_G → Prop, z = (fun oc G2 => ∃ v : Int, oc = .returned (some (vz v)) ∧ G2 = G ∧ (0 ≤ v ∧ v ≤ 1) ∧ (v = m_flags / 4 % 2)) := ⟨_, rfl⟩
  rw [← hQ]
  change ab_W X (ab_pl y_MO_has b_MO_has 2 (some (.boolean))) d G 0 [some (vR 80), some (vz 4)] [] Q
  have hfr : fx o o [] G G := fx.rf
  have hlen : G.length = G.length := rfl
  have hsl : ab_slots G = ab_slots G := rfl
  refine ab_aload_n d_MO_has_0 rfl ?_
  refine ab_getf (fs := mof m_thrown m_taped m_length m_out m_wide m_gathered m_sets m_ranges m_nodes m_at m_flags m_fault m_place m_numbered m_depth m_value m_isNot m_least0 m_most0 m_slot m_work m_got m_rowMany m_charAt m_charWide m_trail m_isMatch m_matchGroups m_allFrom m_allBefore m_founds m_pieces m_writtenMany m_templateWide m_tooMuch) f_MO_276 d_MO_has_1 h80.2.2 rfl ?_
  refine ab_iload_n d_MO_has_4 rfl ?_
  refine zz_iand5 (c := 4) 2 d_MO_has_5 (by decide) (by decide) (by decide) (by omega) ?_
  refine zz_if_le (tgt := 13) d_MO_has_6 (by decide) (by omega) (fun c1 => ?_) (fun c1 => ?_)
  · refine zz_iconst d_MO_has_13 ?_
    refine zz_bret rfl (by decide) d_MO_has_14 ?_
    rw [hQ]; exact ⟨_, rfl, rfl, (by omega), (by omega)⟩
  · refine zz_iconst d_MO_has_9 ?_
    refine ab_goto (tgt := 14) d_MO_has_10 (by decide) ?_
    refine zz_bret rfl (by decide) d_MO_has_14 ?_
    rw [hQ]; exact ⟨_, rfl, rfl, (by omega), (by omega)⟩
set_option maxRecDepth 100000 in
set_option maxHeartbeats 4000000 in
theorem z8_MO_has {X : ab_X} {d : Nat} {o : Nat → Nat} {G : ab_G} {m_thrown : Int} {m_taped : Int} {m_length : Int} {m_out : Int} {m_wide : Int} {m_gathered : Int} {m_sets : Int} {m_ranges : Int} {m_nodes : Int} {m_at : Int} {m_flags : Int} {m_fault : Int} {m_place : Int} {m_numbered : Int} {m_depth : Int} {m_value : Int} {m_isNot : Int} {m_least0 : Int} {m_most0 : Int} {m_slot : Int} {m_work : Int} {m_got : Int} {m_rowMany : Int} {m_charAt : Int} {m_charWide : Int} {m_trail : Int} {m_isMatch : Int} {m_matchGroups : Int} {m_allFrom : Int} {m_allBefore : Int} {m_founds : Int} {m_pieces : Int} {m_writtenMany : Int} {m_templateWide : Int} {m_tooMuch : Int} (h80 : cc o G 80 280 (ab_ob 12 (mof m_thrown m_taped m_length m_out m_wide m_gathered m_sets m_ranges m_nodes m_at m_flags m_fault m_place m_numbered m_depth m_value m_isNot m_least0 m_most0 m_slot m_work m_got m_rowMany m_charAt m_charWide m_trail m_isMatch m_matchGroups m_allFrom m_allBefore m_founds m_pieces m_writtenMany m_templateWide m_tooMuch))) (cfl : 0 ≤ m_flags ∧ m_flags ≤ 31) : ab_F X d y_MO_has (.code y_MO_has b_MO_has 2 (some (.boolean))) [vR 80, vz 8] G (fun oc G2 => ∃ v : Int, oc = .returned (some (vz v)) ∧ G2 = G ∧ (0 ≤ v ∧ v ≤ 1) ∧ (v = m_flags / 8 % 2)) := by
  refine ab_F_of (by decide +kernel) (Nat.le_of_ble_eq_true rfl) ?_
  obtain ⟨Q, hQ⟩ : ∃ z : Outcome → ab_G → Prop, z = (fun oc G2 => ∃ v : Int, oc = .returned (some (vz v)) ∧ G2 = G ∧ (0 ≤ v ∧ v ≤ 1) ∧ (v = m_flags / 8 % 2)) := ⟨_, rfl⟩
  rw [← hQ]
  change ab_W X (ab_pl y_MO_has b_MO_has 2 (some (.boolean))) d G 0 [some (vR 80), some (vz 8)] [] Q
  have hfr : fx o o [] G G := fx.rf
  have hlen : G.length = G.length := rfl
  have hsl : ab_slots G = ab_slots G := rfl
  refine ab_aload_n d_MO_has_0 rfl ?_
  refine ab_getf (fs := mof m_thrown m_taped m_length m_out m_wide m_gathered m_sets m_ranges m_nodes m_at m_flags m_fault m_place m_numbered m_depth m_value m_isNot m_least0 m_most0 m_slot m_work m_got m_rowMany m_charAt m_charWide m_trail m_isMatch m_matchGroups m_allFrom m_allBefore m_founds m_pieces m_writtenMany m_templateWide m_tooMuch) f_MO_276 d_MO_has_1 h80.2.2 rfl ?_
  refine ab_iload_n d_MO_has_4 rfl ?_
  refine zz_iand5 (c := 8) 3 d_MO_has_5 (by decide) (by decide) (by decide) (by omega) ?_
  refine zz_if_le (tgt := 13) d_MO_has_6 (by decide) (by omega) (fun c1 => ?_) (fun c1 => ?_)
  · refine zz_iconst d_MO_has_13 ?_
    refine zz_bret rfl (by decide) d_MO_has_14 ?_
    rw [hQ]; exact ⟨_, rfl, rfl, (by omega), (by omega)⟩
  · refine zz_iconst d_MO_has_9 ?_
    refine ab_goto (tgt := 14) d_MO_has_10 (by decide) ?_
    refine zz_bret rfl (by decide) d_MO_has_14 ?_
    rw [hQ]; exact ⟨_, rfl, rfl, (by omega), (by omega)⟩
set_option maxRecDepth 100000 in
set_option maxHeartbeats 4000000 in
theorem z_MO_wrong {X : ab_X} {d : Nat} {o : Nat → Nat} {G : ab_G} {m_thrown : Int} {m_taped : Int} {m_length : Int} {m_out : Int} {m_wide : Int} {m_gathered : Int} {m_sets : Int} {m_ranges : Int} {m_nodes : Int} {m_at : Int} {m_flags : Int} {m_fault : Int} {m_place : Int} {m_numbered : Int} {m_depth : Int} {m_value : Int} {m_isNot : Int} {m_least0 : Int} {m_most0 : Int} {m_slot : Int} {m_work : Int} {m_got : Int} {m_rowMany : Int} {m_charAt : Int} {m_charWide : Int} {m_trail : Int} {m_isMatch : Int} {m_matchGroups : Int} {m_allFrom : Int} {m_allBefore : Int} {m_founds : Int} {m_pieces : Int} {m_writtenMany : Int} {m_templateWide : Int} {m_tooMuch : Int} {x : Int} {y : Int} (h80 : cc o G 80 280 (ab_ob 12 (mof m_thrown m_taped m_length m_out m_wide m_gathered m_sets m_ranges m_nodes m_at m_flags m_fault m_place m_numbered m_depth m_value m_isNot m_least0 m_most0 m_slot m_work m_got m_rowMany m_charAt m_charWide m_trail m_isMatch m_matchGroups m_allFrom m_allBefore m_founds m_pieces m_writtenMany m_templateWide m_tooMuch))) (n18 : ab_n0 = 18) (cf : 0 ≤ m_fault ∧ m_fault ≤ 14 ∧ 1 ≤ x ∧ x ≤ 14) : ab_F X d y_MO_wrong (.code y_MO_wrong b_MO_wrong 3 none) [vR 80, vz x, vz y] G (fun oc G2 => (oc = .returned none ∧ fx o o [280] G G2 ∧ G2.length = G.length ∧ ab_slots G2 = ab_slots G ∧ cc o G2 80 280 (ab_ob 12 (mof m_thrown m_taped m_length m_out m_wide m_gathered m_sets m_ranges m_nodes m_at m_flags x y m_numbered m_depth m_value m_isNot m_least0 m_most0 m_slot m_work m_got m_rowMany m_charAt m_charWide m_trail m_isMatch m_matchGroups m_allFrom m_allBefore m_founds m_pieces m_writtenMany m_templateWide m_tooMuch)) ∧ (m_fault = 0)) ∨ (oc = .returned none ∧ G2 = G ∧ (1 ≤ m_fault))) := by
  refine ab_F_of (by decide +kernel) (Nat.le_of_ble_eq_true rfl) ?_
  obtain ⟨Q, hQ⟩ : ∃ z : Outcome → ab_G → Prop, z = (fun oc G2 => (oc = .returned none ∧ fx o o [280] G G2 ∧ G2.length = G.length ∧ ab_slots G2 = ab_slots G ∧ cc o G2 80 280 (ab_ob 12 (mof m_thrown m_taped m_length m_out m_wide m_gathered m_sets m_ranges m_nodes m_at m_flags x y m_numbered m_depth m_value m_isNot m_least0 m_most0 m_slot m_work m_got m_rowMany m_charAt m_charWide m_trail m_isMatch m_matchGroups m_allFrom m_allBefore m_founds m_pieces m_writtenMany m_templateWide m_tooMuch)) ∧ (m_fault = 0)) ∨ (oc = .returned none ∧ G2 = G ∧ (1 ≤ m_fault))) := ⟨_, rfl⟩
  rw [← hQ]
  change ab_W X (ab_pl y_MO_wrong b_MO_wrong 3 none) d G 0 [some (vR 80), some (vz x), some (vz y)] [] Q
  have hfr : fx o o [280] G G := fx.rf
  have hlen : G.length = G.length := rfl
  have hsl : ab_slots G = ab_slots G := rfl
  refine ab_aload_n d_MO_wrong_0 rfl ?_
  refine ab_getf (fs := mof m_thrown m_taped m_length m_out m_wide m_gathered m_sets m_ranges m_nodes m_at m_flags m_fault m_place m_numbered m_depth m_value m_isNot m_least0 m_most0 m_slot m_work m_got m_rowMany m_charAt m_charWide m_trail m_isMatch m_matchGroups m_allFrom m_allBefore m_founds m_pieces m_writtenMany m_templateWide m_tooMuch) f_MO_273 d_MO_wrong_1 h80.2.2 rfl ?_
  refine zz_if_le (tgt := 8) d_MO_wrong_4 (by decide) (by omega) (fun c1 => ?_) (fun c1 => ?_)
  · refine ab_aload_n d_MO_wrong_8 rfl ?_
    refine ab_iload_n d_MO_wrong_9 rfl ?_
    refine ab_putf (fs := mof m_thrown m_taped m_length m_out m_wide m_gathered m_sets m_ranges m_nodes m_at m_flags m_fault m_place m_numbered m_depth m_value m_isNot m_least0 m_most0 m_slot m_work m_got m_rowMany m_charAt m_charWide m_trail m_isMatch m_matchGroups m_allFrom m_allBefore m_founds m_pieces m_writtenMany m_templateWide m_tooMuch) f_MO_273 (Or.inl rfl) d_MO_wrong_10 h80.2.2 (Nat.le_of_ble_eq_true rfl) (fun _ => ⟨rfl, rfl⟩) (h80.2.1 (by decide)) ?_
    obtain ⟨G2, eG2⟩ : ∃ z : ab_G, z = List.set G 80 (ab_ob 12 (mof m_thrown m_taped m_length m_out m_wide m_gathered m_sets m_ranges m_nodes m_at m_flags x m_place m_numbered m_depth m_value m_isNot m_least0 m_most0 m_slot m_work m_got m_rowMany m_charAt m_charWide m_trail m_isMatch m_matchGroups m_allFrom m_allBefore m_founds m_pieces m_writtenMany m_templateWide m_tooMuch)) := ⟨_, rfl⟩
    have hlen := (z_len eG2).trans hlen
    have hsl := (z_sl h80 eG2 rfl).trans hsl
    have hfr := hfr.wr h80 eG2 (by decide)
    have h80 := h80.kept eG2
    change ab_W _ _ _ (List.set G 80 (ab_ob 12 (mof m_thrown m_taped m_length m_out m_wide m_gathered m_sets m_ranges m_nodes m_at m_flags x m_place m_numbered m_depth m_value m_isNot m_least0 m_most0 m_slot m_work m_got m_rowMany m_charAt m_charWide m_trail m_isMatch m_matchGroups m_allFrom m_allBefore m_founds m_pieces m_writtenMany m_templateWide m_tooMuch))) 13 [some (vR 80), some (vz x), some (vz y)] [] _
    rw [← eG2]
    refine ab_aload_n d_MO_wrong_13 rfl ?_
    refine ab_iload_n d_MO_wrong_14 rfl ?_
    refine ab_putf (fs := mof m_thrown m_taped m_length m_out m_wide m_gathered m_sets m_ranges m_nodes m_at m_flags x m_place m_numbered m_depth m_value m_isNot m_least0 m_most0 m_slot m_work m_got m_rowMany m_charAt m_charWide m_trail m_isMatch m_matchGroups m_allFrom m_allBefore m_founds m_pieces m_writtenMany m_templateWide m_tooMuch) f_MO_75 (Or.inl rfl) d_MO_wrong_15 h80.2.2 (Nat.le_of_ble_eq_true rfl) (fun _ => ⟨rfl, rfl⟩) (h80.2.1 (by decide)) ?_
    obtain ⟨G3, eG3⟩ : ∃ z : ab_G, z = List.set G2 80 (ab_ob 12 (mof m_thrown m_taped m_length m_out m_wide m_gathered m_sets m_ranges m_nodes m_at m_flags x y m_numbered m_depth m_value m_isNot m_least0 m_most0 m_slot m_work m_got m_rowMany m_charAt m_charWide m_trail m_isMatch m_matchGroups m_allFrom m_allBefore m_founds m_pieces m_writtenMany m_templateWide m_tooMuch)) := ⟨_, rfl⟩
    have hlen := (z_len eG3).trans hlen
    have hsl := (z_sl h80 eG3 rfl).trans hsl
    have hfr := hfr.wr h80 eG3 (by decide)
    have h80 := h80.kept eG3
    change ab_W _ _ _ (List.set G2 80 (ab_ob 12 (mof m_thrown m_taped m_length m_out m_wide m_gathered m_sets m_ranges m_nodes m_at m_flags x y m_numbered m_depth m_value m_isNot m_least0 m_most0 m_slot m_work m_got m_rowMany m_charAt m_charWide m_trail m_isMatch m_matchGroups m_allFrom m_allBefore m_founds m_pieces m_writtenMany m_templateWide m_tooMuch))) 18 [some (vR 80), some (vz x), some (vz y)] [] _
    rw [← eG3]
    refine ab_vret rfl d_MO_wrong_18 ?_
    rw [hQ]; exact (Or.inl ⟨rfl, hfr, hlen, hsl, h80, (by omega)⟩)
  · refine ab_vret rfl d_MO_wrong_7 ?_
    rw [hQ]; exact (Or.inr ⟨rfl, rfl, (by omega)⟩)
set_option maxRecDepth 100000 in
set_option maxHeartbeats 4000000 in
theorem z_MO_hex {X : ab_X} {d : Nat} {o : Nat → Nat} {G : ab_G} {c : Int} (rc : -2147483648 ≤ c ∧ c ≤ 2147483647) : ab_F X d y_MO_hex (.code y_MO_hex b_MO_hex 1 (some (.int))) [vz c] G (fun oc G2 => oc = .returned (some (vz (hxd c))) ∧ G2 = G ∧ (-1 ≤ hxd c ∧ hxd c ≤ 15)) := by
  refine ab_F_of (by decide +kernel) (Nat.le_of_ble_eq_true rfl) ?_
  obtain ⟨Q, hQ⟩ : ∃ z : Outcome → ab_G → Prop, z = (fun oc G2 => oc = .returned (some (vz (hxd c))) ∧ G2 = G ∧ (-1 ≤ hxd c ∧ hxd c ≤ 15)) := ⟨_, rfl⟩
  rw [← hQ]
  change ab_W X (ab_pl y_MO_hex b_MO_hex 1 (some (.int))) d G 0 [some (vz c)] [] Q
  have hfr : fx o o [] G G := fx.rf
  have hlen : G.length = G.length := rfl
  have hsl : ab_slots G = ab_slots G := rfl
  refine ab_iload_n d_MO_hex_0 rfl ?_
  refine zz_bipush d_MO_hex_1 (by decide) ?_
  refine zz_icmp_lt (tgt := 19) d_MO_hex_3 (by decide) (by omega) (by decide) (fun c1 => ?_) (fun c1 => ?_)
  · refine ab_iload_n d_MO_hex_19 rfl ?_
    refine zz_bipush d_MO_hex_20 (by decide) ?_
    refine zz_icmp_lt (tgt := 41) d_MO_hex_22 (by decide) (by omega) (by decide) (fun c2 => ?_) (fun c2 => absurd c2 (by omega))
    refine ab_iload_n d_MO_hex_41 rfl ?_
    refine zz_bipush d_MO_hex_42 (by decide) ?_
    refine zz_icmp_lt (tgt := 63) d_MO_hex_44 (by decide) (by omega) (by decide) (fun c3 => ?_) (fun c3 => absurd c3 (by omega))
    refine zz_iconst d_MO_hex_63 ?_
    refine zz_top (y := (hxd c)) (by have t_ := hxd_c c; omega) ?_
    change ab_W _ _ _ G 64 [some (vz c)] [vz (hxd c)] _
    refine zz_iret rfl d_MO_hex_64 ?_
    rw [hQ]; exact ⟨rfl, rfl, (by exact hxd_in c)⟩
  · refine ab_iload_n d_MO_hex_6 rfl ?_
    refine zz_bipush d_MO_hex_7 (by decide) ?_
    refine zz_icmp_gt (tgt := 19) d_MO_hex_9 (by decide) (by omega) (by decide) (fun c4 => ?_) (fun c4 => ?_)
    · refine ab_iload_n d_MO_hex_19 rfl ?_
      refine zz_bipush d_MO_hex_20 (by decide) ?_
      refine zz_icmp_lt (tgt := 41) d_MO_hex_22 (by decide) (by omega) (by decide) (fun c5 => ?_) (fun c5 => ?_)
      · refine ab_iload_n d_MO_hex_41 rfl ?_
        refine zz_bipush d_MO_hex_42 (by decide) ?_
        refine zz_icmp_lt (tgt := 63) d_MO_hex_44 (by decide) (by omega) (by decide) (fun c6 => ?_) (fun c6 => ?_)
        · refine zz_iconst d_MO_hex_63 ?_
          refine zz_top (y := (hxd c)) (by have t_ := hxd_c c; omega) ?_
          change ab_W _ _ _ G 64 [some (vz c)] [vz (hxd c)] _
          refine zz_iret rfl d_MO_hex_64 ?_
          rw [hQ]; exact ⟨rfl, rfl, (by exact hxd_in c)⟩
        · refine ab_iload_n d_MO_hex_47 rfl ?_
          refine zz_bipush d_MO_hex_48 (by decide) ?_
          refine zz_icmp_gt (tgt := 63) d_MO_hex_50 (by decide) (by omega) (by decide) (fun c7 => ?_) (fun c7 => ?_)
          · refine zz_iconst d_MO_hex_63 ?_
            refine zz_top (y := (hxd c)) (by have t_ := hxd_c c; omega) ?_
            change ab_W _ _ _ G 64 [some (vz c)] [vz (hxd c)] _
            refine zz_iret rfl d_MO_hex_64 ?_
            rw [hQ]; exact ⟨rfl, rfl, (by exact hxd_in c)⟩
          · refine ab_iload_n d_MO_hex_53 rfl ?_
            refine zz_bipush d_MO_hex_54 (by decide) ?_
            refine zz_isub d_MO_hex_56 ?_
            refine zz_bipush d_MO_hex_57 (by decide) ?_
            refine zz_iadd d_MO_hex_59 ?_
            refine ab_goto (tgt := 64) d_MO_hex_60 (by decide) ?_
            refine zz_top (y := (hxd c)) (by have t_ := hxd_c c; omega) ?_
            change ab_W _ _ _ G 64 [some (vz c)] [vz (hxd c)] _
            refine zz_iret rfl d_MO_hex_64 ?_
            rw [hQ]; exact ⟨rfl, rfl, (by exact hxd_in c)⟩
      · refine ab_iload_n d_MO_hex_25 rfl ?_
        refine zz_bipush d_MO_hex_26 (by decide) ?_
        refine zz_icmp_gt (tgt := 41) d_MO_hex_28 (by decide) (by omega) (by decide) (fun c8 => ?_) (fun c8 => ?_)
        · refine ab_iload_n d_MO_hex_41 rfl ?_
          refine zz_bipush d_MO_hex_42 (by decide) ?_
          refine zz_icmp_lt (tgt := 63) d_MO_hex_44 (by decide) (by omega) (by decide) (fun c9 => absurd c9 (by omega)) (fun c9 => ?_)
          refine ab_iload_n d_MO_hex_47 rfl ?_
          refine zz_bipush d_MO_hex_48 (by decide) ?_
          refine zz_icmp_gt (tgt := 63) d_MO_hex_50 (by decide) (by omega) (by decide) (fun c10 => ?_) (fun c10 => absurd c10 (by omega))
          refine zz_iconst d_MO_hex_63 ?_
          refine zz_top (y := (hxd c)) (by have t_ := hxd_c c; omega) ?_
          change ab_W _ _ _ G 64 [some (vz c)] [vz (hxd c)] _
          refine zz_iret rfl d_MO_hex_64 ?_
          rw [hQ]; exact ⟨rfl, rfl, (by exact hxd_in c)⟩
        · refine ab_iload_n d_MO_hex_31 rfl ?_
          refine zz_bipush d_MO_hex_32 (by decide) ?_
          refine zz_isub d_MO_hex_34 ?_
          refine zz_bipush d_MO_hex_35 (by decide) ?_
          refine zz_iadd d_MO_hex_37 ?_
          refine ab_goto (tgt := 64) d_MO_hex_38 (by decide) ?_
          refine zz_top (y := (hxd c)) (by have t_ := hxd_c c; omega) ?_
          change ab_W _ _ _ G 64 [some (vz c)] [vz (hxd c)] _
          refine zz_iret rfl d_MO_hex_64 ?_
          rw [hQ]; exact ⟨rfl, rfl, (by exact hxd_in c)⟩
    · refine ab_iload_n d_MO_hex_12 rfl ?_
      refine zz_bipush d_MO_hex_13 (by decide) ?_
      refine zz_isub d_MO_hex_15 ?_
      refine ab_goto (tgt := 64) d_MO_hex_16 (by decide) ?_
      refine zz_top (y := (hxd c)) (by have t_ := hxd_c c; omega) ?_
      change ab_W _ _ _ G 64 [some (vz c)] [vz (hxd c)] _
      refine zz_iret rfl d_MO_hex_64 ?_
      rw [hQ]; exact ⟨rfl, rfl, (by exact hxd_in c)⟩
set_option maxRecDepth 100000 in
set_option maxHeartbeats 4000000 in
theorem z_MO_control {X : ab_X} {d : Nat} {o : Nat → Nat} {G : ab_G} {c : Int} (rc : -2147483648 ≤ c ∧ c ≤ 2147483647) : ab_F X d y_MO_control (.code y_MO_control b_MO_control 1 (some (.int))) [vz c] G (fun oc G2 => oc = .returned (some (vz (ctf c))) ∧ G2 = G ∧ (-1 ≤ ctf c ∧ ctf c ≤ 13)) := by
  refine ab_F_of (by decide +kernel) (Nat.le_of_ble_eq_true rfl) ?_
  obtain ⟨Q, hQ⟩ : ∃ z : Outcome → ab_G → Prop, z = (fun oc G2 => oc = .returned (some (vz (ctf c))) ∧ G2 = G ∧ (-1 ≤ ctf c ∧ ctf c ≤ 13)) := ⟨_, rfl⟩
  rw [← hQ]
  change ab_W X (ab_pl y_MO_control b_MO_control 1 (some (.int))) d G 0 [some (vz c)] [] Q
  have hfr : fx o o [] G G := fx.rf
  have hlen : G.length = G.length := rfl
  have hsl : ab_slots G = ab_slots G := rfl
  refine ab_iload_n d_MO_control_0 rfl ?_
  refine zz_bipush d_MO_control_1 (by decide) ?_
  refine zz_icmp_ne (tgt := 11) d_MO_control_3 (by decide) (by omega) (by decide) (fun c1 => ?_) (fun c1 => ?_)
  · refine ab_iload_n d_MO_control_11 rfl ?_
    refine zz_bipush d_MO_control_12 (by decide) ?_
    refine zz_icmp_ne (tgt := 22) d_MO_control_14 (by decide) (by omega) (by decide) (fun c2 => ?_) (fun c2 => ?_)
    · refine ab_iload_n d_MO_control_22 rfl ?_
      refine zz_bipush d_MO_control_23 (by decide) ?_
      refine zz_icmp_ne (tgt := 33) d_MO_control_25 (by decide) (by omega) (by decide) (fun c3 => ?_) (fun c3 => ?_)
      · refine ab_iload_n d_MO_control_33 rfl ?_
        refine zz_bipush d_MO_control_34 (by decide) ?_
        refine zz_icmp_ne (tgt := 44) d_MO_control_36 (by decide) (by omega) (by decide) (fun c4 => ?_) (fun c4 => ?_)
        · refine ab_iload_n d_MO_control_44 rfl ?_
          refine zz_bipush d_MO_control_45 (by decide) ?_
          refine zz_icmp_ne (tgt := 55) d_MO_control_47 (by decide) (by omega) (by decide) (fun c5 => ?_) (fun c5 => ?_)
          · refine ab_iload_n d_MO_control_55 rfl ?_
            refine zz_bipush d_MO_control_56 (by decide) ?_
            refine zz_icmp_ne (tgt := 66) d_MO_control_58 (by decide) (by omega) (by decide) (fun c6 => ?_) (fun c6 => ?_)
            · refine zz_iconst d_MO_control_66 ?_
              refine zz_top (y := (ctf c)) (by have t_ := ctf_c c; omega) ?_
              change ab_W _ _ _ G 67 [some (vz c)] [vz (ctf c)] _
              refine zz_iret rfl d_MO_control_67 ?_
              rw [hQ]; exact ⟨rfl, rfl, (by exact ctf_in c)⟩
            · refine zz_bipush d_MO_control_61 (by decide) ?_
              refine ab_goto (tgt := 67) d_MO_control_63 (by decide) ?_
              refine zz_top (y := (ctf c)) (by have t_ := ctf_c c; omega) ?_
              change ab_W _ _ _ G 67 [some (vz c)] [vz (ctf c)] _
              refine zz_iret rfl d_MO_control_67 ?_
              rw [hQ]; exact ⟨rfl, rfl, (by exact ctf_in c)⟩
          · refine zz_bipush d_MO_control_50 (by decide) ?_
            refine ab_goto (tgt := 67) d_MO_control_52 (by decide) ?_
            refine zz_top (y := (ctf c)) (by have t_ := ctf_c c; omega) ?_
            change ab_W _ _ _ G 67 [some (vz c)] [vz (ctf c)] _
            refine zz_iret rfl d_MO_control_67 ?_
            rw [hQ]; exact ⟨rfl, rfl, (by exact ctf_in c)⟩
        · refine zz_bipush d_MO_control_39 (by decide) ?_
          refine ab_goto (tgt := 67) d_MO_control_41 (by decide) ?_
          refine zz_top (y := (ctf c)) (by have t_ := ctf_c c; omega) ?_
          change ab_W _ _ _ G 67 [some (vz c)] [vz (ctf c)] _
          refine zz_iret rfl d_MO_control_67 ?_
          rw [hQ]; exact ⟨rfl, rfl, (by exact ctf_in c)⟩
      · refine zz_bipush d_MO_control_28 (by decide) ?_
        refine ab_goto (tgt := 67) d_MO_control_30 (by decide) ?_
        refine zz_top (y := (ctf c)) (by have t_ := ctf_c c; omega) ?_
        change ab_W _ _ _ G 67 [some (vz c)] [vz (ctf c)] _
        refine zz_iret rfl d_MO_control_67 ?_
        rw [hQ]; exact ⟨rfl, rfl, (by exact ctf_in c)⟩
    · refine zz_bipush d_MO_control_17 (by decide) ?_
      refine ab_goto (tgt := 67) d_MO_control_19 (by decide) ?_
      refine zz_top (y := (ctf c)) (by have t_ := ctf_c c; omega) ?_
      change ab_W _ _ _ G 67 [some (vz c)] [vz (ctf c)] _
      refine zz_iret rfl d_MO_control_67 ?_
      rw [hQ]; exact ⟨rfl, rfl, (by exact ctf_in c)⟩
  · refine zz_bipush d_MO_control_6 (by decide) ?_
    refine ab_goto (tgt := 67) d_MO_control_8 (by decide) ?_
    refine zz_top (y := (ctf c)) (by have t_ := ctf_c c; omega) ?_
    change ab_W _ _ _ G 67 [some (vz c)] [vz (ctf c)] _
    refine zz_iret rfl d_MO_control_67 ?_
    rw [hQ]; exact ⟨rfl, rfl, (by exact ctf_in c)⟩
set_option maxRecDepth 100000 in
set_option maxHeartbeats 4000000 in
theorem z_MO_whichSet {X : ab_X} {d : Nat} {o : Nat → Nat} {G : ab_G} {c : Int} (rc : -2147483648 ≤ c ∧ c ≤ 2147483647) : ab_F X d y_MO_whichSet (.code y_MO_whichSet b_MO_whichSet 1 (some (.int))) [vz c] G (fun oc G2 => ∃ v : Int, oc = .returned (some (vz v)) ∧ G2 = G ∧ (0 ≤ v ∧ v ≤ 2) ∧ ((v = 0 ∧ (c = 100 ∨ c = 68)) ∨ (v = 1 ∧ (c = 115 ∨ c = 83)) ∨ (v = 2 ∧ ¬ c = 100 ∧ ¬ c = 68 ∧ ¬ c = 115 ∧ ¬ c = 83))) := by
  refine ab_F_of (by decide +kernel) (Nat.le_of_ble_eq_true rfl) ?_
  obtain ⟨Q, hQ⟩ : ∃ z : Outcome → ab_G → Prop, z = (fun oc G2 => ∃ v : Int, oc = .returned (some (vz v)) ∧ G2 = G ∧ (0 ≤ v ∧ v ≤ 2) ∧ ((v = 0 ∧ (c = 100 ∨ c = 68)) ∨ (v = 1 ∧ (c = 115 ∨ c = 83)) ∨ (v = 2 ∧ ¬ c = 100 ∧ ¬ c = 68 ∧ ¬ c = 115 ∧ ¬ c = 83))) := ⟨_, rfl⟩
  rw [← hQ]
  change ab_W X (ab_pl y_MO_whichSet b_MO_whichSet 1 (some (.int))) d G 0 [some (vz c)] [] Q
  have hfr : fx o o [] G G := fx.rf
  have hlen : G.length = G.length := rfl
  have hsl : ab_slots G = ab_slots G := rfl
  refine ab_iload_n d_MO_whichSet_0 rfl ?_
  refine zz_bipush d_MO_whichSet_1 (by decide) ?_
  refine zz_icmp_eq (tgt := 12) d_MO_whichSet_3 (by decide) (by omega) (by decide) (fun c1 => ?_) (fun c1 => ?_)
  · refine zz_iconst d_MO_whichSet_12 ?_
    refine ab_goto (tgt := 33) d_MO_whichSet_13 (by decide) ?_
    refine zz_iret rfl d_MO_whichSet_33 ?_
    rw [hQ]; exact ⟨_, rfl, rfl, (by omega), (by omega)⟩
  · refine ab_iload_n d_MO_whichSet_6 rfl ?_
    refine zz_bipush d_MO_whichSet_7 (by decide) ?_
    refine zz_icmp_ne (tgt := 16) d_MO_whichSet_9 (by decide) (by omega) (by decide) (fun c2 => ?_) (fun c2 => ?_)
    · refine ab_iload_n d_MO_whichSet_16 rfl ?_
      refine zz_bipush d_MO_whichSet_17 (by decide) ?_
      refine zz_icmp_eq (tgt := 28) d_MO_whichSet_19 (by decide) (by omega) (by decide) (fun c3 => ?_) (fun c3 => ?_)
      · refine zz_iconst d_MO_whichSet_28 ?_
        refine ab_goto (tgt := 33) d_MO_whichSet_29 (by decide) ?_
        refine zz_iret rfl d_MO_whichSet_33 ?_
        rw [hQ]; exact ⟨_, rfl, rfl, (by omega), (by omega)⟩
      · refine ab_iload_n d_MO_whichSet_22 rfl ?_
        refine zz_bipush d_MO_whichSet_23 (by decide) ?_
        refine zz_icmp_ne (tgt := 32) d_MO_whichSet_25 (by decide) (by omega) (by decide) (fun c4 => ?_) (fun c4 => ?_)
        · refine zz_iconst d_MO_whichSet_32 ?_
          refine zz_iret rfl d_MO_whichSet_33 ?_
          rw [hQ]; exact ⟨_, rfl, rfl, (by omega), (by omega)⟩
        · refine zz_iconst d_MO_whichSet_28 ?_
          refine ab_goto (tgt := 33) d_MO_whichSet_29 (by decide) ?_
          refine zz_iret rfl d_MO_whichSet_33 ?_
          rw [hQ]; exact ⟨_, rfl, rfl, (by omega), (by omega)⟩
    · refine zz_iconst d_MO_whichSet_12 ?_
      refine ab_goto (tgt := 33) d_MO_whichSet_13 (by decide) ?_
      refine zz_iret rfl d_MO_whichSet_33 ?_
      rw [hQ]; exact ⟨_, rfl, rfl, (by omega), (by omega)⟩
set_option maxRecDepth 100000 in
set_option maxHeartbeats 4000000 in
theorem z_MO_whichLetter {X : ab_X} {d : Nat} {o : Nat → Nat} {G : ab_G} {c : Int} (rc : -2147483648 ≤ c ∧ c ≤ 2147483647) : ab_F X d y_MO_whichLetter (.code y_MO_whichLetter b_MO_whichLetter 1 (some (.int))) [vz c] G (fun oc G2 => oc = .returned (some (vz (wlf c))) ∧ G2 = G ∧ (-1 ≤ wlf c ∧ wlf c ≤ 6)) := by
  refine ab_F_of (by decide +kernel) (Nat.le_of_ble_eq_true rfl) ?_
  obtain ⟨Q, hQ⟩ : ∃ z : Outcome → ab_G → Prop, z = (fun oc G2 => oc = .returned (some (vz (wlf c))) ∧ G2 = G ∧ (-1 ≤ wlf c ∧ wlf c ≤ 6)) := ⟨_, rfl⟩
  rw [← hQ]
  change ab_W X (ab_pl y_MO_whichLetter b_MO_whichLetter 1 (some (.int))) d G 0 [some (vz c)] [] Q
  have hfr : fx o o [] G G := fx.rf
  have hlen : G.length = G.length := rfl
  have hsl : ab_slots G = ab_slots G := rfl
  refine ab_iload_n d_MO_whichLetter_0 rfl ?_
  refine zz_bipush d_MO_whichLetter_1 (by decide) ?_
  refine zz_icmp_ne (tgt := 10) d_MO_whichLetter_3 (by decide) (by omega) (by decide) (fun c1 => ?_) (fun c1 => ?_)
  · refine ab_iload_n d_MO_whichLetter_10 rfl ?_
    refine zz_bipush d_MO_whichLetter_11 (by decide) ?_
    refine zz_icmp_ne (tgt := 20) d_MO_whichLetter_13 (by decide) (by omega) (by decide) (fun c2 => ?_) (fun c2 => ?_)
    · refine ab_iload_n d_MO_whichLetter_20 rfl ?_
      refine zz_bipush d_MO_whichLetter_21 (by decide) ?_
      refine zz_icmp_ne (tgt := 30) d_MO_whichLetter_23 (by decide) (by omega) (by decide) (fun c3 => ?_) (fun c3 => ?_)
      · refine ab_iload_n d_MO_whichLetter_30 rfl ?_
        refine zz_bipush d_MO_whichLetter_31 (by decide) ?_
        refine zz_icmp_ne (tgt := 41) d_MO_whichLetter_33 (by decide) (by omega) (by decide) (fun c4 => ?_) (fun c4 => ?_)
        · refine zz_iconst d_MO_whichLetter_41 ?_
          refine zz_top (y := (wlf c)) (by have t_ := wlf_c c; omega) ?_
          change ab_W _ _ _ G 42 [some (vz c)] [vz (wlf c)] _
          refine zz_iret rfl d_MO_whichLetter_42 ?_
          rw [hQ]; exact ⟨rfl, rfl, (by exact wlf_in c)⟩
        · refine zz_bipush d_MO_whichLetter_36 (by decide) ?_
          refine ab_goto (tgt := 42) d_MO_whichLetter_38 (by decide) ?_
          refine zz_top (y := (wlf c)) (by have t_ := wlf_c c; omega) ?_
          change ab_W _ _ _ G 42 [some (vz c)] [vz (wlf c)] _
          refine zz_iret rfl d_MO_whichLetter_42 ?_
          rw [hQ]; exact ⟨rfl, rfl, (by exact wlf_in c)⟩
      · refine zz_iconst d_MO_whichLetter_26 ?_
        refine ab_goto (tgt := 42) d_MO_whichLetter_27 (by decide) ?_
        refine zz_top (y := (wlf c)) (by have t_ := wlf_c c; omega) ?_
        change ab_W _ _ _ G 42 [some (vz c)] [vz (wlf c)] _
        refine zz_iret rfl d_MO_whichLetter_42 ?_
        rw [hQ]; exact ⟨rfl, rfl, (by exact wlf_in c)⟩
    · refine zz_iconst d_MO_whichLetter_16 ?_
      refine ab_goto (tgt := 42) d_MO_whichLetter_17 (by decide) ?_
      refine zz_top (y := (wlf c)) (by have t_ := wlf_c c; omega) ?_
      change ab_W _ _ _ G 42 [some (vz c)] [vz (wlf c)] _
      refine zz_iret rfl d_MO_whichLetter_42 ?_
      rw [hQ]; exact ⟨rfl, rfl, (by exact wlf_in c)⟩
  · refine zz_iconst d_MO_whichLetter_6 ?_
    refine ab_goto (tgt := 42) d_MO_whichLetter_7 (by decide) ?_
    refine zz_top (y := (wlf c)) (by have t_ := wlf_c c; omega) ?_
    change ab_W _ _ _ G 42 [some (vz c)] [vz (wlf c)] _
    refine zz_iret rfl d_MO_whichLetter_42 ?_
    rw [hQ]; exact ⟨rfl, rfl, (by exact wlf_in c)⟩
set_option maxRecDepth 100000 in
set_option maxHeartbeats 4000000 in
theorem z_MO_flagOf {X : ab_X} {d : Nat} {o : Nat → Nat} {G : ab_G} {c : Int} (rc : -2147483648 ≤ c ∧ c ≤ 2147483647) : ab_F X d y_MO_flagOf (.code y_MO_flagOf b_MO_flagOf 1 (some (.int))) [vz c] G (fun oc G2 => ∃ v : Int, oc = .returned (some (vz v)) ∧ G2 = G ∧ (0 ≤ v ∧ v ≤ 8) ∧ (0 < v → 0 ≤ c) ∧ (flv v) ∧ (v = fof c)) := by
  refine ab_F_of (by decide +kernel) (Nat.le_of_ble_eq_true rfl) ?_
  obtain ⟨Q, hQ⟩ : ∃ z : Outcome → ab_G → Prop, z = (fun oc G2 => ∃ v : Int, oc = .returned (some (vz v)) ∧ G2 = G ∧ (0 ≤ v ∧ v ≤ 8) ∧ (0 < v → 0 ≤ c) ∧ (flv v) ∧ (v = fof c)) := ⟨_, rfl⟩
  rw [← hQ]
  change ab_W X (ab_pl y_MO_flagOf b_MO_flagOf 1 (some (.int))) d G 0 [some (vz c)] [] Q
  have hfr : fx o o [] G G := fx.rf
  have hlen : G.length = G.length := rfl
  have hsl : ab_slots G = ab_slots G := rfl
  refine ab_iload_n d_MO_flagOf_0 rfl ?_
  refine zz_bipush d_MO_flagOf_1 (by decide) ?_
  refine zz_icmp_ne (tgt := 10) d_MO_flagOf_3 (by decide) (by omega) (by decide) (fun c1 => ?_) (fun c1 => ?_)
  · refine ab_iload_n d_MO_flagOf_10 rfl ?_
    refine zz_bipush d_MO_flagOf_11 (by decide) ?_
    refine zz_icmp_ne (tgt := 20) d_MO_flagOf_13 (by decide) (by omega) (by decide) (fun c2 => ?_) (fun c2 => ?_)
    · refine ab_iload_n d_MO_flagOf_20 rfl ?_
      refine zz_bipush d_MO_flagOf_21 (by decide) ?_
      refine zz_icmp_ne (tgt := 30) d_MO_flagOf_23 (by decide) (by omega) (by decide) (fun c3 => ?_) (fun c3 => ?_)
      · refine ab_iload_n d_MO_flagOf_30 rfl ?_
        refine zz_bipush d_MO_flagOf_31 (by decide) ?_
        refine zz_icmp_ne (tgt := 41) d_MO_flagOf_33 (by decide) (by omega) (by decide) (fun c4 => ?_) (fun c4 => ?_)
        · refine zz_iconst d_MO_flagOf_41 ?_
          refine zz_iret rfl d_MO_flagOf_42 ?_
          rw [hQ]; exact ⟨_, rfl, rfl, (by omega), (by intro _; omega), (by unfold flv; omega), (by unfold fof; (repeat' split) <;> omega)⟩
        · refine zz_bipush d_MO_flagOf_36 (by decide) ?_
          refine ab_goto (tgt := 42) d_MO_flagOf_38 (by decide) ?_
          refine zz_iret rfl d_MO_flagOf_42 ?_
          rw [hQ]; exact ⟨_, rfl, rfl, (by omega), (by intro _; omega), (by unfold flv; omega), (by unfold fof; (repeat' split) <;> omega)⟩
      · refine zz_iconst d_MO_flagOf_26 ?_
        refine ab_goto (tgt := 42) d_MO_flagOf_27 (by decide) ?_
        refine zz_iret rfl d_MO_flagOf_42 ?_
        rw [hQ]; exact ⟨_, rfl, rfl, (by omega), (by intro _; omega), (by unfold flv; omega), (by unfold fof; (repeat' split) <;> omega)⟩
    · refine zz_iconst d_MO_flagOf_16 ?_
      refine ab_goto (tgt := 42) d_MO_flagOf_17 (by decide) ?_
      refine zz_iret rfl d_MO_flagOf_42 ?_
      rw [hQ]; exact ⟨_, rfl, rfl, (by omega), (by intro _; omega), (by unfold flv; omega), (by unfold fof; (repeat' split) <;> omega)⟩
  · refine zz_iconst d_MO_flagOf_6 ?_
    refine ab_goto (tgt := 42) d_MO_flagOf_7 (by decide) ?_
    refine zz_iret rfl d_MO_flagOf_42 ?_
    rw [hQ]; exact ⟨_, rfl, rfl, (by omega), (by intro _; omega), (by unfold flv; omega), (by unfold fof; (repeat' split) <;> omega)⟩
set_option maxRecDepth 100000 in
set_option maxHeartbeats 4000000 in
theorem y_MO_hexadecimal_24 {X : ab_X} {d : Nat} {Q : Outcome → ab_G → Prop} {o : Nat → Nat} {G0 : ab_G} {m_thrown : Int} {m_taped : Int} {m_length : Int} {m_out : Int} {m_wide : Int} {m_gathered : Int} {m_sets : Int} {m_ranges : Int} {m_nodes : Int} {m_flags : Int} {m_fault : Int} {m_place : Int} {m_numbered : Int} {m_depth : Int} {m_value : Int} {m_isNot : Int} {m_least0 : Int} {m_most0 : Int} {m_slot : Int} {m_work : Int} {m_got : Int} {m_rowMany : Int} {m_charAt : Int} {m_charWide : Int} {m_trail : Int} {m_isMatch : Int} {m_matchGroups : Int} {m_allFrom : Int} {m_allBefore : Int} {m_founds : Int} {m_pieces : Int} {m_writtenMany : Int} {m_templateWide : Int} {m_tooMuch : Int} {A_tape : Int → Int} {wh : Int} {a0_ : Int} (n18 : ab_n0 = 18) (cta : 0 ≤ m_taped ∧ m_taped ≤ 2000) (jtp : rgs A_tape 2000 0 255) (hd : 1 ≤ d) : ∀ (mz : Nat) {G : ab_G} {hv : Int} {n : Int} {m_at : Int}, (cc o G 80 280 (ab_ob 12 (mof m_thrown m_taped m_length m_out m_wide m_gathered m_sets m_ranges m_nodes m_at m_flags m_fault m_place m_numbered m_depth m_value m_isNot m_least0 m_most0 m_slot m_work m_got m_rowMany m_charAt m_charWide m_trail m_isMatch m_matchGroups m_allFrom m_allBefore m_founds m_pieces m_writtenMany m_templateWide m_tooMuch))) → (cc o G 84 284 (za 2000 A_tape)) → (0 ≤ n ∧ n ≤ 7 ∧ 0 ≤ hv ∧ hv < q16 n) → (0 ≤ a0_ ∧ a0_ + n ≤ m_at ∧ m_at ≤ a0_ + n ∧ a0_ ≤ 2010) → (hxI A_tape m_taped a0_ n hv) → (fx o o [280] G0 G) → (G.length = G0.length) → (ab_slots G = ab_slots G0) → (Int.toNat (7 - n) < mz) → (∀ (G2 : ab_G) (v2 : Int) (n2 : Int) (a2 : Int), (cc o G2 80 280 (ab_ob 12 (mof m_thrown m_taped m_length m_out m_wide m_gathered m_sets m_ranges m_nodes a2 m_flags m_fault m_place m_numbered m_depth m_value m_isNot m_least0 m_most0 m_slot m_work m_got m_rowMany m_charAt m_charWide m_trail m_isMatch m_matchGroups m_allFrom m_allBefore m_founds m_pieces m_writtenMany m_templateWide m_tooMuch))) → (0 ≤ n2 ∧ n2 ≤ 7 ∧ 0 ≤ v2 ∧ v2 < 268435456 ∧ a2 = a0_ + n2) → (hxI A_tape m_taped a0_ n2 v2) → (n2 = 7 ∨ hxd (tpk A_tape m_taped (a0_ + n2)) < 0) → (fx o o [280] G0 G2) → (G2.length = G0.length) → (ab_slots G2 = ab_slots G0) → ab_W X (ab_pl y_MO_hexadecimal b_MO_hexadecimal 5 (some (.int))) d G2 79 [some (vR 80), some (vz wh), some (vz v2), some (vz n2), none] [] Q) → ab_W X (ab_pl y_MO_hexadecimal b_MO_hexadecimal 5 (some (.int))) d G 24 [some (vR 80), some (vz wh), some (vz hv), some (vz n), none] [] Q := by
  intro mz
  induction mz with
  | zero => intro G hv n m_at h80 h84 ci cat jhx hfr hlen hsl hm hk0; exact absurd hm (Nat.not_lt_zero _)
  | succ mz ih =>
    intro G hv n m_at h80 h84 ci cat jhx hfr hlen hsl hm hk0
    have hq16_ := q16_in n (by omega) (by omega)
    refine ab_iload_n d_MO_hexadecimal_24 rfl ?_
    refine zz_bipush d_MO_hexadecimal_25 (by decide) ?_
    refine zz_icmp_ge (tgt := 79) d_MO_hexadecimal_27 (by decide) (by omega) (by decide) (fun c1 => ?_) (fun c1 => ?_)
    · exact hk0 _ _ _ _ h80 (by omega) (by exact jhx) (by first | (left; omega) | (right; rw [show a0_ + n = m_at by omega]; first | omega | (rw [show tpk A_tape m_taped m_at = -1 by omega, hxd_m]; decide))) hfr hlen hsl
    · have hq17_ := q16_s n (by omega) (by omega)
      refine ab_aload_n d_MO_hexadecimal_30 rfl ?_
      refine zz_iconst d_MO_hexadecimal_31 ?_
      refine ab_callV (d' := d - 1) (as := [vz 0]) (st := []) (r := _) (z_MO_here (o := o) (m_thrown := m_thrown) (m_taped := m_taped) (m_length := m_length) (m_out := m_out) (m_wide := m_wide) (m_gathered := m_gathered) (m_sets := m_sets) (m_ranges := m_ranges) (m_nodes := m_nodes) (m_at := m_at) (m_flags := m_flags) (m_fault := m_fault) (m_place := m_place) (m_numbered := m_numbered) (m_depth := m_depth) (m_value := m_value) (m_isNot := m_isNot) (m_least0 := m_least0) (m_most0 := m_most0) (m_slot := m_slot) (m_work := m_work) (m_got := m_got) (m_rowMany := m_rowMany) (m_charAt := m_charAt) (m_charWide := m_charWide) (m_trail := m_trail) (m_isMatch := m_isMatch) (m_matchGroups := m_matchGroups) (m_allFrom := m_allFrom) (m_allBefore := m_allBefore) (m_founds := m_founds) (m_pieces := m_pieces) (m_writtenMany := m_writtenMany) (m_templateWide := m_templateWide) (m_tooMuch := m_tooMuch) (A_tape := A_tape) (k := 0) (qh := m_at) h80 h84 (by omega) (by omega) jtp (by omega) (by omega)) (fun oc G2 h => by rcases h with ⟨h, _⟩ | ⟨h, _⟩ <;> exact ⟨_, h⟩) (by omega) m_MO_here ml_MO_297 im_MO_here se_MO_here c_MO h80.2.2 (Nat.le_of_ble_eq_true rfl) d_MO_hexadecimal_32 rfl ?_
      intro v G2 hq
      rcases hq with ⟨hv, hGe, hq3⟩ | ⟨hv, hGe, hq4, hq5⟩
      · cases hv
        rw [hGe]
        change ab_W _ _ _ G 35 [some (vR 80), some (vz wh), some (vz hv), some (vz n), none] [vz (tpk A_tape m_taped m_at)] _
        refine zz_if_lt (tgt := 79) d_MO_hexadecimal_35 (by decide) (by omega) (fun c6 => absurd c6 (by omega)) (fun c6 => ?_)
        refine ab_aload_n d_MO_hexadecimal_38 rfl ?_
        refine zz_iconst d_MO_hexadecimal_39 ?_
        refine ab_callV (d' := d - 1) (as := [vz 0]) (st := []) (r := _) (z_MO_here (o := o) (m_thrown := m_thrown) (m_taped := m_taped) (m_length := m_length) (m_out := m_out) (m_wide := m_wide) (m_gathered := m_gathered) (m_sets := m_sets) (m_ranges := m_ranges) (m_nodes := m_nodes) (m_at := m_at) (m_flags := m_flags) (m_fault := m_fault) (m_place := m_place) (m_numbered := m_numbered) (m_depth := m_depth) (m_value := m_value) (m_isNot := m_isNot) (m_least0 := m_least0) (m_most0 := m_most0) (m_slot := m_slot) (m_work := m_work) (m_got := m_got) (m_rowMany := m_rowMany) (m_charAt := m_charAt) (m_charWide := m_charWide) (m_trail := m_trail) (m_isMatch := m_isMatch) (m_matchGroups := m_matchGroups) (m_allFrom := m_allFrom) (m_allBefore := m_allBefore) (m_founds := m_founds) (m_pieces := m_pieces) (m_writtenMany := m_writtenMany) (m_templateWide := m_templateWide) (m_tooMuch := m_tooMuch) (A_tape := A_tape) (k := 0) (qh := m_at) h80 h84 (by omega) (by omega) jtp (by omega) (by omega)) (fun oc G2 h => by rcases h with ⟨h, _⟩ | ⟨h, _⟩ <;> exact ⟨_, h⟩) (by omega) m_MO_here ml_MO_297 im_MO_here se_MO_here c_MO h80.2.2 (Nat.le_of_ble_eq_true rfl) d_MO_hexadecimal_40 rfl ?_
        intro v G7 hq
        rcases hq with ⟨hv, hGe, hq8⟩ | ⟨hv, hGe, hq9, hq10⟩
        · cases hv
          rw [hGe]
          change ab_W _ _ _ G 43 [some (vR 80), some (vz wh), some (vz hv), some (vz n), none] [vz (tpk A_tape m_taped m_at)] _
          refine ab_callS (d' := d - 1) (as := [vz (tpk A_tape m_taped m_at)]) (st := []) (z_MO_hex (o := o) (c := (tpk A_tape m_taped m_at)) (by omega)) (fun oc G2 h => by rcases h with ⟨h, _⟩ <;> exact ⟨_, h⟩) (by omega) m_MO_hex ml_MO_300 st_MO_hex (Nat.le_of_ble_eq_true rfl) d_MO_hexadecimal_43 rfl ?_
          intro v G11 hq
          rcases hq with ⟨hv, hGe, hq12⟩
          cases hv
          rw [hGe]
          change ab_W _ _ _ G 46 [some (vR 80), some (vz wh), some (vz hv), some (vz n), none] [vz (hxd (tpk A_tape m_taped m_at))] _
          refine zz_if_lt (tgt := 79) d_MO_hexadecimal_46 (by decide) (by omega) (fun c13 => ?_) (fun c13 => ?_)
          · exact hk0 _ _ _ _ h80 (by omega) (by exact jhx) (by first | (left; omega) | (right; rw [show a0_ + n = m_at by omega]; first | omega | (rw [show tpk A_tape m_taped m_at = -1 by omega, hxd_m]; decide))) hfr hlen hsl
          · refine zz_bipush d_MO_hexadecimal_49 (by decide) ?_
            refine ab_iload_n d_MO_hexadecimal_51 rfl ?_
            refine zz_imul d_MO_hexadecimal_52 ?_
            refine ab_aload_n d_MO_hexadecimal_53 rfl ?_
            refine zz_iconst d_MO_hexadecimal_54 ?_
            refine ab_callV (d' := d - 1) (as := [vz 0]) (st := [vz (16 * hv)]) (r := _) (z_MO_here (o := o) (m_thrown := m_thrown) (m_taped := m_taped) (m_length := m_length) (m_out := m_out) (m_wide := m_wide) (m_gathered := m_gathered) (m_sets := m_sets) (m_ranges := m_ranges) (m_nodes := m_nodes) (m_at := m_at) (m_flags := m_flags) (m_fault := m_fault) (m_place := m_place) (m_numbered := m_numbered) (m_depth := m_depth) (m_value := m_value) (m_isNot := m_isNot) (m_least0 := m_least0) (m_most0 := m_most0) (m_slot := m_slot) (m_work := m_work) (m_got := m_got) (m_rowMany := m_rowMany) (m_charAt := m_charAt) (m_charWide := m_charWide) (m_trail := m_trail) (m_isMatch := m_isMatch) (m_matchGroups := m_matchGroups) (m_allFrom := m_allFrom) (m_allBefore := m_allBefore) (m_founds := m_founds) (m_pieces := m_pieces) (m_writtenMany := m_writtenMany) (m_templateWide := m_templateWide) (m_tooMuch := m_tooMuch) (A_tape := A_tape) (k := 0) (qh := m_at) h80 h84 (by omega) (by omega) jtp (by omega) (by omega)) (fun oc G2 h => by rcases h with ⟨h, _⟩ | ⟨h, _⟩ <;> exact ⟨_, h⟩) (by omega) m_MO_here ml_MO_297 im_MO_here se_MO_here c_MO h80.2.2 (Nat.le_of_ble_eq_true rfl) d_MO_hexadecimal_55 rfl ?_
            intro v G14 hq
            rcases hq with ⟨hv, hGe, hq15⟩ | ⟨hv, hGe, hq16, hq17⟩
            · cases hv
              rw [hGe]
              change ab_W _ _ _ G 58 [some (vR 80), some (vz wh), some (vz hv), some (vz n), none] [vz (tpk A_tape m_taped m_at), vz (16 * hv)] _
              refine ab_callS (d' := d - 1) (as := [vz (tpk A_tape m_taped m_at)]) (st := [vz (16 * hv)]) (z_MO_hex (o := o) (c := (tpk A_tape m_taped m_at)) (by omega)) (fun oc G2 h => by rcases h with ⟨h, _⟩ <;> exact ⟨_, h⟩) (by omega) m_MO_hex ml_MO_300 st_MO_hex (Nat.le_of_ble_eq_true rfl) d_MO_hexadecimal_58 rfl ?_
              intro v G18 hq
              rcases hq with ⟨hv, hGe, hq19⟩
              cases hv
              rw [hGe]
              change ab_W _ _ _ G 61 [some (vR 80), some (vz wh), some (vz hv), some (vz n), none] [vz (hxd (tpk A_tape m_taped m_at)), vz (16 * hv)] _
              refine zz_iadd d_MO_hexadecimal_61 ?_
              refine ab_istore_n d_MO_hexadecimal_62 (Nat.le_of_ble_eq_true rfl) (Nat.le_of_ble_eq_true rfl) rfl ?_
              change ab_W _ _ _ G 63 [some (vR 80), some (vz wh), some (vz ((16 * hv) + (hxd (tpk A_tape m_taped m_at)))), some (vz n), none] [] _
              refine zz_iinc d_MO_hexadecimal_63 rfl (Nat.le_of_ble_eq_true rfl) (Nat.le_of_ble_eq_true rfl) rfl ?_
              change ab_W _ _ _ G 66 [some (vR 80), some (vz wh), some (vz ((16 * hv) + (hxd (tpk A_tape m_taped m_at)))), some (vz (n + 1)), none] [] _
              refine ab_aload_n d_MO_hexadecimal_66 rfl ?_
              refine ab_dup d_MO_hexadecimal_67 rfl ?_
              refine ab_getf (fs := mof m_thrown m_taped m_length m_out m_wide m_gathered m_sets m_ranges m_nodes m_at m_flags m_fault m_place m_numbered m_depth m_value m_isNot m_least0 m_most0 m_slot m_work m_got m_rowMany m_charAt m_charWide m_trail m_isMatch m_matchGroups m_allFrom m_allBefore m_founds m_pieces m_writtenMany m_templateWide m_tooMuch) f_MO_279 d_MO_hexadecimal_68 h80.2.2 rfl ?_
              refine zz_iconst d_MO_hexadecimal_71 ?_
              refine zz_iadd d_MO_hexadecimal_72 ?_
              refine ab_putf (fs := mof m_thrown m_taped m_length m_out m_wide m_gathered m_sets m_ranges m_nodes m_at m_flags m_fault m_place m_numbered m_depth m_value m_isNot m_least0 m_most0 m_slot m_work m_got m_rowMany m_charAt m_charWide m_trail m_isMatch m_matchGroups m_allFrom m_allBefore m_founds m_pieces m_writtenMany m_templateWide m_tooMuch) f_MO_279 (Or.inl rfl) d_MO_hexadecimal_73 h80.2.2 (Nat.le_of_ble_eq_true rfl) (fun _ => ⟨rfl, rfl⟩) (h80.2.1 (by decide)) ?_
              obtain ⟨G20, eG20⟩ : ∃ z : ab_G, z = List.set G 80 (ab_ob 12 (mof m_thrown m_taped m_length m_out m_wide m_gathered m_sets m_ranges m_nodes (m_at + 1) m_flags m_fault m_place m_numbered m_depth m_value m_isNot m_least0 m_most0 m_slot m_work m_got m_rowMany m_charAt m_charWide m_trail m_isMatch m_matchGroups m_allFrom m_allBefore m_founds m_pieces m_writtenMany m_templateWide m_tooMuch)) := ⟨_, rfl⟩
              have h84 := h84.keep h80 eG20 (by decide)
              have hlen := (z_len eG20).trans hlen
              have hsl := (z_sl h80 eG20 rfl).trans hsl
              have hfr := hfr.wr h80 eG20 (by decide)
              have h80 := h80.kept eG20
              change ab_W _ _ _ (List.set G 80 (ab_ob 12 (mof m_thrown m_taped m_length m_out m_wide m_gathered m_sets m_ranges m_nodes (m_at + 1) m_flags m_fault m_place m_numbered m_depth m_value m_isNot m_least0 m_most0 m_slot m_work m_got m_rowMany m_charAt m_charWide m_trail m_isMatch m_matchGroups m_allFrom m_allBefore m_founds m_pieces m_writtenMany m_templateWide m_tooMuch))) 76 [some (vR 80), some (vz wh), some (vz ((16 * hv) + (hxd (tpk A_tape m_taped m_at)))), some (vz (n + 1)), none] [] _
              rw [← eG20]
              refine ab_goto (tgt := 24) d_MO_hexadecimal_76 (by decide) ?_
              exact ih (hv := ((16 * hv) + (hxd (tpk A_tape m_taped m_at)))) (n := (n + 1)) (m_at := (m_at + 1)) h80 h84 (by omega) (by omega) (by have t_ := hxI_s jhx (by rw [show a0_ + n = m_at by omega]; omega); rw [show a0_ + n = m_at by omega] at t_; exact t_) hfr hlen hsl (by omega) hk0
            · cases hv
              rw [hGe]
              change ab_W _ _ _ G 58 [some (vR 80), some (vz wh), some (vz hv), some (vz n), none] [vz (-1), vz (16 * hv)] _
              exfalso; omega
        · cases hv
          rw [hGe]
          change ab_W _ _ _ G 43 [some (vR 80), some (vz wh), some (vz hv), some (vz n), none] [vz (-1)] _
          exfalso; omega
      · cases hv
        rw [hGe]
        change ab_W _ _ _ G 35 [some (vR 80), some (vz wh), some (vz hv), some (vz n), none] [vz (-1)] _
        refine zz_if_lt (tgt := 79) d_MO_hexadecimal_35 (by decide) (by decide) (fun c21 => ?_) (fun c21 => absurd c21 (by decide))
        exact hk0 _ _ _ _ h80 (by omega) (by exact jhx) (by first | (left; omega) | (right; rw [show a0_ + n = m_at by omega]; first | omega | (rw [show tpk A_tape m_taped m_at = -1 by omega, hxd_m]; decide))) hfr hlen hsl
set_option maxRecDepth 100000 in
set_option maxHeartbeats 4000000 in
theorem z_MO_hexadecimal {X : ab_X} {d : Nat} {o : Nat → Nat} {G : ab_G} {m_thrown : Int} {m_taped : Int} {m_length : Int} {m_out : Int} {m_wide : Int} {m_gathered : Int} {m_sets : Int} {m_ranges : Int} {m_nodes : Int} {m_at : Int} {m_flags : Int} {m_fault : Int} {m_place : Int} {m_numbered : Int} {m_depth : Int} {m_value : Int} {m_isNot : Int} {m_least0 : Int} {m_most0 : Int} {m_slot : Int} {m_work : Int} {m_got : Int} {m_rowMany : Int} {m_charAt : Int} {m_charWide : Int} {m_trail : Int} {m_isMatch : Int} {m_matchGroups : Int} {m_allFrom : Int} {m_allBefore : Int} {m_founds : Int} {m_pieces : Int} {m_writtenMany : Int} {m_templateWide : Int} {m_tooMuch : Int} {A_tape : Int → Int} {wh : Int} (h80 : cc o G 80 280 (ab_ob 12 (mof m_thrown m_taped m_length m_out m_wide m_gathered m_sets m_ranges m_nodes m_at m_flags m_fault m_place m_numbered m_depth m_value m_isNot m_least0 m_most0 m_slot m_work m_got m_rowMany m_charAt m_charWide m_trail m_isMatch m_matchGroups m_allFrom m_allBefore m_founds m_pieces m_writtenMany m_templateWide m_tooMuch))) (h84 : cc o G 84 284 (za 2000 A_tape)) (n18 : ab_n0 = 18) (cta : 0 ≤ m_taped ∧ m_taped ≤ 2000) (jtp : rgs A_tape 2000 0 255) (cat : 0 ≤ m_at ∧ m_at ≤ 2005) (cwh : -1 ≤ wh ∧ wh ≤ 2010) (cf : m_fault = 0) (hd : 2 ≤ d) : ab_F X d y_MO_hexadecimal (.code y_MO_hexadecimal b_MO_hexadecimal 5 (some (.int))) [vR 80, vz wh] G (fun oc G2 => (∃ a2 : Int, ∃ f2 : Int, ∃ p2 : Int, oc = .returned (some (vz (-1))) ∧ fx o o [280] G G2 ∧ G2.length = G.length ∧ ab_slots G2 = ab_slots G ∧ cc o G2 80 280 (ab_ob 12 (mof m_thrown m_taped m_length m_out m_wide m_gathered m_sets m_ranges m_nodes a2 m_flags f2 p2 m_numbered m_depth m_value m_isNot m_least0 m_most0 m_slot m_work m_got m_rowMany m_charAt m_charWide m_trail m_isMatch m_matchGroups m_allFrom m_allBefore m_founds m_pieces m_writtenMany m_templateWide m_tooMuch)) ∧ (1 ≤ f2 ∧ f2 ≤ 14 ∧ 0 ≤ a2 ∧ a2 ≤ 4000) ∧ (f2 = 5 ∧ p2 = wh) ∧ (∀ v q : Int, ¬ hexok A_tape m_taped m_at v q)) ∨ (∃ a2 : Int, ∃ v2 : Int, oc = .returned (some (vz 0)) ∧ fx o o [280] G G2 ∧ G2.length = G.length ∧ ab_slots G2 = ab_slots G ∧ cc o G2 80 280 (ab_ob 12 (mof m_thrown m_taped m_length m_out m_wide m_gathered m_sets m_ranges m_nodes a2 m_flags m_fault m_place m_numbered m_depth v2 m_isNot m_least0 m_most0 m_slot m_work m_got m_rowMany m_charAt m_charWide m_trail m_isMatch m_matchGroups m_allFrom m_allBefore m_founds m_pieces m_writtenMany m_templateWide m_tooMuch)) ∧ (0 ≤ v2 ∧ v2 ≤ 1114111 ∧ m_at ≤ a2 ∧ a2 ≤ m_taped) ∧ (hexok A_tape m_taped m_at v2 a2))) := by
  refine ab_F_of (by decide +kernel) (Nat.le_of_ble_eq_true rfl) ?_
  obtain ⟨Q, hQ⟩ : ∃ z : Outcome → ab_G → Prop, z = (fun oc G2 => (∃ a2 : Int, ∃ f2 : Int, ∃ p2 : Int, oc = .returned (some (vz (-1))) ∧ fx o o [280] G G2 ∧ G2.length = G.length ∧ ab_slots G2 = ab_slots G ∧ cc o G2 80 280 (ab_ob 12 (mof m_thrown m_taped m_length m_out m_wide m_gathered m_sets m_ranges m_nodes a2 m_flags f2 p2 m_numbered m_depth m_value m_isNot m_least0 m_most0 m_slot m_work m_got m_rowMany m_charAt m_charWide m_trail m_isMatch m_matchGroups m_allFrom m_allBefore m_founds m_pieces m_writtenMany m_templateWide m_tooMuch)) ∧ (1 ≤ f2 ∧ f2 ≤ 14 ∧ 0 ≤ a2 ∧ a2 ≤ 4000) ∧ (f2 = 5 ∧ p2 = wh) ∧ (∀ v q : Int, ¬ hexok A_tape m_taped m_at v q)) ∨ (∃ a2 : Int, ∃ v2 : Int, oc = .returned (some (vz 0)) ∧ fx o o [280] G G2 ∧ G2.length = G.length ∧ ab_slots G2 = ab_slots G ∧ cc o G2 80 280 (ab_ob 12 (mof m_thrown m_taped m_length m_out m_wide m_gathered m_sets m_ranges m_nodes a2 m_flags m_fault m_place m_numbered m_depth v2 m_isNot m_least0 m_most0 m_slot m_work m_got m_rowMany m_charAt m_charWide m_trail m_isMatch m_matchGroups m_allFrom m_allBefore m_founds m_pieces m_writtenMany m_templateWide m_tooMuch)) ∧ (0 ≤ v2 ∧ v2 ≤ 1114111 ∧ m_at ≤ a2 ∧ a2 ≤ m_taped) ∧ (hexok A_tape m_taped m_at v2 a2))) := ⟨_, rfl⟩
  rw [← hQ]
  change ab_W X (ab_pl y_MO_hexadecimal b_MO_hexadecimal 5 (some (.int))) d G 0 [some (vR 80), some (vz wh), none, none, none] [] Q
  have hfr : fx o o [280] G G := fx.rf
  have hlen : G.length = G.length := rfl
  have hsl : ab_slots G = ab_slots G := rfl
  refine zz_iconst d_MO_hexadecimal_0 ?_
  refine ab_istore_n d_MO_hexadecimal_1 (Nat.le_of_ble_eq_true rfl) (Nat.le_of_ble_eq_true rfl) rfl ?_
  change ab_W _ _ _ G 2 [some (vR 80), some (vz wh), some (vz 0), none, none] [] _
  refine zz_iconst d_MO_hexadecimal_2 ?_
  refine ab_istore_n d_MO_hexadecimal_3 (Nat.le_of_ble_eq_true rfl) (Nat.le_of_ble_eq_true rfl) rfl ?_
  change ab_W _ _ _ G 4 [some (vR 80), some (vz wh), some (vz 0), some (vz 0), none] [] _
  refine ab_aload_n d_MO_hexadecimal_4 rfl ?_
  refine zz_iconst d_MO_hexadecimal_5 ?_
  refine ab_callV (d' := d - 1) (as := [vz 0]) (st := []) (r := _) (z_MO_here (o := o) (m_thrown := m_thrown) (m_taped := m_taped) (m_length := m_length) (m_out := m_out) (m_wide := m_wide) (m_gathered := m_gathered) (m_sets := m_sets) (m_ranges := m_ranges) (m_nodes := m_nodes) (m_at := m_at) (m_flags := m_flags) (m_fault := m_fault) (m_place := m_place) (m_numbered := m_numbered) (m_depth := m_depth) (m_value := m_value) (m_isNot := m_isNot) (m_least0 := m_least0) (m_most0 := m_most0) (m_slot := m_slot) (m_work := m_work) (m_got := m_got) (m_rowMany := m_rowMany) (m_charAt := m_charAt) (m_charWide := m_charWide) (m_trail := m_trail) (m_isMatch := m_isMatch) (m_matchGroups := m_matchGroups) (m_allFrom := m_allFrom) (m_allBefore := m_allBefore) (m_founds := m_founds) (m_pieces := m_pieces) (m_writtenMany := m_writtenMany) (m_templateWide := m_templateWide) (m_tooMuch := m_tooMuch) (A_tape := A_tape) (k := 0) (qh := m_at) h80 h84 (by omega) (by omega) jtp (by omega) (by omega)) (fun oc G2 h => by rcases h with ⟨h, _⟩ | ⟨h, _⟩ <;> exact ⟨_, h⟩) (by omega) m_MO_here ml_MO_297 im_MO_here se_MO_here c_MO h80.2.2 (Nat.le_of_ble_eq_true rfl) d_MO_hexadecimal_6 rfl ?_
  intro v G1 hq
  rcases hq with ⟨hv, hGe, hq2⟩ | ⟨hv, hGe, hq3, hq4⟩
  · cases hv
    rw [hGe]
    change ab_W _ _ _ G 9 [some (vR 80), some (vz wh), some (vz 0), some (vz 0), none] [vz (tpk A_tape m_taped m_at)] _
    refine zz_bipush d_MO_hexadecimal_9 (by decide) ?_
    refine zz_icmp_ne (tgt := 117) d_MO_hexadecimal_11 (by decide) (by omega) (by decide) (fun c5 => ?_) (fun c5 => ?_)
    · refine ab_aload_n d_MO_hexadecimal_117 rfl ?_
      refine zz_iconst d_MO_hexadecimal_118 ?_
      refine ab_callV (d' := d - 1) (as := [vz 0]) (st := []) (r := _) (z_MO_here (o := o) (m_thrown := m_thrown) (m_taped := m_taped) (m_length := m_length) (m_out := m_out) (m_wide := m_wide) (m_gathered := m_gathered) (m_sets := m_sets) (m_ranges := m_ranges) (m_nodes := m_nodes) (m_at := m_at) (m_flags := m_flags) (m_fault := m_fault) (m_place := m_place) (m_numbered := m_numbered) (m_depth := m_depth) (m_value := m_value) (m_isNot := m_isNot) (m_least0 := m_least0) (m_most0 := m_most0) (m_slot := m_slot) (m_work := m_work) (m_got := m_got) (m_rowMany := m_rowMany) (m_charAt := m_charAt) (m_charWide := m_charWide) (m_trail := m_trail) (m_isMatch := m_isMatch) (m_matchGroups := m_matchGroups) (m_allFrom := m_allFrom) (m_allBefore := m_allBefore) (m_founds := m_founds) (m_pieces := m_pieces) (m_writtenMany := m_writtenMany) (m_templateWide := m_templateWide) (m_tooMuch := m_tooMuch) (A_tape := A_tape) (k := 0) (qh := m_at) h80 h84 (by omega) (by omega) jtp (by omega) (by omega)) (fun oc G2 h => by rcases h with ⟨h, _⟩ | ⟨h, _⟩ <;> exact ⟨_, h⟩) (by omega) m_MO_here ml_MO_297 im_MO_here se_MO_here c_MO h80.2.2 (Nat.le_of_ble_eq_true rfl) d_MO_hexadecimal_119 rfl ?_
      intro v G6 hq
      rcases hq with ⟨hv, hGe, hq7⟩ | ⟨hv, hGe, hq8, hq9⟩
      · cases hv
        rw [hGe]
        change ab_W _ _ _ G 122 [some (vR 80), some (vz wh), some (vz 0), some (vz 0), none] [vz (tpk A_tape m_taped m_at)] _
        refine zz_if_lt (tgt := 159) d_MO_hexadecimal_122 (by decide) (by omega) (fun c10 => absurd c10 (by omega)) (fun c10 => ?_)
        refine ab_aload_n d_MO_hexadecimal_125 rfl ?_
        refine zz_iconst d_MO_hexadecimal_126 ?_
        refine ab_callV (d' := d - 1) (as := [vz 1]) (st := []) (r := _) (z_MO_here (o := o) (m_thrown := m_thrown) (m_taped := m_taped) (m_length := m_length) (m_out := m_out) (m_wide := m_wide) (m_gathered := m_gathered) (m_sets := m_sets) (m_ranges := m_ranges) (m_nodes := m_nodes) (m_at := m_at) (m_flags := m_flags) (m_fault := m_fault) (m_place := m_place) (m_numbered := m_numbered) (m_depth := m_depth) (m_value := m_value) (m_isNot := m_isNot) (m_least0 := m_least0) (m_most0 := m_most0) (m_slot := m_slot) (m_work := m_work) (m_got := m_got) (m_rowMany := m_rowMany) (m_charAt := m_charAt) (m_charWide := m_charWide) (m_trail := m_trail) (m_isMatch := m_isMatch) (m_matchGroups := m_matchGroups) (m_allFrom := m_allFrom) (m_allBefore := m_allBefore) (m_founds := m_founds) (m_pieces := m_pieces) (m_writtenMany := m_writtenMany) (m_templateWide := m_templateWide) (m_tooMuch := m_tooMuch) (A_tape := A_tape) (k := 1) (qh := (m_at + 1)) h80 h84 (by omega) (by omega) jtp (by omega) (by omega)) (fun oc G2 h => by rcases h with ⟨h, _⟩ | ⟨h, _⟩ <;> exact ⟨_, h⟩) (by omega) m_MO_here ml_MO_297 im_MO_here se_MO_here c_MO h80.2.2 (Nat.le_of_ble_eq_true rfl) d_MO_hexadecimal_127 rfl ?_
        intro v G11 hq
        rcases hq with ⟨hv, hGe, hq12⟩ | ⟨hv, hGe, hq13, hq14⟩
        · cases hv
          rw [hGe]
          change ab_W _ _ _ G 130 [some (vR 80), some (vz wh), some (vz 0), some (vz 0), none] [vz (tpk A_tape m_taped (m_at + 1))] _
          refine zz_if_lt (tgt := 159) d_MO_hexadecimal_130 (by decide) (by omega) (fun c15 => absurd c15 (by omega)) (fun c15 => ?_)
          refine ab_aload_n d_MO_hexadecimal_133 rfl ?_
          refine zz_iconst d_MO_hexadecimal_134 ?_
          refine ab_callV (d' := d - 1) (as := [vz 0]) (st := []) (r := _) (z_MO_here (o := o) (m_thrown := m_thrown) (m_taped := m_taped) (m_length := m_length) (m_out := m_out) (m_wide := m_wide) (m_gathered := m_gathered) (m_sets := m_sets) (m_ranges := m_ranges) (m_nodes := m_nodes) (m_at := m_at) (m_flags := m_flags) (m_fault := m_fault) (m_place := m_place) (m_numbered := m_numbered) (m_depth := m_depth) (m_value := m_value) (m_isNot := m_isNot) (m_least0 := m_least0) (m_most0 := m_most0) (m_slot := m_slot) (m_work := m_work) (m_got := m_got) (m_rowMany := m_rowMany) (m_charAt := m_charAt) (m_charWide := m_charWide) (m_trail := m_trail) (m_isMatch := m_isMatch) (m_matchGroups := m_matchGroups) (m_allFrom := m_allFrom) (m_allBefore := m_allBefore) (m_founds := m_founds) (m_pieces := m_pieces) (m_writtenMany := m_writtenMany) (m_templateWide := m_templateWide) (m_tooMuch := m_tooMuch) (A_tape := A_tape) (k := 0) (qh := m_at) h80 h84 (by omega) (by omega) jtp (by omega) (by omega)) (fun oc G2 h => by rcases h with ⟨h, _⟩ | ⟨h, _⟩ <;> exact ⟨_, h⟩) (by omega) m_MO_here ml_MO_297 im_MO_here se_MO_here c_MO h80.2.2 (Nat.le_of_ble_eq_true rfl) d_MO_hexadecimal_135 rfl ?_
          intro v G16 hq
          rcases hq with ⟨hv, hGe, hq17⟩ | ⟨hv, hGe, hq18, hq19⟩
          · cases hv
            rw [hGe]
            change ab_W _ _ _ G 138 [some (vR 80), some (vz wh), some (vz 0), some (vz 0), none] [vz (tpk A_tape m_taped m_at)] _
            refine ab_callS (d' := d - 1) (as := [vz (tpk A_tape m_taped m_at)]) (st := []) (z_MO_hex (o := o) (c := (tpk A_tape m_taped m_at)) (by omega)) (fun oc G2 h => by rcases h with ⟨h, _⟩ <;> exact ⟨_, h⟩) (by omega) m_MO_hex ml_MO_300 st_MO_hex (Nat.le_of_ble_eq_true rfl) d_MO_hexadecimal_138 rfl ?_
            intro v G20 hq
            rcases hq with ⟨hv, hGe, hq21⟩
            cases hv
            rw [hGe]
            change ab_W _ _ _ G 141 [some (vR 80), some (vz wh), some (vz 0), some (vz 0), none] [vz (hxd (tpk A_tape m_taped m_at))] _
            refine zz_if_lt (tgt := 159) d_MO_hexadecimal_141 (by decide) (by omega) (fun c22 => ?_) (fun c22 => ?_)
            · refine zz_iconst d_MO_hexadecimal_159 ?_
              refine ab_istore d_MO_hexadecimal_160 (Nat.le_of_ble_eq_true rfl) (Nat.le_of_ble_eq_true rfl) rfl ?_
              change ab_W _ _ _ G 162 [some (vR 80), some (vz wh), some (vz 0), some (vz 0), some (vz 0)] [] _
              refine ab_iload d_MO_hexadecimal_162 rfl ?_
              refine zz_if_eq (tgt := 190) d_MO_hexadecimal_164 (by decide) (by decide) (fun c23 => ?_) (fun c23 => absurd c23 (by decide))
              refine zz_ldcw 1114112 d_MO_hexadecimal_190 cn_MO_303 (by decide) ?_
              refine ab_istore_n d_MO_hexadecimal_193 (Nat.le_of_ble_eq_true rfl) (Nat.le_of_ble_eq_true rfl) rfl ?_
              change ab_W _ _ _ G 194 [some (vR 80), some (vz wh), some (vz 1114112), some (vz 0), some (vz 0)] [] _
              refine ab_aload_n d_MO_hexadecimal_194 rfl ?_
              refine ab_dup d_MO_hexadecimal_195 rfl ?_
              refine ab_getf (fs := mof m_thrown m_taped m_length m_out m_wide m_gathered m_sets m_ranges m_nodes m_at m_flags m_fault m_place m_numbered m_depth m_value m_isNot m_least0 m_most0 m_slot m_work m_got m_rowMany m_charAt m_charWide m_trail m_isMatch m_matchGroups m_allFrom m_allBefore m_founds m_pieces m_writtenMany m_templateWide m_tooMuch) f_MO_279 d_MO_hexadecimal_196 h80.2.2 rfl ?_
              refine zz_iconst d_MO_hexadecimal_199 ?_
              refine zz_iadd d_MO_hexadecimal_200 ?_
              refine ab_putf (fs := mof m_thrown m_taped m_length m_out m_wide m_gathered m_sets m_ranges m_nodes m_at m_flags m_fault m_place m_numbered m_depth m_value m_isNot m_least0 m_most0 m_slot m_work m_got m_rowMany m_charAt m_charWide m_trail m_isMatch m_matchGroups m_allFrom m_allBefore m_founds m_pieces m_writtenMany m_templateWide m_tooMuch) f_MO_279 (Or.inl rfl) d_MO_hexadecimal_201 h80.2.2 (Nat.le_of_ble_eq_true rfl) (fun _ => ⟨rfl, rfl⟩) (h80.2.1 (by decide)) ?_
              obtain ⟨G24, eG24⟩ : ∃ z : ab_G, z = List.set G 80 (ab_ob 12 (mof m_thrown m_taped m_length m_out m_wide m_gathered m_sets m_ranges m_nodes (m_at + 2) m_flags m_fault m_place m_numbered m_depth m_value m_isNot m_least0 m_most0 m_slot m_work m_got m_rowMany m_charAt m_charWide m_trail m_isMatch m_matchGroups m_allFrom m_allBefore m_founds m_pieces m_writtenMany m_templateWide m_tooMuch)) := ⟨_, rfl⟩
              have h84 := h84.keep h80 eG24 (by decide)
              have hlen := (z_len eG24).trans hlen
              have hsl := (z_sl h80 eG24 rfl).trans hsl
              have hfr := hfr.wr h80 eG24 (by decide)
              have h80 := h80.kept eG24
              change ab_W _ _ _ (List.set G 80 (ab_ob 12 (mof m_thrown m_taped m_length m_out m_wide m_gathered m_sets m_ranges m_nodes (m_at + 2) m_flags m_fault m_place m_numbered m_depth m_value m_isNot m_least0 m_most0 m_slot m_work m_got m_rowMany m_charAt m_charWide m_trail m_isMatch m_matchGroups m_allFrom m_allBefore m_founds m_pieces m_writtenMany m_templateWide m_tooMuch))) 204 [some (vR 80), some (vz wh), some (vz 1114112), some (vz 0), some (vz 0)] [] _
              rw [← eG24]
              refine ab_iload_n d_MO_hexadecimal_204 rfl ?_
              refine zz_ldc 1114111 d_MO_hexadecimal_205 cn_MO_236 (by decide) ?_
              refine zz_icmp_gt (tgt := 222) d_MO_hexadecimal_207 (by decide) (by decide) (by decide) (fun c25 => ?_) (fun c25 => absurd c25 (by decide))
              refine ab_aload_n d_MO_hexadecimal_222 rfl ?_
              refine zz_iconst d_MO_hexadecimal_223 ?_
              refine ab_iload_n d_MO_hexadecimal_224 rfl ?_
              refine ab_callV (d' := d - 1) (as := [vz 5, vz wh]) (st := []) (r := _) (z_MO_wrong (o := o) (m_thrown := m_thrown) (m_taped := m_taped) (m_length := m_length) (m_out := m_out) (m_wide := m_wide) (m_gathered := m_gathered) (m_sets := m_sets) (m_ranges := m_ranges) (m_nodes := m_nodes) (m_at := (m_at + 2)) (m_flags := m_flags) (m_fault := m_fault) (m_place := m_place) (m_numbered := m_numbered) (m_depth := m_depth) (m_value := m_value) (m_isNot := m_isNot) (m_least0 := m_least0) (m_most0 := m_most0) (m_slot := m_slot) (m_work := m_work) (m_got := m_got) (m_rowMany := m_rowMany) (m_charAt := m_charAt) (m_charWide := m_charWide) (m_trail := m_trail) (m_isMatch := m_isMatch) (m_matchGroups := m_matchGroups) (m_allFrom := m_allFrom) (m_allBefore := m_allBefore) (m_founds := m_founds) (m_pieces := m_pieces) (m_writtenMany := m_writtenMany) (m_templateWide := m_templateWide) (m_tooMuch := m_tooMuch) (x := 5) (y := wh) h80 (by omega) (by omega)) (fun oc G2 h => by rcases h with ⟨h, _⟩ | ⟨h, _⟩ <;> exact ⟨_, h⟩) (by omega) m_MO_wrong ml_MO_304 im_MO_wrong se_MO_wrong c_MO h80.2.2 (Nat.le_of_ble_eq_true rfl) d_MO_hexadecimal_225 rfl ?_
              intro v G26 hq
              rcases hq with ⟨hv, hfk, hlk, hsk, hN80, hq27⟩ | ⟨hv, hGe, hq28⟩
              · cases hv
                have h84 := hfk.get h84 (by decide)
                have hfr := hfr.tr hfk (by decide)
                have hlen := hlk.trans hlen
                have hsl := hsk.trans hsl
                have h80 := hN80
                change ab_W _ _ _ G26 228 [some (vR 80), some (vz wh), some (vz 1114112), some (vz 0), some (vz 0)] [] _
                refine zz_iconst d_MO_hexadecimal_228 ?_
                refine zz_iret rfl d_MO_hexadecimal_229 ?_
                rw [hQ]; exact (Or.inl ⟨_, _, _, rfl, hfr, hlen, hsl, h80, (by omega), (by omega), (by exact hex_2n (by omega) (by first | (left; omega) | (left; rw [show tpk A_tape m_taped m_at = -1 by omega, hxd_m]; decide) | (right; left; omega) | (right; left; rw [show tpk A_tape m_taped (m_at + 1) = -1 by omega, hxd_m]; decide) | (right; right; unfold chr; omega)))⟩)
              · cases hv
                rw [hGe]
                change ab_W _ _ _ G24 228 [some (vR 80), some (vz wh), some (vz 1114112), some (vz 0), some (vz 0)] [] _
                exfalso; omega
            · refine ab_aload_n d_MO_hexadecimal_144 rfl ?_
              refine zz_iconst d_MO_hexadecimal_145 ?_
              refine ab_callV (d' := d - 1) (as := [vz 1]) (st := []) (r := _) (z_MO_here (o := o) (m_thrown := m_thrown) (m_taped := m_taped) (m_length := m_length) (m_out := m_out) (m_wide := m_wide) (m_gathered := m_gathered) (m_sets := m_sets) (m_ranges := m_ranges) (m_nodes := m_nodes) (m_at := m_at) (m_flags := m_flags) (m_fault := m_fault) (m_place := m_place) (m_numbered := m_numbered) (m_depth := m_depth) (m_value := m_value) (m_isNot := m_isNot) (m_least0 := m_least0) (m_most0 := m_most0) (m_slot := m_slot) (m_work := m_work) (m_got := m_got) (m_rowMany := m_rowMany) (m_charAt := m_charAt) (m_charWide := m_charWide) (m_trail := m_trail) (m_isMatch := m_isMatch) (m_matchGroups := m_matchGroups) (m_allFrom := m_allFrom) (m_allBefore := m_allBefore) (m_founds := m_founds) (m_pieces := m_pieces) (m_writtenMany := m_writtenMany) (m_templateWide := m_templateWide) (m_tooMuch := m_tooMuch) (A_tape := A_tape) (k := 1) (qh := (m_at + 1)) h80 h84 (by omega) (by omega) jtp (by omega) (by omega)) (fun oc G2 h => by rcases h with ⟨h, _⟩ | ⟨h, _⟩ <;> exact ⟨_, h⟩) (by omega) m_MO_here ml_MO_297 im_MO_here se_MO_here c_MO h80.2.2 (Nat.le_of_ble_eq_true rfl) d_MO_hexadecimal_146 rfl ?_
              intro v G29 hq
              rcases hq with ⟨hv, hGe, hq30⟩ | ⟨hv, hGe, hq31, hq32⟩
              · cases hv
                rw [hGe]
                change ab_W _ _ _ G 149 [some (vR 80), some (vz wh), some (vz 0), some (vz 0), none] [vz (tpk A_tape m_taped (m_at + 1))] _
                refine ab_callS (d' := d - 1) (as := [vz (tpk A_tape m_taped (m_at + 1))]) (st := []) (z_MO_hex (o := o) (c := (tpk A_tape m_taped (m_at + 1))) (by omega)) (fun oc G2 h => by rcases h with ⟨h, _⟩ <;> exact ⟨_, h⟩) (by omega) m_MO_hex ml_MO_300 st_MO_hex (Nat.le_of_ble_eq_true rfl) d_MO_hexadecimal_149 rfl ?_
                intro v G33 hq
                rcases hq with ⟨hv, hGe, hq34⟩
                cases hv
                rw [hGe]
                change ab_W _ _ _ G 152 [some (vR 80), some (vz wh), some (vz 0), some (vz 0), none] [vz (hxd (tpk A_tape m_taped (m_at + 1)))] _
                refine zz_if_lt (tgt := 159) d_MO_hexadecimal_152 (by decide) (by omega) (fun c35 => ?_) (fun c35 => ?_)
                · refine zz_iconst d_MO_hexadecimal_159 ?_
                  refine ab_istore d_MO_hexadecimal_160 (Nat.le_of_ble_eq_true rfl) (Nat.le_of_ble_eq_true rfl) rfl ?_
                  change ab_W _ _ _ G 162 [some (vR 80), some (vz wh), some (vz 0), some (vz 0), some (vz 0)] [] _
                  refine ab_iload d_MO_hexadecimal_162 rfl ?_
                  refine zz_if_eq (tgt := 190) d_MO_hexadecimal_164 (by decide) (by decide) (fun c36 => ?_) (fun c36 => absurd c36 (by decide))
                  refine zz_ldcw 1114112 d_MO_hexadecimal_190 cn_MO_303 (by decide) ?_
                  refine ab_istore_n d_MO_hexadecimal_193 (Nat.le_of_ble_eq_true rfl) (Nat.le_of_ble_eq_true rfl) rfl ?_
                  change ab_W _ _ _ G 194 [some (vR 80), some (vz wh), some (vz 1114112), some (vz 0), some (vz 0)] [] _
                  refine ab_aload_n d_MO_hexadecimal_194 rfl ?_
                  refine ab_dup d_MO_hexadecimal_195 rfl ?_
                  refine ab_getf (fs := mof m_thrown m_taped m_length m_out m_wide m_gathered m_sets m_ranges m_nodes m_at m_flags m_fault m_place m_numbered m_depth m_value m_isNot m_least0 m_most0 m_slot m_work m_got m_rowMany m_charAt m_charWide m_trail m_isMatch m_matchGroups m_allFrom m_allBefore m_founds m_pieces m_writtenMany m_templateWide m_tooMuch) f_MO_279 d_MO_hexadecimal_196 h80.2.2 rfl ?_
                  refine zz_iconst d_MO_hexadecimal_199 ?_
                  refine zz_iadd d_MO_hexadecimal_200 ?_
                  refine ab_putf (fs := mof m_thrown m_taped m_length m_out m_wide m_gathered m_sets m_ranges m_nodes m_at m_flags m_fault m_place m_numbered m_depth m_value m_isNot m_least0 m_most0 m_slot m_work m_got m_rowMany m_charAt m_charWide m_trail m_isMatch m_matchGroups m_allFrom m_allBefore m_founds m_pieces m_writtenMany m_templateWide m_tooMuch) f_MO_279 (Or.inl rfl) d_MO_hexadecimal_201 h80.2.2 (Nat.le_of_ble_eq_true rfl) (fun _ => ⟨rfl, rfl⟩) (h80.2.1 (by decide)) ?_
                  obtain ⟨G37, eG37⟩ : ∃ z : ab_G, z = List.set G 80 (ab_ob 12 (mof m_thrown m_taped m_length m_out m_wide m_gathered m_sets m_ranges m_nodes (m_at + 2) m_flags m_fault m_place m_numbered m_depth m_value m_isNot m_least0 m_most0 m_slot m_work m_got m_rowMany m_charAt m_charWide m_trail m_isMatch m_matchGroups m_allFrom m_allBefore m_founds m_pieces m_writtenMany m_templateWide m_tooMuch)) := ⟨_, rfl⟩
                  have h84 := h84.keep h80 eG37 (by decide)
                  have hlen := (z_len eG37).trans hlen
                  have hsl := (z_sl h80 eG37 rfl).trans hsl
                  have hfr := hfr.wr h80 eG37 (by decide)
                  have h80 := h80.kept eG37
                  change ab_W _ _ _ (List.set G 80 (ab_ob 12 (mof m_thrown m_taped m_length m_out m_wide m_gathered m_sets m_ranges m_nodes (m_at + 2) m_flags m_fault m_place m_numbered m_depth m_value m_isNot m_least0 m_most0 m_slot m_work m_got m_rowMany m_charAt m_charWide m_trail m_isMatch m_matchGroups m_allFrom m_allBefore m_founds m_pieces m_writtenMany m_templateWide m_tooMuch))) 204 [some (vR 80), some (vz wh), some (vz 1114112), some (vz 0), some (vz 0)] [] _
                  rw [← eG37]
                  refine ab_iload_n d_MO_hexadecimal_204 rfl ?_
                  refine zz_ldc 1114111 d_MO_hexadecimal_205 cn_MO_236 (by decide) ?_
                  refine zz_icmp_gt (tgt := 222) d_MO_hexadecimal_207 (by decide) (by decide) (by decide) (fun c38 => ?_) (fun c38 => absurd c38 (by decide))
                  refine ab_aload_n d_MO_hexadecimal_222 rfl ?_
                  refine zz_iconst d_MO_hexadecimal_223 ?_
                  refine ab_iload_n d_MO_hexadecimal_224 rfl ?_
                  refine ab_callV (d' := d - 1) (as := [vz 5, vz wh]) (st := []) (r := _) (z_MO_wrong (o := o) (m_thrown := m_thrown) (m_taped := m_taped) (m_length := m_length) (m_out := m_out) (m_wide := m_wide) (m_gathered := m_gathered) (m_sets := m_sets) (m_ranges := m_ranges) (m_nodes := m_nodes) (m_at := (m_at + 2)) (m_flags := m_flags) (m_fault := m_fault) (m_place := m_place) (m_numbered := m_numbered) (m_depth := m_depth) (m_value := m_value) (m_isNot := m_isNot) (m_least0 := m_least0) (m_most0 := m_most0) (m_slot := m_slot) (m_work := m_work) (m_got := m_got) (m_rowMany := m_rowMany) (m_charAt := m_charAt) (m_charWide := m_charWide) (m_trail := m_trail) (m_isMatch := m_isMatch) (m_matchGroups := m_matchGroups) (m_allFrom := m_allFrom) (m_allBefore := m_allBefore) (m_founds := m_founds) (m_pieces := m_pieces) (m_writtenMany := m_writtenMany) (m_templateWide := m_templateWide) (m_tooMuch := m_tooMuch) (x := 5) (y := wh) h80 (by omega) (by omega)) (fun oc G2 h => by rcases h with ⟨h, _⟩ | ⟨h, _⟩ <;> exact ⟨_, h⟩) (by omega) m_MO_wrong ml_MO_304 im_MO_wrong se_MO_wrong c_MO h80.2.2 (Nat.le_of_ble_eq_true rfl) d_MO_hexadecimal_225 rfl ?_
                  intro v G39 hq
                  rcases hq with ⟨hv, hfk, hlk, hsk, hN80, hq40⟩ | ⟨hv, hGe, hq41⟩
                  · cases hv
                    have h84 := hfk.get h84 (by decide)
                    have hfr := hfr.tr hfk (by decide)
                    have hlen := hlk.trans hlen
                    have hsl := hsk.trans hsl
                    have h80 := hN80
                    change ab_W _ _ _ G39 228 [some (vR 80), some (vz wh), some (vz 1114112), some (vz 0), some (vz 0)] [] _
                    refine zz_iconst d_MO_hexadecimal_228 ?_
                    refine zz_iret rfl d_MO_hexadecimal_229 ?_
                    rw [hQ]; exact (Or.inl ⟨_, _, _, rfl, hfr, hlen, hsl, h80, (by omega), (by omega), (by exact hex_2n (by omega) (by first | (left; omega) | (left; rw [show tpk A_tape m_taped m_at = -1 by omega, hxd_m]; decide) | (right; left; omega) | (right; left; rw [show tpk A_tape m_taped (m_at + 1) = -1 by omega, hxd_m]; decide) | (right; right; unfold chr; omega)))⟩)
                  · cases hv
                    rw [hGe]
                    change ab_W _ _ _ G37 228 [some (vR 80), some (vz wh), some (vz 1114112), some (vz 0), some (vz 0)] [] _
                    exfalso; omega
                · refine zz_iconst d_MO_hexadecimal_155 ?_
                  refine ab_goto (tgt := 160) d_MO_hexadecimal_156 (by decide) ?_
                  refine ab_istore d_MO_hexadecimal_160 (Nat.le_of_ble_eq_true rfl) (Nat.le_of_ble_eq_true rfl) rfl ?_
                  change ab_W _ _ _ G 162 [some (vR 80), some (vz wh), some (vz 0), some (vz 0), some (vz 1)] [] _
                  refine ab_iload d_MO_hexadecimal_162 rfl ?_
                  refine zz_if_eq (tgt := 190) d_MO_hexadecimal_164 (by decide) (by decide) (fun c42 => absurd c42 (by decide)) (fun c42 => ?_)
                  refine zz_bipush d_MO_hexadecimal_167 (by decide) ?_
                  refine ab_aload_n d_MO_hexadecimal_169 rfl ?_
                  refine zz_iconst d_MO_hexadecimal_170 ?_
                  refine ab_callV (d' := d - 1) (as := [vz 0]) (st := [vz 16]) (r := _) (z_MO_here (o := o) (m_thrown := m_thrown) (m_taped := m_taped) (m_length := m_length) (m_out := m_out) (m_wide := m_wide) (m_gathered := m_gathered) (m_sets := m_sets) (m_ranges := m_ranges) (m_nodes := m_nodes) (m_at := m_at) (m_flags := m_flags) (m_fault := m_fault) (m_place := m_place) (m_numbered := m_numbered) (m_depth := m_depth) (m_value := m_value) (m_isNot := m_isNot) (m_least0 := m_least0) (m_most0 := m_most0) (m_slot := m_slot) (m_work := m_work) (m_got := m_got) (m_rowMany := m_rowMany) (m_charAt := m_charAt) (m_charWide := m_charWide) (m_trail := m_trail) (m_isMatch := m_isMatch) (m_matchGroups := m_matchGroups) (m_allFrom := m_allFrom) (m_allBefore := m_allBefore) (m_founds := m_founds) (m_pieces := m_pieces) (m_writtenMany := m_writtenMany) (m_templateWide := m_templateWide) (m_tooMuch := m_tooMuch) (A_tape := A_tape) (k := 0) (qh := m_at) h80 h84 (by omega) (by omega) jtp (by omega) (by omega)) (fun oc G2 h => by rcases h with ⟨h, _⟩ | ⟨h, _⟩ <;> exact ⟨_, h⟩) (by omega) m_MO_here ml_MO_297 im_MO_here se_MO_here c_MO h80.2.2 (Nat.le_of_ble_eq_true rfl) d_MO_hexadecimal_171 rfl ?_
                  intro v G43 hq
                  rcases hq with ⟨hv, hGe, hq44⟩ | ⟨hv, hGe, hq45, hq46⟩
                  · cases hv
                    rw [hGe]
                    change ab_W _ _ _ G 174 [some (vR 80), some (vz wh), some (vz 0), some (vz 0), some (vz 1)] [vz (tpk A_tape m_taped m_at), vz 16] _
                    refine ab_callS (d' := d - 1) (as := [vz (tpk A_tape m_taped m_at)]) (st := [vz 16]) (z_MO_hex (o := o) (c := (tpk A_tape m_taped m_at)) (by omega)) (fun oc G2 h => by rcases h with ⟨h, _⟩ <;> exact ⟨_, h⟩) (by omega) m_MO_hex ml_MO_300 st_MO_hex (Nat.le_of_ble_eq_true rfl) d_MO_hexadecimal_174 rfl ?_
                    intro v G47 hq
                    rcases hq with ⟨hv, hGe, hq48⟩
                    cases hv
                    rw [hGe]
                    change ab_W _ _ _ G 177 [some (vR 80), some (vz wh), some (vz 0), some (vz 0), some (vz 1)] [vz (hxd (tpk A_tape m_taped m_at)), vz 16] _
                    refine zz_imul d_MO_hexadecimal_177 ?_
                    refine ab_aload_n d_MO_hexadecimal_178 rfl ?_
                    refine zz_iconst d_MO_hexadecimal_179 ?_
                    refine ab_callV (d' := d - 1) (as := [vz 1]) (st := [vz (16 * (hxd (tpk A_tape m_taped m_at)))]) (r := _) (z_MO_here (o := o) (m_thrown := m_thrown) (m_taped := m_taped) (m_length := m_length) (m_out := m_out) (m_wide := m_wide) (m_gathered := m_gathered) (m_sets := m_sets) (m_ranges := m_ranges) (m_nodes := m_nodes) (m_at := m_at) (m_flags := m_flags) (m_fault := m_fault) (m_place := m_place) (m_numbered := m_numbered) (m_depth := m_depth) (m_value := m_value) (m_isNot := m_isNot) (m_least0 := m_least0) (m_most0 := m_most0) (m_slot := m_slot) (m_work := m_work) (m_got := m_got) (m_rowMany := m_rowMany) (m_charAt := m_charAt) (m_charWide := m_charWide) (m_trail := m_trail) (m_isMatch := m_isMatch) (m_matchGroups := m_matchGroups) (m_allFrom := m_allFrom) (m_allBefore := m_allBefore) (m_founds := m_founds) (m_pieces := m_pieces) (m_writtenMany := m_writtenMany) (m_templateWide := m_templateWide) (m_tooMuch := m_tooMuch) (A_tape := A_tape) (k := 1) (qh := (m_at + 1)) h80 h84 (by omega) (by omega) jtp (by omega) (by omega)) (fun oc G2 h => by rcases h with ⟨h, _⟩ | ⟨h, _⟩ <;> exact ⟨_, h⟩) (by omega) m_MO_here ml_MO_297 im_MO_here se_MO_here c_MO h80.2.2 (Nat.le_of_ble_eq_true rfl) d_MO_hexadecimal_180 rfl ?_
                    intro v G49 hq
                    rcases hq with ⟨hv, hGe, hq50⟩ | ⟨hv, hGe, hq51, hq52⟩
                    · cases hv
                      rw [hGe]
                      change ab_W _ _ _ G 183 [some (vR 80), some (vz wh), some (vz 0), some (vz 0), some (vz 1)] [vz (tpk A_tape m_taped (m_at + 1)), vz (16 * (hxd (tpk A_tape m_taped m_at)))] _
                      refine ab_callS (d' := d - 1) (as := [vz (tpk A_tape m_taped (m_at + 1))]) (st := [vz (16 * (hxd (tpk A_tape m_taped m_at)))]) (z_MO_hex (o := o) (c := (tpk A_tape m_taped (m_at + 1))) (by omega)) (fun oc G2 h => by rcases h with ⟨h, _⟩ <;> exact ⟨_, h⟩) (by omega) m_MO_hex ml_MO_300 st_MO_hex (Nat.le_of_ble_eq_true rfl) d_MO_hexadecimal_183 rfl ?_
                      intro v G53 hq
                      rcases hq with ⟨hv, hGe, hq54⟩
                      cases hv
                      rw [hGe]
                      change ab_W _ _ _ G 186 [some (vR 80), some (vz wh), some (vz 0), some (vz 0), some (vz 1)] [vz (hxd (tpk A_tape m_taped (m_at + 1))), vz (16 * (hxd (tpk A_tape m_taped m_at)))] _
                      refine zz_iadd d_MO_hexadecimal_186 ?_
                      refine ab_goto (tgt := 193) d_MO_hexadecimal_187 (by decide) ?_
                      refine ab_istore_n d_MO_hexadecimal_193 (Nat.le_of_ble_eq_true rfl) (Nat.le_of_ble_eq_true rfl) rfl ?_
                      change ab_W _ _ _ G 194 [some (vR 80), some (vz wh), some (vz ((16 * (hxd (tpk A_tape m_taped m_at))) + (hxd (tpk A_tape m_taped (m_at + 1))))), some (vz 0), some (vz 1)] [] _
                      refine ab_aload_n d_MO_hexadecimal_194 rfl ?_
                      refine ab_dup d_MO_hexadecimal_195 rfl ?_
                      refine ab_getf (fs := mof m_thrown m_taped m_length m_out m_wide m_gathered m_sets m_ranges m_nodes m_at m_flags m_fault m_place m_numbered m_depth m_value m_isNot m_least0 m_most0 m_slot m_work m_got m_rowMany m_charAt m_charWide m_trail m_isMatch m_matchGroups m_allFrom m_allBefore m_founds m_pieces m_writtenMany m_templateWide m_tooMuch) f_MO_279 d_MO_hexadecimal_196 h80.2.2 rfl ?_
                      refine zz_iconst d_MO_hexadecimal_199 ?_
                      refine zz_iadd d_MO_hexadecimal_200 ?_
                      refine ab_putf (fs := mof m_thrown m_taped m_length m_out m_wide m_gathered m_sets m_ranges m_nodes m_at m_flags m_fault m_place m_numbered m_depth m_value m_isNot m_least0 m_most0 m_slot m_work m_got m_rowMany m_charAt m_charWide m_trail m_isMatch m_matchGroups m_allFrom m_allBefore m_founds m_pieces m_writtenMany m_templateWide m_tooMuch) f_MO_279 (Or.inl rfl) d_MO_hexadecimal_201 h80.2.2 (Nat.le_of_ble_eq_true rfl) (fun _ => ⟨rfl, rfl⟩) (h80.2.1 (by decide)) ?_
                      obtain ⟨G55, eG55⟩ : ∃ z : ab_G, z = List.set G 80 (ab_ob 12 (mof m_thrown m_taped m_length m_out m_wide m_gathered m_sets m_ranges m_nodes (m_at + 2) m_flags m_fault m_place m_numbered m_depth m_value m_isNot m_least0 m_most0 m_slot m_work m_got m_rowMany m_charAt m_charWide m_trail m_isMatch m_matchGroups m_allFrom m_allBefore m_founds m_pieces m_writtenMany m_templateWide m_tooMuch)) := ⟨_, rfl⟩
                      have h84 := h84.keep h80 eG55 (by decide)
                      have hlen := (z_len eG55).trans hlen
                      have hsl := (z_sl h80 eG55 rfl).trans hsl
                      have hfr := hfr.wr h80 eG55 (by decide)
                      have h80 := h80.kept eG55
                      change ab_W _ _ _ (List.set G 80 (ab_ob 12 (mof m_thrown m_taped m_length m_out m_wide m_gathered m_sets m_ranges m_nodes (m_at + 2) m_flags m_fault m_place m_numbered m_depth m_value m_isNot m_least0 m_most0 m_slot m_work m_got m_rowMany m_charAt m_charWide m_trail m_isMatch m_matchGroups m_allFrom m_allBefore m_founds m_pieces m_writtenMany m_templateWide m_tooMuch))) 204 [some (vR 80), some (vz wh), some (vz ((16 * (hxd (tpk A_tape m_taped m_at))) + (hxd (tpk A_tape m_taped (m_at + 1))))), some (vz 0), some (vz 1)] [] _
                      rw [← eG55]
                      refine ab_iload_n d_MO_hexadecimal_204 rfl ?_
                      refine zz_ldc 1114111 d_MO_hexadecimal_205 cn_MO_236 (by decide) ?_
                      refine zz_icmp_gt (tgt := 222) d_MO_hexadecimal_207 (by decide) (by omega) (by decide) (fun c56 => absurd c56 (by omega)) (fun c56 => ?_)
                      refine ab_iload_n d_MO_hexadecimal_210 rfl ?_
                      refine zz_ldc 55296 d_MO_hexadecimal_211 cn_MO_233 (by decide) ?_
                      refine zz_icmp_lt (tgt := 230) d_MO_hexadecimal_213 (by decide) (by omega) (by decide) (fun c57 => ?_) (fun c57 => absurd c57 (by omega))
                      refine ab_aload_n d_MO_hexadecimal_230 rfl ?_
                      refine ab_iload_n d_MO_hexadecimal_231 rfl ?_
                      refine ab_putf (fs := mof m_thrown m_taped m_length m_out m_wide m_gathered m_sets m_ranges m_nodes (m_at + 2) m_flags m_fault m_place m_numbered m_depth m_value m_isNot m_least0 m_most0 m_slot m_work m_got m_rowMany m_charAt m_charWide m_trail m_isMatch m_matchGroups m_allFrom m_allBefore m_founds m_pieces m_writtenMany m_templateWide m_tooMuch) f_MO_307 (Or.inl rfl) d_MO_hexadecimal_232 h80.2.2 (Nat.le_of_ble_eq_true rfl) (fun _ => ⟨rfl, rfl⟩) (h80.2.1 (by decide)) ?_
                      obtain ⟨G58, eG58⟩ : ∃ z : ab_G, z = List.set G55 80 (ab_ob 12 (mof m_thrown m_taped m_length m_out m_wide m_gathered m_sets m_ranges m_nodes (m_at + 2) m_flags m_fault m_place m_numbered m_depth ((16 * (hxd (tpk A_tape m_taped m_at))) + (hxd (tpk A_tape m_taped (m_at + 1)))) m_isNot m_least0 m_most0 m_slot m_work m_got m_rowMany m_charAt m_charWide m_trail m_isMatch m_matchGroups m_allFrom m_allBefore m_founds m_pieces m_writtenMany m_templateWide m_tooMuch)) := ⟨_, rfl⟩
                      have h84 := h84.keep h80 eG58 (by decide)
                      have hlen := (z_len eG58).trans hlen
                      have hsl := (z_sl h80 eG58 rfl).trans hsl
                      have hfr := hfr.wr h80 eG58 (by decide)
                      have h80 := h80.kept eG58
                      change ab_W _ _ _ (List.set G55 80 (ab_ob 12 (mof m_thrown m_taped m_length m_out m_wide m_gathered m_sets m_ranges m_nodes (m_at + 2) m_flags m_fault m_place m_numbered m_depth ((16 * (hxd (tpk A_tape m_taped m_at))) + (hxd (tpk A_tape m_taped (m_at + 1)))) m_isNot m_least0 m_most0 m_slot m_work m_got m_rowMany m_charAt m_charWide m_trail m_isMatch m_matchGroups m_allFrom m_allBefore m_founds m_pieces m_writtenMany m_templateWide m_tooMuch))) 235 [some (vR 80), some (vz wh), some (vz ((16 * (hxd (tpk A_tape m_taped m_at))) + (hxd (tpk A_tape m_taped (m_at + 1))))), some (vz 0), some (vz 1)] [] _
                      rw [← eG58]
                      refine zz_iconst d_MO_hexadecimal_235 ?_
                      refine zz_iret rfl d_MO_hexadecimal_236 ?_
                      rw [hQ]; exact (Or.inr ⟨_, _, rfl, hfr, hlen, hsl, h80, (by omega), (by exact hex_2 (by omega) (by omega) (by omega) (by unfold chr; omega))⟩)
                    · cases hv
                      rw [hGe]
                      change ab_W _ _ _ G 183 [some (vR 80), some (vz wh), some (vz 0), some (vz 0), some (vz 1)] [vz (-1), vz (16 * (hxd (tpk A_tape m_taped m_at)))] _
                      exfalso; omega
                  · cases hv
                    rw [hGe]
                    change ab_W _ _ _ G 174 [some (vR 80), some (vz wh), some (vz 0), some (vz 0), some (vz 1)] [vz (-1), vz 16] _
                    exfalso; omega
              · cases hv
                rw [hGe]
                change ab_W _ _ _ G 149 [some (vR 80), some (vz wh), some (vz 0), some (vz 0), none] [vz (-1)] _
                exfalso; omega
          · cases hv
            rw [hGe]
            change ab_W _ _ _ G 138 [some (vR 80), some (vz wh), some (vz 0), some (vz 0), none] [vz (-1)] _
            exfalso; omega
        · cases hv
          rw [hGe]
          change ab_W _ _ _ G 130 [some (vR 80), some (vz wh), some (vz 0), some (vz 0), none] [vz (-1)] _
          refine zz_if_lt (tgt := 159) d_MO_hexadecimal_130 (by decide) (by decide) (fun c59 => ?_) (fun c59 => absurd c59 (by decide))
          refine zz_iconst d_MO_hexadecimal_159 ?_
          refine ab_istore d_MO_hexadecimal_160 (Nat.le_of_ble_eq_true rfl) (Nat.le_of_ble_eq_true rfl) rfl ?_
          change ab_W _ _ _ G 162 [some (vR 80), some (vz wh), some (vz 0), some (vz 0), some (vz 0)] [] _
          refine ab_iload d_MO_hexadecimal_162 rfl ?_
          refine zz_if_eq (tgt := 190) d_MO_hexadecimal_164 (by decide) (by decide) (fun c60 => ?_) (fun c60 => absurd c60 (by decide))
          refine zz_ldcw 1114112 d_MO_hexadecimal_190 cn_MO_303 (by decide) ?_
          refine ab_istore_n d_MO_hexadecimal_193 (Nat.le_of_ble_eq_true rfl) (Nat.le_of_ble_eq_true rfl) rfl ?_
          change ab_W _ _ _ G 194 [some (vR 80), some (vz wh), some (vz 1114112), some (vz 0), some (vz 0)] [] _
          refine ab_aload_n d_MO_hexadecimal_194 rfl ?_
          refine ab_dup d_MO_hexadecimal_195 rfl ?_
          refine ab_getf (fs := mof m_thrown m_taped m_length m_out m_wide m_gathered m_sets m_ranges m_nodes m_at m_flags m_fault m_place m_numbered m_depth m_value m_isNot m_least0 m_most0 m_slot m_work m_got m_rowMany m_charAt m_charWide m_trail m_isMatch m_matchGroups m_allFrom m_allBefore m_founds m_pieces m_writtenMany m_templateWide m_tooMuch) f_MO_279 d_MO_hexadecimal_196 h80.2.2 rfl ?_
          refine zz_iconst d_MO_hexadecimal_199 ?_
          refine zz_iadd d_MO_hexadecimal_200 ?_
          refine ab_putf (fs := mof m_thrown m_taped m_length m_out m_wide m_gathered m_sets m_ranges m_nodes m_at m_flags m_fault m_place m_numbered m_depth m_value m_isNot m_least0 m_most0 m_slot m_work m_got m_rowMany m_charAt m_charWide m_trail m_isMatch m_matchGroups m_allFrom m_allBefore m_founds m_pieces m_writtenMany m_templateWide m_tooMuch) f_MO_279 (Or.inl rfl) d_MO_hexadecimal_201 h80.2.2 (Nat.le_of_ble_eq_true rfl) (fun _ => ⟨rfl, rfl⟩) (h80.2.1 (by decide)) ?_
          obtain ⟨G61, eG61⟩ : ∃ z : ab_G, z = List.set G 80 (ab_ob 12 (mof m_thrown m_taped m_length m_out m_wide m_gathered m_sets m_ranges m_nodes (m_at + 2) m_flags m_fault m_place m_numbered m_depth m_value m_isNot m_least0 m_most0 m_slot m_work m_got m_rowMany m_charAt m_charWide m_trail m_isMatch m_matchGroups m_allFrom m_allBefore m_founds m_pieces m_writtenMany m_templateWide m_tooMuch)) := ⟨_, rfl⟩
          have h84 := h84.keep h80 eG61 (by decide)
          have hlen := (z_len eG61).trans hlen
          have hsl := (z_sl h80 eG61 rfl).trans hsl
          have hfr := hfr.wr h80 eG61 (by decide)
          have h80 := h80.kept eG61
          change ab_W _ _ _ (List.set G 80 (ab_ob 12 (mof m_thrown m_taped m_length m_out m_wide m_gathered m_sets m_ranges m_nodes (m_at + 2) m_flags m_fault m_place m_numbered m_depth m_value m_isNot m_least0 m_most0 m_slot m_work m_got m_rowMany m_charAt m_charWide m_trail m_isMatch m_matchGroups m_allFrom m_allBefore m_founds m_pieces m_writtenMany m_templateWide m_tooMuch))) 204 [some (vR 80), some (vz wh), some (vz 1114112), some (vz 0), some (vz 0)] [] _
          rw [← eG61]
          refine ab_iload_n d_MO_hexadecimal_204 rfl ?_
          refine zz_ldc 1114111 d_MO_hexadecimal_205 cn_MO_236 (by decide) ?_
          refine zz_icmp_gt (tgt := 222) d_MO_hexadecimal_207 (by decide) (by decide) (by decide) (fun c62 => ?_) (fun c62 => absurd c62 (by decide))
          refine ab_aload_n d_MO_hexadecimal_222 rfl ?_
          refine zz_iconst d_MO_hexadecimal_223 ?_
          refine ab_iload_n d_MO_hexadecimal_224 rfl ?_
          refine ab_callV (d' := d - 1) (as := [vz 5, vz wh]) (st := []) (r := _) (z_MO_wrong (o := o) (m_thrown := m_thrown) (m_taped := m_taped) (m_length := m_length) (m_out := m_out) (m_wide := m_wide) (m_gathered := m_gathered) (m_sets := m_sets) (m_ranges := m_ranges) (m_nodes := m_nodes) (m_at := (m_at + 2)) (m_flags := m_flags) (m_fault := m_fault) (m_place := m_place) (m_numbered := m_numbered) (m_depth := m_depth) (m_value := m_value) (m_isNot := m_isNot) (m_least0 := m_least0) (m_most0 := m_most0) (m_slot := m_slot) (m_work := m_work) (m_got := m_got) (m_rowMany := m_rowMany) (m_charAt := m_charAt) (m_charWide := m_charWide) (m_trail := m_trail) (m_isMatch := m_isMatch) (m_matchGroups := m_matchGroups) (m_allFrom := m_allFrom) (m_allBefore := m_allBefore) (m_founds := m_founds) (m_pieces := m_pieces) (m_writtenMany := m_writtenMany) (m_templateWide := m_templateWide) (m_tooMuch := m_tooMuch) (x := 5) (y := wh) h80 (by omega) (by omega)) (fun oc G2 h => by rcases h with ⟨h, _⟩ | ⟨h, _⟩ <;> exact ⟨_, h⟩) (by omega) m_MO_wrong ml_MO_304 im_MO_wrong se_MO_wrong c_MO h80.2.2 (Nat.le_of_ble_eq_true rfl) d_MO_hexadecimal_225 rfl ?_
          intro v G63 hq
          rcases hq with ⟨hv, hfk, hlk, hsk, hN80, hq64⟩ | ⟨hv, hGe, hq65⟩
          · cases hv
            have h84 := hfk.get h84 (by decide)
            have hfr := hfr.tr hfk (by decide)
            have hlen := hlk.trans hlen
            have hsl := hsk.trans hsl
            have h80 := hN80
            change ab_W _ _ _ G63 228 [some (vR 80), some (vz wh), some (vz 1114112), some (vz 0), some (vz 0)] [] _
            refine zz_iconst d_MO_hexadecimal_228 ?_
            refine zz_iret rfl d_MO_hexadecimal_229 ?_
            rw [hQ]; exact (Or.inl ⟨_, _, _, rfl, hfr, hlen, hsl, h80, (by omega), (by omega), (by exact hex_2n (by omega) (by first | (left; omega) | (left; rw [show tpk A_tape m_taped m_at = -1 by omega, hxd_m]; decide) | (right; left; omega) | (right; left; rw [show tpk A_tape m_taped (m_at + 1) = -1 by omega, hxd_m]; decide) | (right; right; unfold chr; omega)))⟩)
          · cases hv
            rw [hGe]
            change ab_W _ _ _ G61 228 [some (vR 80), some (vz wh), some (vz 1114112), some (vz 0), some (vz 0)] [] _
            exfalso; omega
      · cases hv
        rw [hGe]
        change ab_W _ _ _ G 122 [some (vR 80), some (vz wh), some (vz 0), some (vz 0), none] [vz (-1)] _
        exfalso; omega
    · refine ab_aload_n d_MO_hexadecimal_14 rfl ?_
      refine ab_dup d_MO_hexadecimal_15 rfl ?_
      refine ab_getf (fs := mof m_thrown m_taped m_length m_out m_wide m_gathered m_sets m_ranges m_nodes m_at m_flags m_fault m_place m_numbered m_depth m_value m_isNot m_least0 m_most0 m_slot m_work m_got m_rowMany m_charAt m_charWide m_trail m_isMatch m_matchGroups m_allFrom m_allBefore m_founds m_pieces m_writtenMany m_templateWide m_tooMuch) f_MO_279 d_MO_hexadecimal_16 h80.2.2 rfl ?_
      refine zz_iconst d_MO_hexadecimal_19 ?_
      refine zz_iadd d_MO_hexadecimal_20 ?_
      refine ab_putf (fs := mof m_thrown m_taped m_length m_out m_wide m_gathered m_sets m_ranges m_nodes m_at m_flags m_fault m_place m_numbered m_depth m_value m_isNot m_least0 m_most0 m_slot m_work m_got m_rowMany m_charAt m_charWide m_trail m_isMatch m_matchGroups m_allFrom m_allBefore m_founds m_pieces m_writtenMany m_templateWide m_tooMuch) f_MO_279 (Or.inl rfl) d_MO_hexadecimal_21 h80.2.2 (Nat.le_of_ble_eq_true rfl) (fun _ => ⟨rfl, rfl⟩) (h80.2.1 (by decide)) ?_
      obtain ⟨G66, eG66⟩ : ∃ z : ab_G, z = List.set G 80 (ab_ob 12 (mof m_thrown m_taped m_length m_out m_wide m_gathered m_sets m_ranges m_nodes (m_at + 1) m_flags m_fault m_place m_numbered m_depth m_value m_isNot m_least0 m_most0 m_slot m_work m_got m_rowMany m_charAt m_charWide m_trail m_isMatch m_matchGroups m_allFrom m_allBefore m_founds m_pieces m_writtenMany m_templateWide m_tooMuch)) := ⟨_, rfl⟩
      have h84 := h84.keep h80 eG66 (by decide)
      have hlen := (z_len eG66).trans hlen
      have hsl := (z_sl h80 eG66 rfl).trans hsl
      have hfr := hfr.wr h80 eG66 (by decide)
      have h80 := h80.kept eG66
      change ab_W _ _ _ (List.set G 80 (ab_ob 12 (mof m_thrown m_taped m_length m_out m_wide m_gathered m_sets m_ranges m_nodes (m_at + 1) m_flags m_fault m_place m_numbered m_depth m_value m_isNot m_least0 m_most0 m_slot m_work m_got m_rowMany m_charAt m_charWide m_trail m_isMatch m_matchGroups m_allFrom m_allBefore m_founds m_pieces m_writtenMany m_templateWide m_tooMuch))) 24 [some (vR 80), some (vz wh), some (vz 0), some (vz 0), none] [] _
      rw [← eG66]
      refine y_MO_hexadecimal_24 (m_thrown := m_thrown) (m_taped := m_taped) (m_length := m_length) (m_out := m_out) (m_wide := m_wide) (m_gathered := m_gathered) (m_sets := m_sets) (m_ranges := m_ranges) (m_nodes := m_nodes) (m_flags := m_flags) (m_fault := m_fault) (m_place := m_place) (m_numbered := m_numbered) (m_depth := m_depth) (m_value := m_value) (m_isNot := m_isNot) (m_least0 := m_least0) (m_most0 := m_most0) (m_slot := m_slot) (m_work := m_work) (m_got := m_got) (m_rowMany := m_rowMany) (m_charAt := m_charAt) (m_charWide := m_charWide) (m_trail := m_trail) (m_isMatch := m_isMatch) (m_matchGroups := m_matchGroups) (m_allFrom := m_allFrom) (m_allBefore := m_allBefore) (m_founds := m_founds) (m_pieces := m_pieces) (m_writtenMany := m_writtenMany) (m_templateWide := m_templateWide) (m_tooMuch := m_tooMuch) (A_tape := A_tape) (wh := wh) (a0_ := (m_at + 1)) (G0 := G66) (hv := 0) (n := 0) (m_at := (m_at + 1)) (by omega) (by omega) jtp (by omega) (Int.toNat (7 - 0) + 1) h80 h84 (by have t_ := q16_in 0 (by decide) (by decide); omega) (by omega) hxI_0 fx.rf rfl rfl (by omega) (fun G67 v268 n269 a270 hN80 hq71 hq72 hq73 hfk hlk hsk => ?_)
      · have h84 := hfk.get h84 (by decide)
        have hfr := hfr.tr hfk (by decide)
        have hlen := hlk.trans hlen
        have hsl := hsk.trans hsl
        have h80 := hN80
        change ab_W _ _ _ G67 79 [some (vR 80), some (vz wh), some (vz v268), some (vz n269), none] [] _
        refine ab_iload_n d_MO_hexadecimal_79 rfl ?_
        refine zz_iconst d_MO_hexadecimal_80 ?_
        refine zz_icmp_lt (tgt := 100) d_MO_hexadecimal_81 (by decide) (by omega) (by decide) (fun c74 => ?_) (fun c74 => ?_)
        · refine zz_ldcw 1114112 d_MO_hexadecimal_100 cn_MO_303 (by decide) ?_
          refine ab_istore_n d_MO_hexadecimal_103 (Nat.le_of_ble_eq_true rfl) (Nat.le_of_ble_eq_true rfl) rfl ?_
          change ab_W _ _ _ G67 104 [some (vR 80), some (vz wh), some (vz 1114112), some (vz n269), none] [] _
          refine ab_aload_n d_MO_hexadecimal_104 rfl ?_
          refine ab_dup d_MO_hexadecimal_105 rfl ?_
          refine ab_getf (fs := mof m_thrown m_taped m_length m_out m_wide m_gathered m_sets m_ranges m_nodes a270 m_flags m_fault m_place m_numbered m_depth m_value m_isNot m_least0 m_most0 m_slot m_work m_got m_rowMany m_charAt m_charWide m_trail m_isMatch m_matchGroups m_allFrom m_allBefore m_founds m_pieces m_writtenMany m_templateWide m_tooMuch) f_MO_279 d_MO_hexadecimal_106 h80.2.2 rfl ?_
          refine zz_iconst d_MO_hexadecimal_109 ?_
          refine zz_iadd d_MO_hexadecimal_110 ?_
          refine ab_putf (fs := mof m_thrown m_taped m_length m_out m_wide m_gathered m_sets m_ranges m_nodes a270 m_flags m_fault m_place m_numbered m_depth m_value m_isNot m_least0 m_most0 m_slot m_work m_got m_rowMany m_charAt m_charWide m_trail m_isMatch m_matchGroups m_allFrom m_allBefore m_founds m_pieces m_writtenMany m_templateWide m_tooMuch) f_MO_279 (Or.inl rfl) d_MO_hexadecimal_111 h80.2.2 (Nat.le_of_ble_eq_true rfl) (fun _ => ⟨rfl, rfl⟩) (h80.2.1 (by decide)) ?_
          obtain ⟨G75, eG75⟩ : ∃ z : ab_G, z = List.set G67 80 (ab_ob 12 (mof m_thrown m_taped m_length m_out m_wide m_gathered m_sets m_ranges m_nodes (a270 + 1) m_flags m_fault m_place m_numbered m_depth m_value m_isNot m_least0 m_most0 m_slot m_work m_got m_rowMany m_charAt m_charWide m_trail m_isMatch m_matchGroups m_allFrom m_allBefore m_founds m_pieces m_writtenMany m_templateWide m_tooMuch)) := ⟨_, rfl⟩
          have h84 := h84.keep h80 eG75 (by decide)
          have hlen := (z_len eG75).trans hlen
          have hsl := (z_sl h80 eG75 rfl).trans hsl
          have hfr := hfr.wr h80 eG75 (by decide)
          have h80 := h80.kept eG75
          change ab_W _ _ _ (List.set G67 80 (ab_ob 12 (mof m_thrown m_taped m_length m_out m_wide m_gathered m_sets m_ranges m_nodes (a270 + 1) m_flags m_fault m_place m_numbered m_depth m_value m_isNot m_least0 m_most0 m_slot m_work m_got m_rowMany m_charAt m_charWide m_trail m_isMatch m_matchGroups m_allFrom m_allBefore m_founds m_pieces m_writtenMany m_templateWide m_tooMuch))) 114 [some (vR 80), some (vz wh), some (vz 1114112), some (vz n269), none] [] _
          rw [← eG75]
          refine ab_goto (tgt := 204) d_MO_hexadecimal_114 (by decide) ?_
          refine ab_iload_n d_MO_hexadecimal_204 rfl ?_
          refine zz_ldc 1114111 d_MO_hexadecimal_205 cn_MO_236 (by decide) ?_
          refine zz_icmp_gt (tgt := 222) d_MO_hexadecimal_207 (by decide) (by decide) (by decide) (fun c76 => ?_) (fun c76 => absurd c76 (by decide))
          refine ab_aload_n d_MO_hexadecimal_222 rfl ?_
          refine zz_iconst d_MO_hexadecimal_223 ?_
          refine ab_iload_n d_MO_hexadecimal_224 rfl ?_
          refine ab_callV (d' := d - 1) (as := [vz 5, vz wh]) (st := []) (r := _) (z_MO_wrong (o := o) (m_thrown := m_thrown) (m_taped := m_taped) (m_length := m_length) (m_out := m_out) (m_wide := m_wide) (m_gathered := m_gathered) (m_sets := m_sets) (m_ranges := m_ranges) (m_nodes := m_nodes) (m_at := (a270 + 1)) (m_flags := m_flags) (m_fault := m_fault) (m_place := m_place) (m_numbered := m_numbered) (m_depth := m_depth) (m_value := m_value) (m_isNot := m_isNot) (m_least0 := m_least0) (m_most0 := m_most0) (m_slot := m_slot) (m_work := m_work) (m_got := m_got) (m_rowMany := m_rowMany) (m_charAt := m_charAt) (m_charWide := m_charWide) (m_trail := m_trail) (m_isMatch := m_isMatch) (m_matchGroups := m_matchGroups) (m_allFrom := m_allFrom) (m_allBefore := m_allBefore) (m_founds := m_founds) (m_pieces := m_pieces) (m_writtenMany := m_writtenMany) (m_templateWide := m_templateWide) (m_tooMuch := m_tooMuch) (x := 5) (y := wh) h80 (by omega) (by omega)) (fun oc G2 h => by rcases h with ⟨h, _⟩ | ⟨h, _⟩ <;> exact ⟨_, h⟩) (by omega) m_MO_wrong ml_MO_304 im_MO_wrong se_MO_wrong c_MO h80.2.2 (Nat.le_of_ble_eq_true rfl) d_MO_hexadecimal_225 rfl ?_
          intro v G77 hq
          rcases hq with ⟨hv, hfk, hlk, hsk, hN80, hq78⟩ | ⟨hv, hGe, hq79⟩
          · cases hv
            have h84 := hfk.get h84 (by decide)
            have hfr := hfr.tr hfk (by decide)
            have hlen := hlk.trans hlen
            have hsl := hsk.trans hsl
            have h80 := hN80
            change ab_W _ _ _ G77 228 [some (vR 80), some (vz wh), some (vz 1114112), some (vz n269), none] [] _
            refine zz_iconst d_MO_hexadecimal_228 ?_
            refine zz_iret rfl d_MO_hexadecimal_229 ?_
            rw [hQ]; exact (Or.inl ⟨_, _, _, rfl, hfr, hlen, hsl, h80, (by omega), (by omega), (by exact hex_bn (by omega) hq72 (by omega) hq73 (by rw [show m_at + 1 + n269 = a270 by omega]; unfold chr; omega))⟩)
          · cases hv
            rw [hGe]
            change ab_W _ _ _ G75 228 [some (vR 80), some (vz wh), some (vz 1114112), some (vz n269), none] [] _
            exfalso; omega
        · refine ab_iload_n d_MO_hexadecimal_84 rfl ?_
          refine zz_bipush d_MO_hexadecimal_85 (by decide) ?_
          refine zz_icmp_gt (tgt := 100) d_MO_hexadecimal_87 (by decide) (by omega) (by decide) (fun c80 => ?_) (fun c80 => ?_)
          · refine zz_ldcw 1114112 d_MO_hexadecimal_100 cn_MO_303 (by decide) ?_
            refine ab_istore_n d_MO_hexadecimal_103 (Nat.le_of_ble_eq_true rfl) (Nat.le_of_ble_eq_true rfl) rfl ?_
            change ab_W _ _ _ G67 104 [some (vR 80), some (vz wh), some (vz 1114112), some (vz n269), none] [] _
            refine ab_aload_n d_MO_hexadecimal_104 rfl ?_
            refine ab_dup d_MO_hexadecimal_105 rfl ?_
            refine ab_getf (fs := mof m_thrown m_taped m_length m_out m_wide m_gathered m_sets m_ranges m_nodes a270 m_flags m_fault m_place m_numbered m_depth m_value m_isNot m_least0 m_most0 m_slot m_work m_got m_rowMany m_charAt m_charWide m_trail m_isMatch m_matchGroups m_allFrom m_allBefore m_founds m_pieces m_writtenMany m_templateWide m_tooMuch) f_MO_279 d_MO_hexadecimal_106 h80.2.2 rfl ?_
            refine zz_iconst d_MO_hexadecimal_109 ?_
            refine zz_iadd d_MO_hexadecimal_110 ?_
            refine ab_putf (fs := mof m_thrown m_taped m_length m_out m_wide m_gathered m_sets m_ranges m_nodes a270 m_flags m_fault m_place m_numbered m_depth m_value m_isNot m_least0 m_most0 m_slot m_work m_got m_rowMany m_charAt m_charWide m_trail m_isMatch m_matchGroups m_allFrom m_allBefore m_founds m_pieces m_writtenMany m_templateWide m_tooMuch) f_MO_279 (Or.inl rfl) d_MO_hexadecimal_111 h80.2.2 (Nat.le_of_ble_eq_true rfl) (fun _ => ⟨rfl, rfl⟩) (h80.2.1 (by decide)) ?_
            obtain ⟨G81, eG81⟩ : ∃ z : ab_G, z = List.set G67 80 (ab_ob 12 (mof m_thrown m_taped m_length m_out m_wide m_gathered m_sets m_ranges m_nodes (a270 + 1) m_flags m_fault m_place m_numbered m_depth m_value m_isNot m_least0 m_most0 m_slot m_work m_got m_rowMany m_charAt m_charWide m_trail m_isMatch m_matchGroups m_allFrom m_allBefore m_founds m_pieces m_writtenMany m_templateWide m_tooMuch)) := ⟨_, rfl⟩
            have h84 := h84.keep h80 eG81 (by decide)
            have hlen := (z_len eG81).trans hlen
            have hsl := (z_sl h80 eG81 rfl).trans hsl
            have hfr := hfr.wr h80 eG81 (by decide)
            have h80 := h80.kept eG81
            change ab_W _ _ _ (List.set G67 80 (ab_ob 12 (mof m_thrown m_taped m_length m_out m_wide m_gathered m_sets m_ranges m_nodes (a270 + 1) m_flags m_fault m_place m_numbered m_depth m_value m_isNot m_least0 m_most0 m_slot m_work m_got m_rowMany m_charAt m_charWide m_trail m_isMatch m_matchGroups m_allFrom m_allBefore m_founds m_pieces m_writtenMany m_templateWide m_tooMuch))) 114 [some (vR 80), some (vz wh), some (vz 1114112), some (vz n269), none] [] _
            rw [← eG81]
            refine ab_goto (tgt := 204) d_MO_hexadecimal_114 (by decide) ?_
            refine ab_iload_n d_MO_hexadecimal_204 rfl ?_
            refine zz_ldc 1114111 d_MO_hexadecimal_205 cn_MO_236 (by decide) ?_
            refine zz_icmp_gt (tgt := 222) d_MO_hexadecimal_207 (by decide) (by decide) (by decide) (fun c82 => ?_) (fun c82 => absurd c82 (by decide))
            refine ab_aload_n d_MO_hexadecimal_222 rfl ?_
            refine zz_iconst d_MO_hexadecimal_223 ?_
            refine ab_iload_n d_MO_hexadecimal_224 rfl ?_
            refine ab_callV (d' := d - 1) (as := [vz 5, vz wh]) (st := []) (r := _) (z_MO_wrong (o := o) (m_thrown := m_thrown) (m_taped := m_taped) (m_length := m_length) (m_out := m_out) (m_wide := m_wide) (m_gathered := m_gathered) (m_sets := m_sets) (m_ranges := m_ranges) (m_nodes := m_nodes) (m_at := (a270 + 1)) (m_flags := m_flags) (m_fault := m_fault) (m_place := m_place) (m_numbered := m_numbered) (m_depth := m_depth) (m_value := m_value) (m_isNot := m_isNot) (m_least0 := m_least0) (m_most0 := m_most0) (m_slot := m_slot) (m_work := m_work) (m_got := m_got) (m_rowMany := m_rowMany) (m_charAt := m_charAt) (m_charWide := m_charWide) (m_trail := m_trail) (m_isMatch := m_isMatch) (m_matchGroups := m_matchGroups) (m_allFrom := m_allFrom) (m_allBefore := m_allBefore) (m_founds := m_founds) (m_pieces := m_pieces) (m_writtenMany := m_writtenMany) (m_templateWide := m_templateWide) (m_tooMuch := m_tooMuch) (x := 5) (y := wh) h80 (by omega) (by omega)) (fun oc G2 h => by rcases h with ⟨h, _⟩ | ⟨h, _⟩ <;> exact ⟨_, h⟩) (by omega) m_MO_wrong ml_MO_304 im_MO_wrong se_MO_wrong c_MO h80.2.2 (Nat.le_of_ble_eq_true rfl) d_MO_hexadecimal_225 rfl ?_
            intro v G83 hq
            rcases hq with ⟨hv, hfk, hlk, hsk, hN80, hq84⟩ | ⟨hv, hGe, hq85⟩
            · cases hv
              have h84 := hfk.get h84 (by decide)
              have hfr := hfr.tr hfk (by decide)
              have hlen := hlk.trans hlen
              have hsl := hsk.trans hsl
              have h80 := hN80
              change ab_W _ _ _ G83 228 [some (vR 80), some (vz wh), some (vz 1114112), some (vz n269), none] [] _
              refine zz_iconst d_MO_hexadecimal_228 ?_
              refine zz_iret rfl d_MO_hexadecimal_229 ?_
              rw [hQ]; exact (Or.inl ⟨_, _, _, rfl, hfr, hlen, hsl, h80, (by omega), (by omega), (by exact hex_bn (by omega) hq72 (by omega) hq73 (by rw [show m_at + 1 + n269 = a270 by omega]; unfold chr; omega))⟩)
            · cases hv
              rw [hGe]
              change ab_W _ _ _ G81 228 [some (vR 80), some (vz wh), some (vz 1114112), some (vz n269), none] [] _
              exfalso; omega
          · refine ab_aload_n d_MO_hexadecimal_90 rfl ?_
            refine zz_iconst d_MO_hexadecimal_91 ?_
            refine ab_callV (d' := d - 1) (as := [vz 0]) (st := []) (r := _) (z_MO_here (o := o) (m_thrown := m_thrown) (m_taped := m_taped) (m_length := m_length) (m_out := m_out) (m_wide := m_wide) (m_gathered := m_gathered) (m_sets := m_sets) (m_ranges := m_ranges) (m_nodes := m_nodes) (m_at := a270) (m_flags := m_flags) (m_fault := m_fault) (m_place := m_place) (m_numbered := m_numbered) (m_depth := m_depth) (m_value := m_value) (m_isNot := m_isNot) (m_least0 := m_least0) (m_most0 := m_most0) (m_slot := m_slot) (m_work := m_work) (m_got := m_got) (m_rowMany := m_rowMany) (m_charAt := m_charAt) (m_charWide := m_charWide) (m_trail := m_trail) (m_isMatch := m_isMatch) (m_matchGroups := m_matchGroups) (m_allFrom := m_allFrom) (m_allBefore := m_allBefore) (m_founds := m_founds) (m_pieces := m_pieces) (m_writtenMany := m_writtenMany) (m_templateWide := m_templateWide) (m_tooMuch := m_tooMuch) (A_tape := A_tape) (k := 0) (qh := a270) h80 h84 (by omega) (by omega) jtp (by omega) (by omega)) (fun oc G2 h => by rcases h with ⟨h, _⟩ | ⟨h, _⟩ <;> exact ⟨_, h⟩) (by omega) m_MO_here ml_MO_297 im_MO_here se_MO_here c_MO h80.2.2 (Nat.le_of_ble_eq_true rfl) d_MO_hexadecimal_92 rfl ?_
            intro v G86 hq
            rcases hq with ⟨hv, hGe, hq87⟩ | ⟨hv, hGe, hq88, hq89⟩
            · cases hv
              rw [hGe]
              change ab_W _ _ _ G67 95 [some (vR 80), some (vz wh), some (vz v268), some (vz n269), none] [vz (tpk A_tape m_taped a270)] _
              refine zz_bipush d_MO_hexadecimal_95 (by decide) ?_
              refine zz_icmp_eq (tgt := 104) d_MO_hexadecimal_97 (by decide) (by omega) (by decide) (fun c90 => ?_) (fun c90 => ?_)
              · refine ab_aload_n d_MO_hexadecimal_104 rfl ?_
                refine ab_dup d_MO_hexadecimal_105 rfl ?_
                refine ab_getf (fs := mof m_thrown m_taped m_length m_out m_wide m_gathered m_sets m_ranges m_nodes a270 m_flags m_fault m_place m_numbered m_depth m_value m_isNot m_least0 m_most0 m_slot m_work m_got m_rowMany m_charAt m_charWide m_trail m_isMatch m_matchGroups m_allFrom m_allBefore m_founds m_pieces m_writtenMany m_templateWide m_tooMuch) f_MO_279 d_MO_hexadecimal_106 h80.2.2 rfl ?_
                refine zz_iconst d_MO_hexadecimal_109 ?_
                refine zz_iadd d_MO_hexadecimal_110 ?_
                refine ab_putf (fs := mof m_thrown m_taped m_length m_out m_wide m_gathered m_sets m_ranges m_nodes a270 m_flags m_fault m_place m_numbered m_depth m_value m_isNot m_least0 m_most0 m_slot m_work m_got m_rowMany m_charAt m_charWide m_trail m_isMatch m_matchGroups m_allFrom m_allBefore m_founds m_pieces m_writtenMany m_templateWide m_tooMuch) f_MO_279 (Or.inl rfl) d_MO_hexadecimal_111 h80.2.2 (Nat.le_of_ble_eq_true rfl) (fun _ => ⟨rfl, rfl⟩) (h80.2.1 (by decide)) ?_
                obtain ⟨G91, eG91⟩ : ∃ z : ab_G, z = List.set G67 80 (ab_ob 12 (mof m_thrown m_taped m_length m_out m_wide m_gathered m_sets m_ranges m_nodes (a270 + 1) m_flags m_fault m_place m_numbered m_depth m_value m_isNot m_least0 m_most0 m_slot m_work m_got m_rowMany m_charAt m_charWide m_trail m_isMatch m_matchGroups m_allFrom m_allBefore m_founds m_pieces m_writtenMany m_templateWide m_tooMuch)) := ⟨_, rfl⟩
                have h84 := h84.keep h80 eG91 (by decide)
                have hlen := (z_len eG91).trans hlen
                have hsl := (z_sl h80 eG91 rfl).trans hsl
                have hfr := hfr.wr h80 eG91 (by decide)
                have h80 := h80.kept eG91
                change ab_W _ _ _ (List.set G67 80 (ab_ob 12 (mof m_thrown m_taped m_length m_out m_wide m_gathered m_sets m_ranges m_nodes (a270 + 1) m_flags m_fault m_place m_numbered m_depth m_value m_isNot m_least0 m_most0 m_slot m_work m_got m_rowMany m_charAt m_charWide m_trail m_isMatch m_matchGroups m_allFrom m_allBefore m_founds m_pieces m_writtenMany m_templateWide m_tooMuch))) 114 [some (vR 80), some (vz wh), some (vz v268), some (vz n269), none] [] _
                rw [← eG91]
                refine ab_goto (tgt := 204) d_MO_hexadecimal_114 (by decide) ?_
                refine ab_iload_n d_MO_hexadecimal_204 rfl ?_
                refine zz_ldc 1114111 d_MO_hexadecimal_205 cn_MO_236 (by decide) ?_
                refine zz_icmp_gt (tgt := 222) d_MO_hexadecimal_207 (by decide) (by omega) (by decide) (fun c92 => ?_) (fun c92 => ?_)
                · refine ab_aload_n d_MO_hexadecimal_222 rfl ?_
                  refine zz_iconst d_MO_hexadecimal_223 ?_
                  refine ab_iload_n d_MO_hexadecimal_224 rfl ?_
                  refine ab_callV (d' := d - 1) (as := [vz 5, vz wh]) (st := []) (r := _) (z_MO_wrong (o := o) (m_thrown := m_thrown) (m_taped := m_taped) (m_length := m_length) (m_out := m_out) (m_wide := m_wide) (m_gathered := m_gathered) (m_sets := m_sets) (m_ranges := m_ranges) (m_nodes := m_nodes) (m_at := (a270 + 1)) (m_flags := m_flags) (m_fault := m_fault) (m_place := m_place) (m_numbered := m_numbered) (m_depth := m_depth) (m_value := m_value) (m_isNot := m_isNot) (m_least0 := m_least0) (m_most0 := m_most0) (m_slot := m_slot) (m_work := m_work) (m_got := m_got) (m_rowMany := m_rowMany) (m_charAt := m_charAt) (m_charWide := m_charWide) (m_trail := m_trail) (m_isMatch := m_isMatch) (m_matchGroups := m_matchGroups) (m_allFrom := m_allFrom) (m_allBefore := m_allBefore) (m_founds := m_founds) (m_pieces := m_pieces) (m_writtenMany := m_writtenMany) (m_templateWide := m_templateWide) (m_tooMuch := m_tooMuch) (x := 5) (y := wh) h80 (by omega) (by omega)) (fun oc G2 h => by rcases h with ⟨h, _⟩ | ⟨h, _⟩ <;> exact ⟨_, h⟩) (by omega) m_MO_wrong ml_MO_304 im_MO_wrong se_MO_wrong c_MO h80.2.2 (Nat.le_of_ble_eq_true rfl) d_MO_hexadecimal_225 rfl ?_
                  intro v G93 hq
                  rcases hq with ⟨hv, hfk, hlk, hsk, hN80, hq94⟩ | ⟨hv, hGe, hq95⟩
                  · cases hv
                    have h84 := hfk.get h84 (by decide)
                    have hfr := hfr.tr hfk (by decide)
                    have hlen := hlk.trans hlen
                    have hsl := hsk.trans hsl
                    have h80 := hN80
                    change ab_W _ _ _ G93 228 [some (vR 80), some (vz wh), some (vz v268), some (vz n269), none] [] _
                    refine zz_iconst d_MO_hexadecimal_228 ?_
                    refine zz_iret rfl d_MO_hexadecimal_229 ?_
                    rw [hQ]; exact (Or.inl ⟨_, _, _, rfl, hfr, hlen, hsl, h80, (by omega), (by omega), (by exact hex_bn (by omega) hq72 (by omega) hq73 (by rw [show m_at + 1 + n269 = a270 by omega]; unfold chr; omega))⟩)
                  · cases hv
                    rw [hGe]
                    change ab_W _ _ _ G91 228 [some (vR 80), some (vz wh), some (vz v268), some (vz n269), none] [] _
                    exfalso; omega
                · refine ab_iload_n d_MO_hexadecimal_210 rfl ?_
                  refine zz_ldc 55296 d_MO_hexadecimal_211 cn_MO_233 (by decide) ?_
                  refine zz_icmp_lt (tgt := 230) d_MO_hexadecimal_213 (by decide) (by omega) (by decide) (fun c96 => ?_) (fun c96 => ?_)
                  · refine ab_aload_n d_MO_hexadecimal_230 rfl ?_
                    refine ab_iload_n d_MO_hexadecimal_231 rfl ?_
                    refine ab_putf (fs := mof m_thrown m_taped m_length m_out m_wide m_gathered m_sets m_ranges m_nodes (a270 + 1) m_flags m_fault m_place m_numbered m_depth m_value m_isNot m_least0 m_most0 m_slot m_work m_got m_rowMany m_charAt m_charWide m_trail m_isMatch m_matchGroups m_allFrom m_allBefore m_founds m_pieces m_writtenMany m_templateWide m_tooMuch) f_MO_307 (Or.inl rfl) d_MO_hexadecimal_232 h80.2.2 (Nat.le_of_ble_eq_true rfl) (fun _ => ⟨rfl, rfl⟩) (h80.2.1 (by decide)) ?_
                    obtain ⟨G97, eG97⟩ : ∃ z : ab_G, z = List.set G91 80 (ab_ob 12 (mof m_thrown m_taped m_length m_out m_wide m_gathered m_sets m_ranges m_nodes (a270 + 1) m_flags m_fault m_place m_numbered m_depth v268 m_isNot m_least0 m_most0 m_slot m_work m_got m_rowMany m_charAt m_charWide m_trail m_isMatch m_matchGroups m_allFrom m_allBefore m_founds m_pieces m_writtenMany m_templateWide m_tooMuch)) := ⟨_, rfl⟩
                    have h84 := h84.keep h80 eG97 (by decide)
                    have hlen := (z_len eG97).trans hlen
                    have hsl := (z_sl h80 eG97 rfl).trans hsl
                    have hfr := hfr.wr h80 eG97 (by decide)
                    have h80 := h80.kept eG97
                    change ab_W _ _ _ (List.set G91 80 (ab_ob 12 (mof m_thrown m_taped m_length m_out m_wide m_gathered m_sets m_ranges m_nodes (a270 + 1) m_flags m_fault m_place m_numbered m_depth v268 m_isNot m_least0 m_most0 m_slot m_work m_got m_rowMany m_charAt m_charWide m_trail m_isMatch m_matchGroups m_allFrom m_allBefore m_founds m_pieces m_writtenMany m_templateWide m_tooMuch))) 235 [some (vR 80), some (vz wh), some (vz v268), some (vz n269), none] [] _
                    rw [← eG97]
                    refine zz_iconst d_MO_hexadecimal_235 ?_
                    refine zz_iret rfl d_MO_hexadecimal_236 ?_
                    rw [hQ]; exact (Or.inr ⟨_, _, rfl, hfr, hlen, hsl, h80, (by omega), (by have e_ : m_at + 1 + n269 = a270 := (by omega); have t_ := hex_b (by omega) hq72 (by omega) (by rw [e_]; omega) (by unfold chr; omega); rw [e_] at t_; exact t_)⟩)
                  · refine ab_iload_n d_MO_hexadecimal_216 rfl ?_
                    refine zz_ldc 57344 d_MO_hexadecimal_217 cn_MO_234 (by decide) ?_
                    refine zz_icmp_ge (tgt := 230) d_MO_hexadecimal_219 (by decide) (by omega) (by decide) (fun c98 => ?_) (fun c98 => ?_)
                    · refine ab_aload_n d_MO_hexadecimal_230 rfl ?_
                      refine ab_iload_n d_MO_hexadecimal_231 rfl ?_
                      refine ab_putf (fs := mof m_thrown m_taped m_length m_out m_wide m_gathered m_sets m_ranges m_nodes (a270 + 1) m_flags m_fault m_place m_numbered m_depth m_value m_isNot m_least0 m_most0 m_slot m_work m_got m_rowMany m_charAt m_charWide m_trail m_isMatch m_matchGroups m_allFrom m_allBefore m_founds m_pieces m_writtenMany m_templateWide m_tooMuch) f_MO_307 (Or.inl rfl) d_MO_hexadecimal_232 h80.2.2 (Nat.le_of_ble_eq_true rfl) (fun _ => ⟨rfl, rfl⟩) (h80.2.1 (by decide)) ?_
                      obtain ⟨G99, eG99⟩ : ∃ z : ab_G, z = List.set G91 80 (ab_ob 12 (mof m_thrown m_taped m_length m_out m_wide m_gathered m_sets m_ranges m_nodes (a270 + 1) m_flags m_fault m_place m_numbered m_depth v268 m_isNot m_least0 m_most0 m_slot m_work m_got m_rowMany m_charAt m_charWide m_trail m_isMatch m_matchGroups m_allFrom m_allBefore m_founds m_pieces m_writtenMany m_templateWide m_tooMuch)) := ⟨_, rfl⟩
                      have h84 := h84.keep h80 eG99 (by decide)
                      have hlen := (z_len eG99).trans hlen
                      have hsl := (z_sl h80 eG99 rfl).trans hsl
                      have hfr := hfr.wr h80 eG99 (by decide)
                      have h80 := h80.kept eG99
                      change ab_W _ _ _ (List.set G91 80 (ab_ob 12 (mof m_thrown m_taped m_length m_out m_wide m_gathered m_sets m_ranges m_nodes (a270 + 1) m_flags m_fault m_place m_numbered m_depth v268 m_isNot m_least0 m_most0 m_slot m_work m_got m_rowMany m_charAt m_charWide m_trail m_isMatch m_matchGroups m_allFrom m_allBefore m_founds m_pieces m_writtenMany m_templateWide m_tooMuch))) 235 [some (vR 80), some (vz wh), some (vz v268), some (vz n269), none] [] _
                      rw [← eG99]
                      refine zz_iconst d_MO_hexadecimal_235 ?_
                      refine zz_iret rfl d_MO_hexadecimal_236 ?_
                      rw [hQ]; exact (Or.inr ⟨_, _, rfl, hfr, hlen, hsl, h80, (by omega), (by have e_ : m_at + 1 + n269 = a270 := (by omega); have t_ := hex_b (by omega) hq72 (by omega) (by rw [e_]; omega) (by unfold chr; omega); rw [e_] at t_; exact t_)⟩)
                    · refine ab_aload_n d_MO_hexadecimal_222 rfl ?_
                      refine zz_iconst d_MO_hexadecimal_223 ?_
                      refine ab_iload_n d_MO_hexadecimal_224 rfl ?_
                      refine ab_callV (d' := d - 1) (as := [vz 5, vz wh]) (st := []) (r := _) (z_MO_wrong (o := o) (m_thrown := m_thrown) (m_taped := m_taped) (m_length := m_length) (m_out := m_out) (m_wide := m_wide) (m_gathered := m_gathered) (m_sets := m_sets) (m_ranges := m_ranges) (m_nodes := m_nodes) (m_at := (a270 + 1)) (m_flags := m_flags) (m_fault := m_fault) (m_place := m_place) (m_numbered := m_numbered) (m_depth := m_depth) (m_value := m_value) (m_isNot := m_isNot) (m_least0 := m_least0) (m_most0 := m_most0) (m_slot := m_slot) (m_work := m_work) (m_got := m_got) (m_rowMany := m_rowMany) (m_charAt := m_charAt) (m_charWide := m_charWide) (m_trail := m_trail) (m_isMatch := m_isMatch) (m_matchGroups := m_matchGroups) (m_allFrom := m_allFrom) (m_allBefore := m_allBefore) (m_founds := m_founds) (m_pieces := m_pieces) (m_writtenMany := m_writtenMany) (m_templateWide := m_templateWide) (m_tooMuch := m_tooMuch) (x := 5) (y := wh) h80 (by omega) (by omega)) (fun oc G2 h => by rcases h with ⟨h, _⟩ | ⟨h, _⟩ <;> exact ⟨_, h⟩) (by omega) m_MO_wrong ml_MO_304 im_MO_wrong se_MO_wrong c_MO h80.2.2 (Nat.le_of_ble_eq_true rfl) d_MO_hexadecimal_225 rfl ?_
                      intro v G100 hq
                      rcases hq with ⟨hv, hfk, hlk, hsk, hN80, hq101⟩ | ⟨hv, hGe, hq102⟩
                      · cases hv
                        have h84 := hfk.get h84 (by decide)
                        have hfr := hfr.tr hfk (by decide)
                        have hlen := hlk.trans hlen
                        have hsl := hsk.trans hsl
                        have h80 := hN80
                        change ab_W _ _ _ G100 228 [some (vR 80), some (vz wh), some (vz v268), some (vz n269), none] [] _
                        refine zz_iconst d_MO_hexadecimal_228 ?_
                        refine zz_iret rfl d_MO_hexadecimal_229 ?_
                        rw [hQ]; exact (Or.inl ⟨_, _, _, rfl, hfr, hlen, hsl, h80, (by omega), (by omega), (by exact hex_bn (by omega) hq72 (by omega) hq73 (by rw [show m_at + 1 + n269 = a270 by omega]; unfold chr; omega))⟩)
                      · cases hv
                        rw [hGe]
                        change ab_W _ _ _ G91 228 [some (vR 80), some (vz wh), some (vz v268), some (vz n269), none] [] _
                        exfalso; omega
              · refine zz_ldcw 1114112 d_MO_hexadecimal_100 cn_MO_303 (by decide) ?_
                refine ab_istore_n d_MO_hexadecimal_103 (Nat.le_of_ble_eq_true rfl) (Nat.le_of_ble_eq_true rfl) rfl ?_
                change ab_W _ _ _ G67 104 [some (vR 80), some (vz wh), some (vz 1114112), some (vz n269), none] [] _
                refine ab_aload_n d_MO_hexadecimal_104 rfl ?_
                refine ab_dup d_MO_hexadecimal_105 rfl ?_
                refine ab_getf (fs := mof m_thrown m_taped m_length m_out m_wide m_gathered m_sets m_ranges m_nodes a270 m_flags m_fault m_place m_numbered m_depth m_value m_isNot m_least0 m_most0 m_slot m_work m_got m_rowMany m_charAt m_charWide m_trail m_isMatch m_matchGroups m_allFrom m_allBefore m_founds m_pieces m_writtenMany m_templateWide m_tooMuch) f_MO_279 d_MO_hexadecimal_106 h80.2.2 rfl ?_
                refine zz_iconst d_MO_hexadecimal_109 ?_
                refine zz_iadd d_MO_hexadecimal_110 ?_
                refine ab_putf (fs := mof m_thrown m_taped m_length m_out m_wide m_gathered m_sets m_ranges m_nodes a270 m_flags m_fault m_place m_numbered m_depth m_value m_isNot m_least0 m_most0 m_slot m_work m_got m_rowMany m_charAt m_charWide m_trail m_isMatch m_matchGroups m_allFrom m_allBefore m_founds m_pieces m_writtenMany m_templateWide m_tooMuch) f_MO_279 (Or.inl rfl) d_MO_hexadecimal_111 h80.2.2 (Nat.le_of_ble_eq_true rfl) (fun _ => ⟨rfl, rfl⟩) (h80.2.1 (by decide)) ?_
                obtain ⟨G103, eG103⟩ : ∃ z : ab_G, z = List.set G67 80 (ab_ob 12 (mof m_thrown m_taped m_length m_out m_wide m_gathered m_sets m_ranges m_nodes (a270 + 1) m_flags m_fault m_place m_numbered m_depth m_value m_isNot m_least0 m_most0 m_slot m_work m_got m_rowMany m_charAt m_charWide m_trail m_isMatch m_matchGroups m_allFrom m_allBefore m_founds m_pieces m_writtenMany m_templateWide m_tooMuch)) := ⟨_, rfl⟩
                have h84 := h84.keep h80 eG103 (by decide)
                have hlen := (z_len eG103).trans hlen
                have hsl := (z_sl h80 eG103 rfl).trans hsl
                have hfr := hfr.wr h80 eG103 (by decide)
                have h80 := h80.kept eG103
                change ab_W _ _ _ (List.set G67 80 (ab_ob 12 (mof m_thrown m_taped m_length m_out m_wide m_gathered m_sets m_ranges m_nodes (a270 + 1) m_flags m_fault m_place m_numbered m_depth m_value m_isNot m_least0 m_most0 m_slot m_work m_got m_rowMany m_charAt m_charWide m_trail m_isMatch m_matchGroups m_allFrom m_allBefore m_founds m_pieces m_writtenMany m_templateWide m_tooMuch))) 114 [some (vR 80), some (vz wh), some (vz 1114112), some (vz n269), none] [] _
                rw [← eG103]
                refine ab_goto (tgt := 204) d_MO_hexadecimal_114 (by decide) ?_
                refine ab_iload_n d_MO_hexadecimal_204 rfl ?_
                refine zz_ldc 1114111 d_MO_hexadecimal_205 cn_MO_236 (by decide) ?_
                refine zz_icmp_gt (tgt := 222) d_MO_hexadecimal_207 (by decide) (by decide) (by decide) (fun c104 => ?_) (fun c104 => absurd c104 (by decide))
                refine ab_aload_n d_MO_hexadecimal_222 rfl ?_
                refine zz_iconst d_MO_hexadecimal_223 ?_
                refine ab_iload_n d_MO_hexadecimal_224 rfl ?_
                refine ab_callV (d' := d - 1) (as := [vz 5, vz wh]) (st := []) (r := _) (z_MO_wrong (o := o) (m_thrown := m_thrown) (m_taped := m_taped) (m_length := m_length) (m_out := m_out) (m_wide := m_wide) (m_gathered := m_gathered) (m_sets := m_sets) (m_ranges := m_ranges) (m_nodes := m_nodes) (m_at := (a270 + 1)) (m_flags := m_flags) (m_fault := m_fault) (m_place := m_place) (m_numbered := m_numbered) (m_depth := m_depth) (m_value := m_value) (m_isNot := m_isNot) (m_least0 := m_least0) (m_most0 := m_most0) (m_slot := m_slot) (m_work := m_work) (m_got := m_got) (m_rowMany := m_rowMany) (m_charAt := m_charAt) (m_charWide := m_charWide) (m_trail := m_trail) (m_isMatch := m_isMatch) (m_matchGroups := m_matchGroups) (m_allFrom := m_allFrom) (m_allBefore := m_allBefore) (m_founds := m_founds) (m_pieces := m_pieces) (m_writtenMany := m_writtenMany) (m_templateWide := m_templateWide) (m_tooMuch := m_tooMuch) (x := 5) (y := wh) h80 (by omega) (by omega)) (fun oc G2 h => by rcases h with ⟨h, _⟩ | ⟨h, _⟩ <;> exact ⟨_, h⟩) (by omega) m_MO_wrong ml_MO_304 im_MO_wrong se_MO_wrong c_MO h80.2.2 (Nat.le_of_ble_eq_true rfl) d_MO_hexadecimal_225 rfl ?_
                intro v G105 hq
                rcases hq with ⟨hv, hfk, hlk, hsk, hN80, hq106⟩ | ⟨hv, hGe, hq107⟩
                · cases hv
                  have h84 := hfk.get h84 (by decide)
                  have hfr := hfr.tr hfk (by decide)
                  have hlen := hlk.trans hlen
                  have hsl := hsk.trans hsl
                  have h80 := hN80
                  change ab_W _ _ _ G105 228 [some (vR 80), some (vz wh), some (vz 1114112), some (vz n269), none] [] _
                  refine zz_iconst d_MO_hexadecimal_228 ?_
                  refine zz_iret rfl d_MO_hexadecimal_229 ?_
                  rw [hQ]; exact (Or.inl ⟨_, _, _, rfl, hfr, hlen, hsl, h80, (by omega), (by omega), (by exact hex_bn (by omega) hq72 (by omega) hq73 (by rw [show m_at + 1 + n269 = a270 by omega]; unfold chr; omega))⟩)
                · cases hv
                  rw [hGe]
                  change ab_W _ _ _ G103 228 [some (vR 80), some (vz wh), some (vz 1114112), some (vz n269), none] [] _
                  exfalso; omega
            · cases hv
              rw [hGe]
              change ab_W _ _ _ G67 95 [some (vR 80), some (vz wh), some (vz v268), some (vz n269), none] [vz (-1)] _
              refine zz_bipush d_MO_hexadecimal_95 (by decide) ?_
              refine zz_icmp_eq (tgt := 104) d_MO_hexadecimal_97 (by decide) (by decide) (by decide) (fun c108 => absurd c108 (by decide)) (fun c108 => ?_)
              refine zz_ldcw 1114112 d_MO_hexadecimal_100 cn_MO_303 (by decide) ?_
              refine ab_istore_n d_MO_hexadecimal_103 (Nat.le_of_ble_eq_true rfl) (Nat.le_of_ble_eq_true rfl) rfl ?_
              change ab_W _ _ _ G67 104 [some (vR 80), some (vz wh), some (vz 1114112), some (vz n269), none] [] _
              refine ab_aload_n d_MO_hexadecimal_104 rfl ?_
              refine ab_dup d_MO_hexadecimal_105 rfl ?_
              refine ab_getf (fs := mof m_thrown m_taped m_length m_out m_wide m_gathered m_sets m_ranges m_nodes a270 m_flags m_fault m_place m_numbered m_depth m_value m_isNot m_least0 m_most0 m_slot m_work m_got m_rowMany m_charAt m_charWide m_trail m_isMatch m_matchGroups m_allFrom m_allBefore m_founds m_pieces m_writtenMany m_templateWide m_tooMuch) f_MO_279 d_MO_hexadecimal_106 h80.2.2 rfl ?_
              refine zz_iconst d_MO_hexadecimal_109 ?_
              refine zz_iadd d_MO_hexadecimal_110 ?_
              refine ab_putf (fs := mof m_thrown m_taped m_length m_out m_wide m_gathered m_sets m_ranges m_nodes a270 m_flags m_fault m_place m_numbered m_depth m_value m_isNot m_least0 m_most0 m_slot m_work m_got m_rowMany m_charAt m_charWide m_trail m_isMatch m_matchGroups m_allFrom m_allBefore m_founds m_pieces m_writtenMany m_templateWide m_tooMuch) f_MO_279 (Or.inl rfl) d_MO_hexadecimal_111 h80.2.2 (Nat.le_of_ble_eq_true rfl) (fun _ => ⟨rfl, rfl⟩) (h80.2.1 (by decide)) ?_
              obtain ⟨G109, eG109⟩ : ∃ z : ab_G, z = List.set G67 80 (ab_ob 12 (mof m_thrown m_taped m_length m_out m_wide m_gathered m_sets m_ranges m_nodes (a270 + 1) m_flags m_fault m_place m_numbered m_depth m_value m_isNot m_least0 m_most0 m_slot m_work m_got m_rowMany m_charAt m_charWide m_trail m_isMatch m_matchGroups m_allFrom m_allBefore m_founds m_pieces m_writtenMany m_templateWide m_tooMuch)) := ⟨_, rfl⟩
              have h84 := h84.keep h80 eG109 (by decide)
              have hlen := (z_len eG109).trans hlen
              have hsl := (z_sl h80 eG109 rfl).trans hsl
              have hfr := hfr.wr h80 eG109 (by decide)
              have h80 := h80.kept eG109
              change ab_W _ _ _ (List.set G67 80 (ab_ob 12 (mof m_thrown m_taped m_length m_out m_wide m_gathered m_sets m_ranges m_nodes (a270 + 1) m_flags m_fault m_place m_numbered m_depth m_value m_isNot m_least0 m_most0 m_slot m_work m_got m_rowMany m_charAt m_charWide m_trail m_isMatch m_matchGroups m_allFrom m_allBefore m_founds m_pieces m_writtenMany m_templateWide m_tooMuch))) 114 [some (vR 80), some (vz wh), some (vz 1114112), some (vz n269), none] [] _
              rw [← eG109]
              refine ab_goto (tgt := 204) d_MO_hexadecimal_114 (by decide) ?_
              refine ab_iload_n d_MO_hexadecimal_204 rfl ?_
              refine zz_ldc 1114111 d_MO_hexadecimal_205 cn_MO_236 (by decide) ?_
              refine zz_icmp_gt (tgt := 222) d_MO_hexadecimal_207 (by decide) (by decide) (by decide) (fun c110 => ?_) (fun c110 => absurd c110 (by decide))
              refine ab_aload_n d_MO_hexadecimal_222 rfl ?_
              refine zz_iconst d_MO_hexadecimal_223 ?_
              refine ab_iload_n d_MO_hexadecimal_224 rfl ?_
              refine ab_callV (d' := d - 1) (as := [vz 5, vz wh]) (st := []) (r := _) (z_MO_wrong (o := o) (m_thrown := m_thrown) (m_taped := m_taped) (m_length := m_length) (m_out := m_out) (m_wide := m_wide) (m_gathered := m_gathered) (m_sets := m_sets) (m_ranges := m_ranges) (m_nodes := m_nodes) (m_at := (a270 + 1)) (m_flags := m_flags) (m_fault := m_fault) (m_place := m_place) (m_numbered := m_numbered) (m_depth := m_depth) (m_value := m_value) (m_isNot := m_isNot) (m_least0 := m_least0) (m_most0 := m_most0) (m_slot := m_slot) (m_work := m_work) (m_got := m_got) (m_rowMany := m_rowMany) (m_charAt := m_charAt) (m_charWide := m_charWide) (m_trail := m_trail) (m_isMatch := m_isMatch) (m_matchGroups := m_matchGroups) (m_allFrom := m_allFrom) (m_allBefore := m_allBefore) (m_founds := m_founds) (m_pieces := m_pieces) (m_writtenMany := m_writtenMany) (m_templateWide := m_templateWide) (m_tooMuch := m_tooMuch) (x := 5) (y := wh) h80 (by omega) (by omega)) (fun oc G2 h => by rcases h with ⟨h, _⟩ | ⟨h, _⟩ <;> exact ⟨_, h⟩) (by omega) m_MO_wrong ml_MO_304 im_MO_wrong se_MO_wrong c_MO h80.2.2 (Nat.le_of_ble_eq_true rfl) d_MO_hexadecimal_225 rfl ?_
              intro v G111 hq
              rcases hq with ⟨hv, hfk, hlk, hsk, hN80, hq112⟩ | ⟨hv, hGe, hq113⟩
              · cases hv
                have h84 := hfk.get h84 (by decide)
                have hfr := hfr.tr hfk (by decide)
                have hlen := hlk.trans hlen
                have hsl := hsk.trans hsl
                have h80 := hN80
                change ab_W _ _ _ G111 228 [some (vR 80), some (vz wh), some (vz 1114112), some (vz n269), none] [] _
                refine zz_iconst d_MO_hexadecimal_228 ?_
                refine zz_iret rfl d_MO_hexadecimal_229 ?_
                rw [hQ]; exact (Or.inl ⟨_, _, _, rfl, hfr, hlen, hsl, h80, (by omega), (by omega), (by exact hex_bn (by omega) hq72 (by omega) hq73 (by rw [show m_at + 1 + n269 = a270 by omega]; unfold chr; omega))⟩)
              · cases hv
                rw [hGe]
                change ab_W _ _ _ G109 228 [some (vR 80), some (vz wh), some (vz 1114112), some (vz n269), none] [] _
                exfalso; omega
  · cases hv
    rw [hGe]
    change ab_W _ _ _ G 9 [some (vR 80), some (vz wh), some (vz 0), some (vz 0), none] [vz (-1)] _
    refine zz_bipush d_MO_hexadecimal_9 (by decide) ?_
    refine zz_icmp_ne (tgt := 117) d_MO_hexadecimal_11 (by decide) (by decide) (by decide) (fun c114 => ?_) (fun c114 => absurd c114 (by decide))
    refine ab_aload_n d_MO_hexadecimal_117 rfl ?_
    refine zz_iconst d_MO_hexadecimal_118 ?_
    refine ab_callV (d' := d - 1) (as := [vz 0]) (st := []) (r := _) (z_MO_here (o := o) (m_thrown := m_thrown) (m_taped := m_taped) (m_length := m_length) (m_out := m_out) (m_wide := m_wide) (m_gathered := m_gathered) (m_sets := m_sets) (m_ranges := m_ranges) (m_nodes := m_nodes) (m_at := m_at) (m_flags := m_flags) (m_fault := m_fault) (m_place := m_place) (m_numbered := m_numbered) (m_depth := m_depth) (m_value := m_value) (m_isNot := m_isNot) (m_least0 := m_least0) (m_most0 := m_most0) (m_slot := m_slot) (m_work := m_work) (m_got := m_got) (m_rowMany := m_rowMany) (m_charAt := m_charAt) (m_charWide := m_charWide) (m_trail := m_trail) (m_isMatch := m_isMatch) (m_matchGroups := m_matchGroups) (m_allFrom := m_allFrom) (m_allBefore := m_allBefore) (m_founds := m_founds) (m_pieces := m_pieces) (m_writtenMany := m_writtenMany) (m_templateWide := m_templateWide) (m_tooMuch := m_tooMuch) (A_tape := A_tape) (k := 0) (qh := m_at) h80 h84 (by omega) (by omega) jtp (by omega) (by omega)) (fun oc G2 h => by rcases h with ⟨h, _⟩ | ⟨h, _⟩ <;> exact ⟨_, h⟩) (by omega) m_MO_here ml_MO_297 im_MO_here se_MO_here c_MO h80.2.2 (Nat.le_of_ble_eq_true rfl) d_MO_hexadecimal_119 rfl ?_
    intro v G115 hq
    rcases hq with ⟨hv, hGe, hq116⟩ | ⟨hv, hGe, hq117, hq118⟩
    · cases hv
      rw [hGe]
      change ab_W _ _ _ G 122 [some (vR 80), some (vz wh), some (vz 0), some (vz 0), none] [vz (tpk A_tape m_taped m_at)] _
      exfalso; omega
    · cases hv
      rw [hGe]
      change ab_W _ _ _ G 122 [some (vR 80), some (vz wh), some (vz 0), some (vz 0), none] [vz (-1)] _
      refine zz_if_lt (tgt := 159) d_MO_hexadecimal_122 (by decide) (by decide) (fun c119 => ?_) (fun c119 => absurd c119 (by decide))
      refine zz_iconst d_MO_hexadecimal_159 ?_
      refine ab_istore d_MO_hexadecimal_160 (Nat.le_of_ble_eq_true rfl) (Nat.le_of_ble_eq_true rfl) rfl ?_
      change ab_W _ _ _ G 162 [some (vR 80), some (vz wh), some (vz 0), some (vz 0), some (vz 0)] [] _
      refine ab_iload d_MO_hexadecimal_162 rfl ?_
      refine zz_if_eq (tgt := 190) d_MO_hexadecimal_164 (by decide) (by decide) (fun c120 => ?_) (fun c120 => absurd c120 (by decide))
      refine zz_ldcw 1114112 d_MO_hexadecimal_190 cn_MO_303 (by decide) ?_
      refine ab_istore_n d_MO_hexadecimal_193 (Nat.le_of_ble_eq_true rfl) (Nat.le_of_ble_eq_true rfl) rfl ?_
      change ab_W _ _ _ G 194 [some (vR 80), some (vz wh), some (vz 1114112), some (vz 0), some (vz 0)] [] _
      refine ab_aload_n d_MO_hexadecimal_194 rfl ?_
      refine ab_dup d_MO_hexadecimal_195 rfl ?_
      refine ab_getf (fs := mof m_thrown m_taped m_length m_out m_wide m_gathered m_sets m_ranges m_nodes m_at m_flags m_fault m_place m_numbered m_depth m_value m_isNot m_least0 m_most0 m_slot m_work m_got m_rowMany m_charAt m_charWide m_trail m_isMatch m_matchGroups m_allFrom m_allBefore m_founds m_pieces m_writtenMany m_templateWide m_tooMuch) f_MO_279 d_MO_hexadecimal_196 h80.2.2 rfl ?_
      refine zz_iconst d_MO_hexadecimal_199 ?_
      refine zz_iadd d_MO_hexadecimal_200 ?_
      refine ab_putf (fs := mof m_thrown m_taped m_length m_out m_wide m_gathered m_sets m_ranges m_nodes m_at m_flags m_fault m_place m_numbered m_depth m_value m_isNot m_least0 m_most0 m_slot m_work m_got m_rowMany m_charAt m_charWide m_trail m_isMatch m_matchGroups m_allFrom m_allBefore m_founds m_pieces m_writtenMany m_templateWide m_tooMuch) f_MO_279 (Or.inl rfl) d_MO_hexadecimal_201 h80.2.2 (Nat.le_of_ble_eq_true rfl) (fun _ => ⟨rfl, rfl⟩) (h80.2.1 (by decide)) ?_
      obtain ⟨G121, eG121⟩ : ∃ z : ab_G, z = List.set G 80 (ab_ob 12 (mof m_thrown m_taped m_length m_out m_wide m_gathered m_sets m_ranges m_nodes (m_at + 2) m_flags m_fault m_place m_numbered m_depth m_value m_isNot m_least0 m_most0 m_slot m_work m_got m_rowMany m_charAt m_charWide m_trail m_isMatch m_matchGroups m_allFrom m_allBefore m_founds m_pieces m_writtenMany m_templateWide m_tooMuch)) := ⟨_, rfl⟩
      have h84 := h84.keep h80 eG121 (by decide)
      have hlen := (z_len eG121).trans hlen
      have hsl := (z_sl h80 eG121 rfl).trans hsl
      have hfr := hfr.wr h80 eG121 (by decide)
      have h80 := h80.kept eG121
      change ab_W _ _ _ (List.set G 80 (ab_ob 12 (mof m_thrown m_taped m_length m_out m_wide m_gathered m_sets m_ranges m_nodes (m_at + 2) m_flags m_fault m_place m_numbered m_depth m_value m_isNot m_least0 m_most0 m_slot m_work m_got m_rowMany m_charAt m_charWide m_trail m_isMatch m_matchGroups m_allFrom m_allBefore m_founds m_pieces m_writtenMany m_templateWide m_tooMuch))) 204 [some (vR 80), some (vz wh), some (vz 1114112), some (vz 0), some (vz 0)] [] _
      rw [← eG121]
      refine ab_iload_n d_MO_hexadecimal_204 rfl ?_
      refine zz_ldc 1114111 d_MO_hexadecimal_205 cn_MO_236 (by decide) ?_
      refine zz_icmp_gt (tgt := 222) d_MO_hexadecimal_207 (by decide) (by decide) (by decide) (fun c122 => ?_) (fun c122 => absurd c122 (by decide))
      refine ab_aload_n d_MO_hexadecimal_222 rfl ?_
      refine zz_iconst d_MO_hexadecimal_223 ?_
      refine ab_iload_n d_MO_hexadecimal_224 rfl ?_
      refine ab_callV (d' := d - 1) (as := [vz 5, vz wh]) (st := []) (r := _) (z_MO_wrong (o := o) (m_thrown := m_thrown) (m_taped := m_taped) (m_length := m_length) (m_out := m_out) (m_wide := m_wide) (m_gathered := m_gathered) (m_sets := m_sets) (m_ranges := m_ranges) (m_nodes := m_nodes) (m_at := (m_at + 2)) (m_flags := m_flags) (m_fault := m_fault) (m_place := m_place) (m_numbered := m_numbered) (m_depth := m_depth) (m_value := m_value) (m_isNot := m_isNot) (m_least0 := m_least0) (m_most0 := m_most0) (m_slot := m_slot) (m_work := m_work) (m_got := m_got) (m_rowMany := m_rowMany) (m_charAt := m_charAt) (m_charWide := m_charWide) (m_trail := m_trail) (m_isMatch := m_isMatch) (m_matchGroups := m_matchGroups) (m_allFrom := m_allFrom) (m_allBefore := m_allBefore) (m_founds := m_founds) (m_pieces := m_pieces) (m_writtenMany := m_writtenMany) (m_templateWide := m_templateWide) (m_tooMuch := m_tooMuch) (x := 5) (y := wh) h80 (by omega) (by omega)) (fun oc G2 h => by rcases h with ⟨h, _⟩ | ⟨h, _⟩ <;> exact ⟨_, h⟩) (by omega) m_MO_wrong ml_MO_304 im_MO_wrong se_MO_wrong c_MO h80.2.2 (Nat.le_of_ble_eq_true rfl) d_MO_hexadecimal_225 rfl ?_
      intro v G123 hq
      rcases hq with ⟨hv, hfk, hlk, hsk, hN80, hq124⟩ | ⟨hv, hGe, hq125⟩
      · cases hv
        have h84 := hfk.get h84 (by decide)
        have hfr := hfr.tr hfk (by decide)
        have hlen := hlk.trans hlen
        have hsl := hsk.trans hsl
        have h80 := hN80
        change ab_W _ _ _ G123 228 [some (vR 80), some (vz wh), some (vz 1114112), some (vz 0), some (vz 0)] [] _
        refine zz_iconst d_MO_hexadecimal_228 ?_
        refine zz_iret rfl d_MO_hexadecimal_229 ?_
        rw [hQ]; exact (Or.inl ⟨_, _, _, rfl, hfr, hlen, hsl, h80, (by omega), (by omega), (by exact hex_2n (by omega) (by first | (left; omega) | (left; rw [show tpk A_tape m_taped m_at = -1 by omega, hxd_m]; decide) | (right; left; omega) | (right; left; rw [show tpk A_tape m_taped (m_at + 1) = -1 by omega, hxd_m]; decide) | (right; right; unfold chr; omega)))⟩)
      · cases hv
        rw [hGe]
        change ab_W _ _ _ G121 228 [some (vR 80), some (vz wh), some (vz 1114112), some (vz 0), some (vz 0)] [] _
        exfalso; omega
set_option maxRecDepth 100000 in
set_option maxHeartbeats 4000000 in
theorem z_MO_escape {X : ab_X} {d : Nat} {o : Nat → Nat} {G : ab_G} {m_thrown : Int} {m_taped : Int} {m_length : Int} {m_out : Int} {m_wide : Int} {m_gathered : Int} {m_sets : Int} {m_ranges : Int} {m_nodes : Int} {m_at : Int} {m_flags : Int} {m_fault : Int} {m_place : Int} {m_numbered : Int} {m_depth : Int} {m_value : Int} {m_isNot : Int} {m_least0 : Int} {m_most0 : Int} {m_slot : Int} {m_work : Int} {m_got : Int} {m_rowMany : Int} {m_charAt : Int} {m_charWide : Int} {m_trail : Int} {m_isMatch : Int} {m_matchGroups : Int} {m_allFrom : Int} {m_allBefore : Int} {m_founds : Int} {m_pieces : Int} {m_writtenMany : Int} {m_templateWide : Int} {m_tooMuch : Int} {A_tape : Int → Int} {ic : Int} (h80 : cc o G 80 280 (ab_ob 12 (mof m_thrown m_taped m_length m_out m_wide m_gathered m_sets m_ranges m_nodes m_at m_flags m_fault m_place m_numbered m_depth m_value m_isNot m_least0 m_most0 m_slot m_work m_got m_rowMany m_charAt m_charWide m_trail m_isMatch m_matchGroups m_allFrom m_allBefore m_founds m_pieces m_writtenMany m_templateWide m_tooMuch))) (h84 : cc o G 84 284 (za 2000 A_tape)) (n18 : ab_n0 = 18) (cta : 0 ≤ m_taped ∧ m_taped ≤ 2000) (jtp : rgs A_tape 2000 0 255) (cat : 0 ≤ m_at ∧ m_at < m_taped) (cic : 0 ≤ ic ∧ ic ≤ 1) (cf : m_fault = 0) (hd : 3 ≤ d) : ab_F X d y_MO_escape (.code y_MO_escape b_MO_escape 5 (some (.int))) [vR 80, vz ic] G (fun oc G2 => (∃ a2 : Int, ∃ f2 : Int, ∃ p2 : Int, oc = .returned (some (vz (-1))) ∧ fx o o [280] G G2 ∧ G2.length = G.length ∧ ab_slots G2 = ab_slots G ∧ cc o G2 80 280 (ab_ob 12 (mof m_thrown m_taped m_length m_out m_wide m_gathered m_sets m_ranges m_nodes a2 m_flags f2 p2 m_numbered m_depth m_value m_isNot m_least0 m_most0 m_slot m_work m_got m_rowMany m_charAt m_charWide m_trail m_isMatch m_matchGroups m_allFrom m_allBefore m_founds m_pieces m_writtenMany m_templateWide m_tooMuch)) ∧ (1 ≤ f2 ∧ f2 ≤ 14 ∧ 0 ≤ a2 ∧ a2 ≤ 4000) ∧ (p2 = m_at) ∧ (escB A_tape m_taped m_at ic f2)) ∨ (∃ a2 : Int, ∃ v2 : Int, oc = .returned (some (vz 0)) ∧ fx o o [280] G G2 ∧ G2.length = G.length ∧ ab_slots G2 = ab_slots G ∧ cc o G2 80 280 (ab_ob 12 (mof m_thrown m_taped m_length m_out m_wide m_gathered m_sets m_ranges m_nodes a2 m_flags m_fault m_place m_numbered m_depth v2 m_isNot m_least0 m_most0 m_slot m_work m_got m_rowMany m_charAt m_charWide m_trail m_isMatch m_matchGroups m_allFrom m_allBefore m_founds m_pieces m_writtenMany m_templateWide m_tooMuch)) ∧ (0 ≤ v2 ∧ v2 ≤ 1114111 ∧ m_at + 2 ≤ a2 ∧ a2 ≤ m_taped) ∧ (esc1 A_tape m_taped m_at v2 a2)) ∨ (∃ a2 : Int, ∃ v2 : Int, ∃ nt2 : Int, ∃ k2 : Nat, oc = .returned (some (vz 1)) ∧ fx o o [280] G G2 ∧ G2.length = G.length ∧ ab_slots G2 = ab_slots G ∧ cc o G2 80 280 (ab_ob 12 (mof m_thrown m_taped m_length m_out m_wide m_gathered m_sets m_ranges m_nodes a2 m_flags m_fault m_place m_numbered m_depth v2 nt2 m_least0 m_most0 m_slot m_work m_got m_rowMany m_charAt m_charWide m_trail m_isMatch m_matchGroups m_allFrom m_allBefore m_founds m_pieces m_writtenMany m_templateWide m_tooMuch)) ∧ (0 ≤ v2 ∧ v2 ≤ 6 ∧ m_at + 2 ≤ a2 ∧ a2 ≤ m_taped ∧ 0 ≤ nt2 ∧ nt2 ≤ 1 ∧ (v2 ≤ 2 ∨ m_at + 3 ≤ a2)) ∧ (↑k2 = v2 + 1) ∧ (esc2 A_tape m_taped m_at a2 k2 nt2)) ∨ (∃ v2 : Int, oc = .returned (some (vz 2)) ∧ fx o o [280] G G2 ∧ G2.length = G.length ∧ ab_slots G2 = ab_slots G ∧ cc o G2 80 280 (ab_ob 12 (mof m_thrown m_taped m_length m_out m_wide m_gathered m_sets m_ranges m_nodes (m_at + 2) m_flags m_fault m_place m_numbered m_depth v2 m_isNot m_least0 m_most0 m_slot m_work m_got m_rowMany m_charAt m_charWide m_trail m_isMatch m_matchGroups m_allFrom m_allBefore m_founds m_pieces m_writtenMany m_templateWide m_tooMuch)) ∧ (0 ≤ v2 ∧ v2 ≤ 3 ∧ m_at + 2 ≤ m_taped ∧ ic = 0) ∧ (∃ v : Int, esc1 A_tape m_taped m_at v (m_at + 2) ∧ v < -3 ∧ -4 - v = asq v2)) ∨ (oc = .returned (some (vz 3)) ∧ fx o o [280] G G2 ∧ G2.length = G.length ∧ ab_slots G2 = ab_slots G ∧ cc o G2 80 280 (ab_ob 12 (mof m_thrown m_taped m_length m_out m_wide m_gathered m_sets m_ranges m_nodes (m_at + 2) m_flags m_fault m_place m_numbered m_depth m_value m_isNot m_least0 m_most0 m_slot m_work m_got m_rowMany m_charAt m_charWide m_trail m_isMatch m_matchGroups m_allFrom m_allBefore m_founds m_pieces m_writtenMany m_templateWide m_tooMuch)) ∧ (m_at + 2 ≤ m_taped ∧ ic = 0) ∧ (esc1 A_tape m_taped m_at (-3) (m_at + 2)))) := by
  refine ab_F_of (by decide +kernel) (Nat.le_of_ble_eq_true rfl) ?_
  obtain ⟨Q, hQ⟩ : ∃ z : Outcome → ab_G → Prop, z = (fun oc G2 => (∃ a2 : Int, ∃ f2 : Int, ∃ p2 : Int, oc = .returned (some (vz (-1))) ∧ fx o o [280] G G2 ∧ G2.length = G.length ∧ ab_slots G2 = ab_slots G ∧ cc o G2 80 280 (ab_ob 12 (mof m_thrown m_taped m_length m_out m_wide m_gathered m_sets m_ranges m_nodes a2 m_flags f2 p2 m_numbered m_depth m_value m_isNot m_least0 m_most0 m_slot m_work m_got m_rowMany m_charAt m_charWide m_trail m_isMatch m_matchGroups m_allFrom m_allBefore m_founds m_pieces m_writtenMany m_templateWide m_tooMuch)) ∧ (1 ≤ f2 ∧ f2 ≤ 14 ∧ 0 ≤ a2 ∧ a2 ≤ 4000) ∧ (p2 = m_at) ∧ (escB A_tape m_taped m_at ic f2)) ∨ (∃ a2 : Int, ∃ v2 : Int, oc = .returned (some (vz 0)) ∧ fx o o [280] G G2 ∧ G2.length = G.length ∧ ab_slots G2 = ab_slots G ∧ cc o G2 80 280 (ab_ob 12 (mof m_thrown m_taped m_length m_out m_wide m_gathered m_sets m_ranges m_nodes a2 m_flags m_fault m_place m_numbered m_depth v2 m_isNot m_least0 m_most0 m_slot m_work m_got m_rowMany m_charAt m_charWide m_trail m_isMatch m_matchGroups m_allFrom m_allBefore m_founds m_pieces m_writtenMany m_templateWide m_tooMuch)) ∧ (0 ≤ v2 ∧ v2 ≤ 1114111 ∧ m_at + 2 ≤ a2 ∧ a2 ≤ m_taped) ∧ (esc1 A_tape m_taped m_at v2 a2)) ∨ (∃ a2 : Int, ∃ v2 : Int, ∃ nt2 : Int, ∃ k2 : Nat, oc = .returned (some (vz 1)) ∧ fx o o [280] G G2 ∧ G2.length = G.length ∧ ab_slots G2 = ab_slots G ∧ cc o G2 80 280 (ab_ob 12 (mof m_thrown m_taped m_length m_out m_wide m_gathered m_sets m_ranges m_nodes a2 m_flags m_fault m_place m_numbered m_depth v2 nt2 m_least0 m_most0 m_slot m_work m_got m_rowMany m_charAt m_charWide m_trail m_isMatch m_matchGroups m_allFrom m_allBefore m_founds m_pieces m_writtenMany m_templateWide m_tooMuch)) ∧ (0 ≤ v2 ∧ v2 ≤ 6 ∧ m_at + 2 ≤ a2 ∧ a2 ≤ m_taped ∧ 0 ≤ nt2 ∧ nt2 ≤ 1 ∧ (v2 ≤ 2 ∨ m_at + 3 ≤ a2)) ∧ (↑k2 = v2 + 1) ∧ (esc2 A_tape m_taped m_at a2 k2 nt2)) ∨ (∃ v2 : Int, oc = .returned (some (vz 2)) ∧ fx o o [280] G G2 ∧ G2.length = G.length ∧ ab_slots G2 = ab_slots G ∧ cc o G2 80 280 (ab_ob 12 (mof m_thrown m_taped m_length m_out m_wide m_gathered m_sets m_ranges m_nodes (m_at + 2) m_flags m_fault m_place m_numbered m_depth v2 m_isNot m_least0 m_most0 m_slot m_work m_got m_rowMany m_charAt m_charWide m_trail m_isMatch m_matchGroups m_allFrom m_allBefore m_founds m_pieces m_writtenMany m_templateWide m_tooMuch)) ∧ (0 ≤ v2 ∧ v2 ≤ 3 ∧ m_at + 2 ≤ m_taped ∧ ic = 0) ∧ (∃ v : Int, esc1 A_tape m_taped m_at v (m_at + 2) ∧ v < -3 ∧ -4 - v = asq v2)) ∨ (oc = .returned (some (vz 3)) ∧ fx o o [280] G G2 ∧ G2.length = G.length ∧ ab_slots G2 = ab_slots G ∧ cc o G2 80 280 (ab_ob 12 (mof m_thrown m_taped m_length m_out m_wide m_gathered m_sets m_ranges m_nodes (m_at + 2) m_flags m_fault m_place m_numbered m_depth m_value m_isNot m_least0 m_most0 m_slot m_work m_got m_rowMany m_charAt m_charWide m_trail m_isMatch m_matchGroups m_allFrom m_allBefore m_founds m_pieces m_writtenMany m_templateWide m_tooMuch)) ∧ (m_at + 2 ≤ m_taped ∧ ic = 0) ∧ (esc1 A_tape m_taped m_at (-3) (m_at + 2)))) := ⟨_, rfl⟩
  rw [← hQ]
  change ab_W X (ab_pl y_MO_escape b_MO_escape 5 (some (.int))) d G 0 [some (vR 80), some (vz ic), none, none, none] [] Q
  have hfr : fx o o [280] G G := fx.rf
  have hlen : G.length = G.length := rfl
  have hsl : ab_slots G = ab_slots G := rfl
  refine ab_aload_n d_MO_escape_0 rfl ?_
  refine ab_getf (fs := mof m_thrown m_taped m_length m_out m_wide m_gathered m_sets m_ranges m_nodes m_at m_flags m_fault m_place m_numbered m_depth m_value m_isNot m_least0 m_most0 m_slot m_work m_got m_rowMany m_charAt m_charWide m_trail m_isMatch m_matchGroups m_allFrom m_allBefore m_founds m_pieces m_writtenMany m_templateWide m_tooMuch) f_MO_279 d_MO_escape_1 h80.2.2 rfl ?_
  refine ab_istore_n d_MO_escape_4 (Nat.le_of_ble_eq_true rfl) (Nat.le_of_ble_eq_true rfl) rfl ?_
  change ab_W _ _ _ G 5 [some (vR 80), some (vz ic), some (vz m_at), none, none] [] _
  refine ab_aload_n d_MO_escape_5 rfl ?_
  refine zz_iconst d_MO_escape_6 ?_
  refine ab_callV (d' := d - 1) (as := [vz 1]) (st := []) (r := _) (z_MO_here (o := o) (m_thrown := m_thrown) (m_taped := m_taped) (m_length := m_length) (m_out := m_out) (m_wide := m_wide) (m_gathered := m_gathered) (m_sets := m_sets) (m_ranges := m_ranges) (m_nodes := m_nodes) (m_at := m_at) (m_flags := m_flags) (m_fault := m_fault) (m_place := m_place) (m_numbered := m_numbered) (m_depth := m_depth) (m_value := m_value) (m_isNot := m_isNot) (m_least0 := m_least0) (m_most0 := m_most0) (m_slot := m_slot) (m_work := m_work) (m_got := m_got) (m_rowMany := m_rowMany) (m_charAt := m_charAt) (m_charWide := m_charWide) (m_trail := m_trail) (m_isMatch := m_isMatch) (m_matchGroups := m_matchGroups) (m_allFrom := m_allFrom) (m_allBefore := m_allBefore) (m_founds := m_founds) (m_pieces := m_pieces) (m_writtenMany := m_writtenMany) (m_templateWide := m_templateWide) (m_tooMuch := m_tooMuch) (A_tape := A_tape) (k := 1) (qh := (m_at + 1)) h80 h84 (by omega) (by omega) jtp (by omega) (by omega)) (fun oc G2 h => by rcases h with ⟨h, _⟩ | ⟨h, _⟩ <;> exact ⟨_, h⟩) (by omega) m_MO_here ml_MO_297 im_MO_here se_MO_here c_MO h80.2.2 (Nat.le_of_ble_eq_true rfl) d_MO_escape_7 rfl ?_
  intro v G1 hq
  rcases hq with ⟨hv, hGe, hq2⟩ | ⟨hv, hGe, hq3, hq4⟩
  · cases hv
    rw [hGe]
    change ab_W _ _ _ G 10 [some (vR 80), some (vz ic), some (vz m_at), none, none] [vz (tpk A_tape m_taped (m_at + 1))] _
    refine ab_istore_n d_MO_escape_10 (Nat.le_of_ble_eq_true rfl) (Nat.le_of_ble_eq_true rfl) rfl ?_
    change ab_W _ _ _ G 11 [some (vR 80), some (vz ic), some (vz m_at), some (vz (tpk A_tape m_taped (m_at + 1))), none] [] _
    refine ab_aload_n d_MO_escape_11 rfl ?_
    refine ab_dup d_MO_escape_12 rfl ?_
    refine ab_getf (fs := mof m_thrown m_taped m_length m_out m_wide m_gathered m_sets m_ranges m_nodes m_at m_flags m_fault m_place m_numbered m_depth m_value m_isNot m_least0 m_most0 m_slot m_work m_got m_rowMany m_charAt m_charWide m_trail m_isMatch m_matchGroups m_allFrom m_allBefore m_founds m_pieces m_writtenMany m_templateWide m_tooMuch) f_MO_279 d_MO_escape_13 h80.2.2 rfl ?_
    refine zz_iconst d_MO_escape_16 ?_
    refine zz_iadd d_MO_escape_17 ?_
    refine ab_putf (fs := mof m_thrown m_taped m_length m_out m_wide m_gathered m_sets m_ranges m_nodes m_at m_flags m_fault m_place m_numbered m_depth m_value m_isNot m_least0 m_most0 m_slot m_work m_got m_rowMany m_charAt m_charWide m_trail m_isMatch m_matchGroups m_allFrom m_allBefore m_founds m_pieces m_writtenMany m_templateWide m_tooMuch) f_MO_279 (Or.inl rfl) d_MO_escape_18 h80.2.2 (Nat.le_of_ble_eq_true rfl) (fun _ => ⟨rfl, rfl⟩) (h80.2.1 (by decide)) ?_
    obtain ⟨G5, eG5⟩ : ∃ z : ab_G, z = List.set G 80 (ab_ob 12 (mof m_thrown m_taped m_length m_out m_wide m_gathered m_sets m_ranges m_nodes (m_at + 2) m_flags m_fault m_place m_numbered m_depth m_value m_isNot m_least0 m_most0 m_slot m_work m_got m_rowMany m_charAt m_charWide m_trail m_isMatch m_matchGroups m_allFrom m_allBefore m_founds m_pieces m_writtenMany m_templateWide m_tooMuch)) := ⟨_, rfl⟩
    have h84 := h84.keep h80 eG5 (by decide)
    have hlen := (z_len eG5).trans hlen
    have hsl := (z_sl h80 eG5 rfl).trans hsl
    have hfr := hfr.wr h80 eG5 (by decide)
    have h80 := h80.kept eG5
    change ab_W _ _ _ (List.set G 80 (ab_ob 12 (mof m_thrown m_taped m_length m_out m_wide m_gathered m_sets m_ranges m_nodes (m_at + 2) m_flags m_fault m_place m_numbered m_depth m_value m_isNot m_least0 m_most0 m_slot m_work m_got m_rowMany m_charAt m_charWide m_trail m_isMatch m_matchGroups m_allFrom m_allBefore m_founds m_pieces m_writtenMany m_templateWide m_tooMuch))) 21 [some (vR 80), some (vz ic), some (vz m_at), some (vz (tpk A_tape m_taped (m_at + 1))), none] [] _
    rw [← eG5]
    refine ab_iload_n d_MO_escape_21 rfl ?_
    refine zz_bipush d_MO_escape_22 (by decide) ?_
    refine zz_icmp_ne (tgt := 33) d_MO_escape_24 (by decide) (by omega) (by decide) (fun c6 => ?_) (fun c6 => ?_)
    · replace c6 : nzq (tpk A_tape m_taped (m_at + 1)) 120 := c6
      refine ab_iload_n d_MO_escape_33 rfl ?_
      refine ab_callS (d' := d - 1) (as := [vz (tpk A_tape m_taped (m_at + 1))]) (st := []) (z_MO_control (o := o) (c := (tpk A_tape m_taped (m_at + 1))) (by omega)) (fun oc G2 h => by rcases h with ⟨h, _⟩ <;> exact ⟨_, h⟩) (by omega) m_MO_control ml_MO_313 st_MO_control (Nat.le_of_ble_eq_true rfl) d_MO_escape_34 rfl ?_
      intro v G7 hq
      rcases hq with ⟨hv, hGe, hq8⟩
      cases hv
      rw [hGe]
      change ab_W _ _ _ G5 37 [some (vR 80), some (vz ic), some (vz m_at), some (vz (tpk A_tape m_taped (m_at + 1))), none] [vz (ctf (tpk A_tape m_taped (m_at + 1)))] _
      refine zz_if_lt (tgt := 50) d_MO_escape_37 (by decide) (by omega) (fun c9 => ?_) (fun c9 => ?_)
      · refine ab_iload_n d_MO_escape_50 rfl ?_
        refine zz_bipush d_MO_escape_51 (by decide) ?_
        refine zz_icmp_eq (tgt := 86) d_MO_escape_53 (by decide) (by omega) (by decide) (fun c10 => ?_) (fun c10 => ?_)
        · refine ab_aload_n d_MO_escape_86 rfl ?_
          refine ab_iload_n d_MO_escape_87 rfl ?_
          refine ab_callS (d' := d - 1) (as := [vz (tpk A_tape m_taped (m_at + 1))]) (st := [vR 80]) (z_MO_whichSet (o := o) (c := (tpk A_tape m_taped (m_at + 1))) (by omega)) (fun oc G2 h => by rcases h with ⟨_, h, _⟩ <;> exact ⟨_, h⟩) (by omega) m_MO_whichSet ml_MO_316 st_MO_whichSet (Nat.le_of_ble_eq_true rfl) d_MO_escape_88 rfl ?_
          intro v G11 hq
          rcases hq with ⟨v12, hv, hGe, hq13, hq14⟩
          cases hv
          rw [hGe]
          change ab_W _ _ _ G5 91 [some (vR 80), some (vz ic), some (vz m_at), some (vz (tpk A_tape m_taped (m_at + 1))), none] [vz v12, vR 80] _
          refine ab_putf (fs := mof m_thrown m_taped m_length m_out m_wide m_gathered m_sets m_ranges m_nodes (m_at + 2) m_flags m_fault m_place m_numbered m_depth m_value m_isNot m_least0 m_most0 m_slot m_work m_got m_rowMany m_charAt m_charWide m_trail m_isMatch m_matchGroups m_allFrom m_allBefore m_founds m_pieces m_writtenMany m_templateWide m_tooMuch) f_MO_307 (Or.inl rfl) d_MO_escape_91 h80.2.2 (Nat.le_of_ble_eq_true rfl) (fun _ => ⟨rfl, rfl⟩) (h80.2.1 (by decide)) ?_
          obtain ⟨G15, eG15⟩ : ∃ z : ab_G, z = List.set G5 80 (ab_ob 12 (mof m_thrown m_taped m_length m_out m_wide m_gathered m_sets m_ranges m_nodes (m_at + 2) m_flags m_fault m_place m_numbered m_depth v12 m_isNot m_least0 m_most0 m_slot m_work m_got m_rowMany m_charAt m_charWide m_trail m_isMatch m_matchGroups m_allFrom m_allBefore m_founds m_pieces m_writtenMany m_templateWide m_tooMuch)) := ⟨_, rfl⟩
          have h84 := h84.keep h80 eG15 (by decide)
          have hlen := (z_len eG15).trans hlen
          have hsl := (z_sl h80 eG15 rfl).trans hsl
          have hfr := hfr.wr h80 eG15 (by decide)
          have h80 := h80.kept eG15
          change ab_W _ _ _ (List.set G5 80 (ab_ob 12 (mof m_thrown m_taped m_length m_out m_wide m_gathered m_sets m_ranges m_nodes (m_at + 2) m_flags m_fault m_place m_numbered m_depth v12 m_isNot m_least0 m_most0 m_slot m_work m_got m_rowMany m_charAt m_charWide m_trail m_isMatch m_matchGroups m_allFrom m_allBefore m_founds m_pieces m_writtenMany m_templateWide m_tooMuch))) 94 [some (vR 80), some (vz ic), some (vz m_at), some (vz (tpk A_tape m_taped (m_at + 1))), none] [] _
          rw [← eG15]
          refine ab_aload_n d_MO_escape_94 rfl ?_
          refine ab_iload_n d_MO_escape_95 rfl ?_
          refine zz_bipush d_MO_escape_96 (by decide) ?_
          refine zz_icmp_ge (tgt := 105) d_MO_escape_98 (by decide) (by omega) (by decide) (fun c16 => ?_) (fun c16 => absurd c16 (by omega))
          refine zz_iconst d_MO_escape_105 ?_
          refine ab_putf (fs := mof m_thrown m_taped m_length m_out m_wide m_gathered m_sets m_ranges m_nodes (m_at + 2) m_flags m_fault m_place m_numbered m_depth v12 m_isNot m_least0 m_most0 m_slot m_work m_got m_rowMany m_charAt m_charWide m_trail m_isMatch m_matchGroups m_allFrom m_allBefore m_founds m_pieces m_writtenMany m_templateWide m_tooMuch) f_MO_319 (Or.inl rfl) d_MO_escape_106 h80.2.2 (Nat.le_of_ble_eq_true rfl) (ab_fbz (by decide)) (h80.2.1 (by decide)) ?_
          obtain ⟨G17, eG17⟩ : ∃ z : ab_G, z = List.set G15 80 (ab_ob 12 (mof m_thrown m_taped m_length m_out m_wide m_gathered m_sets m_ranges m_nodes (m_at + 2) m_flags m_fault m_place m_numbered m_depth v12 0 m_least0 m_most0 m_slot m_work m_got m_rowMany m_charAt m_charWide m_trail m_isMatch m_matchGroups m_allFrom m_allBefore m_founds m_pieces m_writtenMany m_templateWide m_tooMuch)) := ⟨_, rfl⟩
          have h84 := h84.keep h80 eG17 (by decide)
          have hlen := (z_len eG17).trans hlen
          have hsl := (z_sl h80 eG17 rfl).trans hsl
          have hfr := hfr.wr h80 eG17 (by decide)
          have h80 := h80.kept eG17
          change ab_W _ _ _ (List.set G15 80 (ab_ob 12 (mof m_thrown m_taped m_length m_out m_wide m_gathered m_sets m_ranges m_nodes (m_at + 2) m_flags m_fault m_place m_numbered m_depth v12 0 m_least0 m_most0 m_slot m_work m_got m_rowMany m_charAt m_charWide m_trail m_isMatch m_matchGroups m_allFrom m_allBefore m_founds m_pieces m_writtenMany m_templateWide m_tooMuch))) 109 [some (vR 80), some (vz ic), some (vz m_at), some (vz (tpk A_tape m_taped (m_at + 1))), none] [] _
          rw [← eG17]
          refine zz_iconst d_MO_escape_109 ?_
          refine zz_iret rfl d_MO_escape_110 ?_
          rw [hQ]; exact (Or.inr (Or.inr (Or.inl ⟨_, _, _, (Int.toNat (v12 + 1)), rfl, hfr, hlen, hsl, h80, (by omega), (by omega), (by exact es_k (w := v12) (by omega) (by omega))⟩)))
        · replace c10 : nzq (tpk A_tape m_taped (m_at + 1)) 100 := c10
          refine ab_iload_n d_MO_escape_56 rfl ?_
          refine zz_bipush d_MO_escape_57 (by decide) ?_
          refine zz_icmp_eq (tgt := 86) d_MO_escape_59 (by decide) (by omega) (by decide) (fun c18 => ?_) (fun c18 => ?_)
          · refine ab_aload_n d_MO_escape_86 rfl ?_
            refine ab_iload_n d_MO_escape_87 rfl ?_
            refine ab_callS (d' := d - 1) (as := [vz (tpk A_tape m_taped (m_at + 1))]) (st := [vR 80]) (z_MO_whichSet (o := o) (c := (tpk A_tape m_taped (m_at + 1))) (by omega)) (fun oc G2 h => by rcases h with ⟨_, h, _⟩ <;> exact ⟨_, h⟩) (by omega) m_MO_whichSet ml_MO_316 st_MO_whichSet (Nat.le_of_ble_eq_true rfl) d_MO_escape_88 rfl ?_
            intro v G19 hq
            rcases hq with ⟨v20, hv, hGe, hq21, hq22⟩
            cases hv
            rw [hGe]
            change ab_W _ _ _ G5 91 [some (vR 80), some (vz ic), some (vz m_at), some (vz (tpk A_tape m_taped (m_at + 1))), none] [vz v20, vR 80] _
            refine ab_putf (fs := mof m_thrown m_taped m_length m_out m_wide m_gathered m_sets m_ranges m_nodes (m_at + 2) m_flags m_fault m_place m_numbered m_depth m_value m_isNot m_least0 m_most0 m_slot m_work m_got m_rowMany m_charAt m_charWide m_trail m_isMatch m_matchGroups m_allFrom m_allBefore m_founds m_pieces m_writtenMany m_templateWide m_tooMuch) f_MO_307 (Or.inl rfl) d_MO_escape_91 h80.2.2 (Nat.le_of_ble_eq_true rfl) (fun _ => ⟨rfl, rfl⟩) (h80.2.1 (by decide)) ?_
            obtain ⟨G23, eG23⟩ : ∃ z : ab_G, z = List.set G5 80 (ab_ob 12 (mof m_thrown m_taped m_length m_out m_wide m_gathered m_sets m_ranges m_nodes (m_at + 2) m_flags m_fault m_place m_numbered m_depth v20 m_isNot m_least0 m_most0 m_slot m_work m_got m_rowMany m_charAt m_charWide m_trail m_isMatch m_matchGroups m_allFrom m_allBefore m_founds m_pieces m_writtenMany m_templateWide m_tooMuch)) := ⟨_, rfl⟩
            have h84 := h84.keep h80 eG23 (by decide)
            have hlen := (z_len eG23).trans hlen
            have hsl := (z_sl h80 eG23 rfl).trans hsl
            have hfr := hfr.wr h80 eG23 (by decide)
            have h80 := h80.kept eG23
            change ab_W _ _ _ (List.set G5 80 (ab_ob 12 (mof m_thrown m_taped m_length m_out m_wide m_gathered m_sets m_ranges m_nodes (m_at + 2) m_flags m_fault m_place m_numbered m_depth v20 m_isNot m_least0 m_most0 m_slot m_work m_got m_rowMany m_charAt m_charWide m_trail m_isMatch m_matchGroups m_allFrom m_allBefore m_founds m_pieces m_writtenMany m_templateWide m_tooMuch))) 94 [some (vR 80), some (vz ic), some (vz m_at), some (vz (tpk A_tape m_taped (m_at + 1))), none] [] _
            rw [← eG23]
            refine ab_aload_n d_MO_escape_94 rfl ?_
            refine ab_iload_n d_MO_escape_95 rfl ?_
            refine zz_bipush d_MO_escape_96 (by decide) ?_
            refine zz_icmp_ge (tgt := 105) d_MO_escape_98 (by decide) (by omega) (by decide) (fun c24 => ?_) (fun c24 => absurd c24 (by omega))
            refine zz_iconst d_MO_escape_105 ?_
            refine ab_putf (fs := mof m_thrown m_taped m_length m_out m_wide m_gathered m_sets m_ranges m_nodes (m_at + 2) m_flags m_fault m_place m_numbered m_depth v20 m_isNot m_least0 m_most0 m_slot m_work m_got m_rowMany m_charAt m_charWide m_trail m_isMatch m_matchGroups m_allFrom m_allBefore m_founds m_pieces m_writtenMany m_templateWide m_tooMuch) f_MO_319 (Or.inl rfl) d_MO_escape_106 h80.2.2 (Nat.le_of_ble_eq_true rfl) (ab_fbz (by decide)) (h80.2.1 (by decide)) ?_
            obtain ⟨G25, eG25⟩ : ∃ z : ab_G, z = List.set G23 80 (ab_ob 12 (mof m_thrown m_taped m_length m_out m_wide m_gathered m_sets m_ranges m_nodes (m_at + 2) m_flags m_fault m_place m_numbered m_depth v20 0 m_least0 m_most0 m_slot m_work m_got m_rowMany m_charAt m_charWide m_trail m_isMatch m_matchGroups m_allFrom m_allBefore m_founds m_pieces m_writtenMany m_templateWide m_tooMuch)) := ⟨_, rfl⟩
            have h84 := h84.keep h80 eG25 (by decide)
            have hlen := (z_len eG25).trans hlen
            have hsl := (z_sl h80 eG25 rfl).trans hsl
            have hfr := hfr.wr h80 eG25 (by decide)
            have h80 := h80.kept eG25
            change ab_W _ _ _ (List.set G23 80 (ab_ob 12 (mof m_thrown m_taped m_length m_out m_wide m_gathered m_sets m_ranges m_nodes (m_at + 2) m_flags m_fault m_place m_numbered m_depth v20 0 m_least0 m_most0 m_slot m_work m_got m_rowMany m_charAt m_charWide m_trail m_isMatch m_matchGroups m_allFrom m_allBefore m_founds m_pieces m_writtenMany m_templateWide m_tooMuch))) 109 [some (vR 80), some (vz ic), some (vz m_at), some (vz (tpk A_tape m_taped (m_at + 1))), none] [] _
            rw [← eG25]
            refine zz_iconst d_MO_escape_109 ?_
            refine zz_iret rfl d_MO_escape_110 ?_
            rw [hQ]; exact (Or.inr (Or.inr (Or.inl ⟨_, _, _, (Int.toNat (v20 + 1)), rfl, hfr, hlen, hsl, h80, (by omega), (by omega), (by exact es_k (w := v20) (by omega) (by omega))⟩)))
          · replace c18 : nzq (tpk A_tape m_taped (m_at + 1)) 115 := c18
            refine ab_iload_n d_MO_escape_62 rfl ?_
            refine zz_bipush d_MO_escape_63 (by decide) ?_
            refine zz_icmp_eq (tgt := 86) d_MO_escape_65 (by decide) (by omega) (by decide) (fun c26 => ?_) (fun c26 => ?_)
            · refine ab_aload_n d_MO_escape_86 rfl ?_
              refine ab_iload_n d_MO_escape_87 rfl ?_
              refine ab_callS (d' := d - 1) (as := [vz (tpk A_tape m_taped (m_at + 1))]) (st := [vR 80]) (z_MO_whichSet (o := o) (c := (tpk A_tape m_taped (m_at + 1))) (by omega)) (fun oc G2 h => by rcases h with ⟨_, h, _⟩ <;> exact ⟨_, h⟩) (by omega) m_MO_whichSet ml_MO_316 st_MO_whichSet (Nat.le_of_ble_eq_true rfl) d_MO_escape_88 rfl ?_
              intro v G27 hq
              rcases hq with ⟨v28, hv, hGe, hq29, hq30⟩
              cases hv
              rw [hGe]
              change ab_W _ _ _ G5 91 [some (vR 80), some (vz ic), some (vz m_at), some (vz (tpk A_tape m_taped (m_at + 1))), none] [vz v28, vR 80] _
              refine ab_putf (fs := mof m_thrown m_taped m_length m_out m_wide m_gathered m_sets m_ranges m_nodes (m_at + 2) m_flags m_fault m_place m_numbered m_depth m_value m_isNot m_least0 m_most0 m_slot m_work m_got m_rowMany m_charAt m_charWide m_trail m_isMatch m_matchGroups m_allFrom m_allBefore m_founds m_pieces m_writtenMany m_templateWide m_tooMuch) f_MO_307 (Or.inl rfl) d_MO_escape_91 h80.2.2 (Nat.le_of_ble_eq_true rfl) (fun _ => ⟨rfl, rfl⟩) (h80.2.1 (by decide)) ?_
              obtain ⟨G31, eG31⟩ : ∃ z : ab_G, z = List.set G5 80 (ab_ob 12 (mof m_thrown m_taped m_length m_out m_wide m_gathered m_sets m_ranges m_nodes (m_at + 2) m_flags m_fault m_place m_numbered m_depth v28 m_isNot m_least0 m_most0 m_slot m_work m_got m_rowMany m_charAt m_charWide m_trail m_isMatch m_matchGroups m_allFrom m_allBefore m_founds m_pieces m_writtenMany m_templateWide m_tooMuch)) := ⟨_, rfl⟩
              have h84 := h84.keep h80 eG31 (by decide)
              have hlen := (z_len eG31).trans hlen
              have hsl := (z_sl h80 eG31 rfl).trans hsl
              have hfr := hfr.wr h80 eG31 (by decide)
              have h80 := h80.kept eG31
              change ab_W _ _ _ (List.set G5 80 (ab_ob 12 (mof m_thrown m_taped m_length m_out m_wide m_gathered m_sets m_ranges m_nodes (m_at + 2) m_flags m_fault m_place m_numbered m_depth v28 m_isNot m_least0 m_most0 m_slot m_work m_got m_rowMany m_charAt m_charWide m_trail m_isMatch m_matchGroups m_allFrom m_allBefore m_founds m_pieces m_writtenMany m_templateWide m_tooMuch))) 94 [some (vR 80), some (vz ic), some (vz m_at), some (vz (tpk A_tape m_taped (m_at + 1))), none] [] _
              rw [← eG31]
              refine ab_aload_n d_MO_escape_94 rfl ?_
              refine ab_iload_n d_MO_escape_95 rfl ?_
              refine zz_bipush d_MO_escape_96 (by decide) ?_
              refine zz_icmp_ge (tgt := 105) d_MO_escape_98 (by decide) (by omega) (by decide) (fun c32 => ?_) (fun c32 => absurd c32 (by omega))
              refine zz_iconst d_MO_escape_105 ?_
              refine ab_putf (fs := mof m_thrown m_taped m_length m_out m_wide m_gathered m_sets m_ranges m_nodes (m_at + 2) m_flags m_fault m_place m_numbered m_depth v28 m_isNot m_least0 m_most0 m_slot m_work m_got m_rowMany m_charAt m_charWide m_trail m_isMatch m_matchGroups m_allFrom m_allBefore m_founds m_pieces m_writtenMany m_templateWide m_tooMuch) f_MO_319 (Or.inl rfl) d_MO_escape_106 h80.2.2 (Nat.le_of_ble_eq_true rfl) (ab_fbz (by decide)) (h80.2.1 (by decide)) ?_
              obtain ⟨G33, eG33⟩ : ∃ z : ab_G, z = List.set G31 80 (ab_ob 12 (mof m_thrown m_taped m_length m_out m_wide m_gathered m_sets m_ranges m_nodes (m_at + 2) m_flags m_fault m_place m_numbered m_depth v28 0 m_least0 m_most0 m_slot m_work m_got m_rowMany m_charAt m_charWide m_trail m_isMatch m_matchGroups m_allFrom m_allBefore m_founds m_pieces m_writtenMany m_templateWide m_tooMuch)) := ⟨_, rfl⟩
              have h84 := h84.keep h80 eG33 (by decide)
              have hlen := (z_len eG33).trans hlen
              have hsl := (z_sl h80 eG33 rfl).trans hsl
              have hfr := hfr.wr h80 eG33 (by decide)
              have h80 := h80.kept eG33
              change ab_W _ _ _ (List.set G31 80 (ab_ob 12 (mof m_thrown m_taped m_length m_out m_wide m_gathered m_sets m_ranges m_nodes (m_at + 2) m_flags m_fault m_place m_numbered m_depth v28 0 m_least0 m_most0 m_slot m_work m_got m_rowMany m_charAt m_charWide m_trail m_isMatch m_matchGroups m_allFrom m_allBefore m_founds m_pieces m_writtenMany m_templateWide m_tooMuch))) 109 [some (vR 80), some (vz ic), some (vz m_at), some (vz (tpk A_tape m_taped (m_at + 1))), none] [] _
              rw [← eG33]
              refine zz_iconst d_MO_escape_109 ?_
              refine zz_iret rfl d_MO_escape_110 ?_
              rw [hQ]; exact (Or.inr (Or.inr (Or.inl ⟨_, _, _, (Int.toNat (v28 + 1)), rfl, hfr, hlen, hsl, h80, (by omega), (by omega), (by exact es_k (w := v28) (by omega) (by omega))⟩)))
            · replace c26 : nzq (tpk A_tape m_taped (m_at + 1)) 119 := c26
              refine ab_iload_n d_MO_escape_68 rfl ?_
              refine zz_bipush d_MO_escape_69 (by decide) ?_
              refine zz_icmp_eq (tgt := 86) d_MO_escape_71 (by decide) (by omega) (by decide) (fun c34 => ?_) (fun c34 => ?_)
              · refine ab_aload_n d_MO_escape_86 rfl ?_
                refine ab_iload_n d_MO_escape_87 rfl ?_
                refine ab_callS (d' := d - 1) (as := [vz (tpk A_tape m_taped (m_at + 1))]) (st := [vR 80]) (z_MO_whichSet (o := o) (c := (tpk A_tape m_taped (m_at + 1))) (by omega)) (fun oc G2 h => by rcases h with ⟨_, h, _⟩ <;> exact ⟨_, h⟩) (by omega) m_MO_whichSet ml_MO_316 st_MO_whichSet (Nat.le_of_ble_eq_true rfl) d_MO_escape_88 rfl ?_
                intro v G35 hq
                rcases hq with ⟨v36, hv, hGe, hq37, hq38⟩
                cases hv
                rw [hGe]
                change ab_W _ _ _ G5 91 [some (vR 80), some (vz ic), some (vz m_at), some (vz (tpk A_tape m_taped (m_at + 1))), none] [vz v36, vR 80] _
                refine ab_putf (fs := mof m_thrown m_taped m_length m_out m_wide m_gathered m_sets m_ranges m_nodes (m_at + 2) m_flags m_fault m_place m_numbered m_depth m_value m_isNot m_least0 m_most0 m_slot m_work m_got m_rowMany m_charAt m_charWide m_trail m_isMatch m_matchGroups m_allFrom m_allBefore m_founds m_pieces m_writtenMany m_templateWide m_tooMuch) f_MO_307 (Or.inl rfl) d_MO_escape_91 h80.2.2 (Nat.le_of_ble_eq_true rfl) (fun _ => ⟨rfl, rfl⟩) (h80.2.1 (by decide)) ?_
                obtain ⟨G39, eG39⟩ : ∃ z : ab_G, z = List.set G5 80 (ab_ob 12 (mof m_thrown m_taped m_length m_out m_wide m_gathered m_sets m_ranges m_nodes (m_at + 2) m_flags m_fault m_place m_numbered m_depth v36 m_isNot m_least0 m_most0 m_slot m_work m_got m_rowMany m_charAt m_charWide m_trail m_isMatch m_matchGroups m_allFrom m_allBefore m_founds m_pieces m_writtenMany m_templateWide m_tooMuch)) := ⟨_, rfl⟩
                have h84 := h84.keep h80 eG39 (by decide)
                have hlen := (z_len eG39).trans hlen
                have hsl := (z_sl h80 eG39 rfl).trans hsl
                have hfr := hfr.wr h80 eG39 (by decide)
                have h80 := h80.kept eG39
                change ab_W _ _ _ (List.set G5 80 (ab_ob 12 (mof m_thrown m_taped m_length m_out m_wide m_gathered m_sets m_ranges m_nodes (m_at + 2) m_flags m_fault m_place m_numbered m_depth v36 m_isNot m_least0 m_most0 m_slot m_work m_got m_rowMany m_charAt m_charWide m_trail m_isMatch m_matchGroups m_allFrom m_allBefore m_founds m_pieces m_writtenMany m_templateWide m_tooMuch))) 94 [some (vR 80), some (vz ic), some (vz m_at), some (vz (tpk A_tape m_taped (m_at + 1))), none] [] _
                rw [← eG39]
                refine ab_aload_n d_MO_escape_94 rfl ?_
                refine ab_iload_n d_MO_escape_95 rfl ?_
                refine zz_bipush d_MO_escape_96 (by decide) ?_
                refine zz_icmp_ge (tgt := 105) d_MO_escape_98 (by decide) (by omega) (by decide) (fun c40 => absurd c40 (by omega)) (fun c40 => ?_)
                refine zz_iconst d_MO_escape_101 ?_
                refine ab_goto (tgt := 106) d_MO_escape_102 (by decide) ?_
                refine ab_putf (fs := mof m_thrown m_taped m_length m_out m_wide m_gathered m_sets m_ranges m_nodes (m_at + 2) m_flags m_fault m_place m_numbered m_depth v36 m_isNot m_least0 m_most0 m_slot m_work m_got m_rowMany m_charAt m_charWide m_trail m_isMatch m_matchGroups m_allFrom m_allBefore m_founds m_pieces m_writtenMany m_templateWide m_tooMuch) f_MO_319 (Or.inl rfl) d_MO_escape_106 h80.2.2 (Nat.le_of_ble_eq_true rfl) (ab_fbz (by decide)) (h80.2.1 (by decide)) ?_
                obtain ⟨G41, eG41⟩ : ∃ z : ab_G, z = List.set G39 80 (ab_ob 12 (mof m_thrown m_taped m_length m_out m_wide m_gathered m_sets m_ranges m_nodes (m_at + 2) m_flags m_fault m_place m_numbered m_depth v36 1 m_least0 m_most0 m_slot m_work m_got m_rowMany m_charAt m_charWide m_trail m_isMatch m_matchGroups m_allFrom m_allBefore m_founds m_pieces m_writtenMany m_templateWide m_tooMuch)) := ⟨_, rfl⟩
                have h84 := h84.keep h80 eG41 (by decide)
                have hlen := (z_len eG41).trans hlen
                have hsl := (z_sl h80 eG41 rfl).trans hsl
                have hfr := hfr.wr h80 eG41 (by decide)
                have h80 := h80.kept eG41
                change ab_W _ _ _ (List.set G39 80 (ab_ob 12 (mof m_thrown m_taped m_length m_out m_wide m_gathered m_sets m_ranges m_nodes (m_at + 2) m_flags m_fault m_place m_numbered m_depth v36 1 m_least0 m_most0 m_slot m_work m_got m_rowMany m_charAt m_charWide m_trail m_isMatch m_matchGroups m_allFrom m_allBefore m_founds m_pieces m_writtenMany m_templateWide m_tooMuch))) 109 [some (vR 80), some (vz ic), some (vz m_at), some (vz (tpk A_tape m_taped (m_at + 1))), none] [] _
                rw [← eG41]
                refine zz_iconst d_MO_escape_109 ?_
                refine zz_iret rfl d_MO_escape_110 ?_
                rw [hQ]; exact (Or.inr (Or.inr (Or.inl ⟨_, _, _, (Int.toNat (v36 + 1)), rfl, hfr, hlen, hsl, h80, (by omega), (by omega), (by exact es_k (w := v36) (by omega) (by omega))⟩)))
              · replace c34 : nzq (tpk A_tape m_taped (m_at + 1)) 68 := c34
                refine ab_iload_n d_MO_escape_74 rfl ?_
                refine zz_bipush d_MO_escape_75 (by decide) ?_
                refine zz_icmp_eq (tgt := 86) d_MO_escape_77 (by decide) (by omega) (by decide) (fun c42 => ?_) (fun c42 => ?_)
                · refine ab_aload_n d_MO_escape_86 rfl ?_
                  refine ab_iload_n d_MO_escape_87 rfl ?_
                  refine ab_callS (d' := d - 1) (as := [vz (tpk A_tape m_taped (m_at + 1))]) (st := [vR 80]) (z_MO_whichSet (o := o) (c := (tpk A_tape m_taped (m_at + 1))) (by omega)) (fun oc G2 h => by rcases h with ⟨_, h, _⟩ <;> exact ⟨_, h⟩) (by omega) m_MO_whichSet ml_MO_316 st_MO_whichSet (Nat.le_of_ble_eq_true rfl) d_MO_escape_88 rfl ?_
                  intro v G43 hq
                  rcases hq with ⟨v44, hv, hGe, hq45, hq46⟩
                  cases hv
                  rw [hGe]
                  change ab_W _ _ _ G5 91 [some (vR 80), some (vz ic), some (vz m_at), some (vz (tpk A_tape m_taped (m_at + 1))), none] [vz v44, vR 80] _
                  refine ab_putf (fs := mof m_thrown m_taped m_length m_out m_wide m_gathered m_sets m_ranges m_nodes (m_at + 2) m_flags m_fault m_place m_numbered m_depth m_value m_isNot m_least0 m_most0 m_slot m_work m_got m_rowMany m_charAt m_charWide m_trail m_isMatch m_matchGroups m_allFrom m_allBefore m_founds m_pieces m_writtenMany m_templateWide m_tooMuch) f_MO_307 (Or.inl rfl) d_MO_escape_91 h80.2.2 (Nat.le_of_ble_eq_true rfl) (fun _ => ⟨rfl, rfl⟩) (h80.2.1 (by decide)) ?_
                  obtain ⟨G47, eG47⟩ : ∃ z : ab_G, z = List.set G5 80 (ab_ob 12 (mof m_thrown m_taped m_length m_out m_wide m_gathered m_sets m_ranges m_nodes (m_at + 2) m_flags m_fault m_place m_numbered m_depth v44 m_isNot m_least0 m_most0 m_slot m_work m_got m_rowMany m_charAt m_charWide m_trail m_isMatch m_matchGroups m_allFrom m_allBefore m_founds m_pieces m_writtenMany m_templateWide m_tooMuch)) := ⟨_, rfl⟩
                  have h84 := h84.keep h80 eG47 (by decide)
                  have hlen := (z_len eG47).trans hlen
                  have hsl := (z_sl h80 eG47 rfl).trans hsl
                  have hfr := hfr.wr h80 eG47 (by decide)
                  have h80 := h80.kept eG47
                  change ab_W _ _ _ (List.set G5 80 (ab_ob 12 (mof m_thrown m_taped m_length m_out m_wide m_gathered m_sets m_ranges m_nodes (m_at + 2) m_flags m_fault m_place m_numbered m_depth v44 m_isNot m_least0 m_most0 m_slot m_work m_got m_rowMany m_charAt m_charWide m_trail m_isMatch m_matchGroups m_allFrom m_allBefore m_founds m_pieces m_writtenMany m_templateWide m_tooMuch))) 94 [some (vR 80), some (vz ic), some (vz m_at), some (vz (tpk A_tape m_taped (m_at + 1))), none] [] _
                  rw [← eG47]
                  refine ab_aload_n d_MO_escape_94 rfl ?_
                  refine ab_iload_n d_MO_escape_95 rfl ?_
                  refine zz_bipush d_MO_escape_96 (by decide) ?_
                  refine zz_icmp_ge (tgt := 105) d_MO_escape_98 (by decide) (by omega) (by decide) (fun c48 => absurd c48 (by omega)) (fun c48 => ?_)
                  refine zz_iconst d_MO_escape_101 ?_
                  refine ab_goto (tgt := 106) d_MO_escape_102 (by decide) ?_
                  refine ab_putf (fs := mof m_thrown m_taped m_length m_out m_wide m_gathered m_sets m_ranges m_nodes (m_at + 2) m_flags m_fault m_place m_numbered m_depth v44 m_isNot m_least0 m_most0 m_slot m_work m_got m_rowMany m_charAt m_charWide m_trail m_isMatch m_matchGroups m_allFrom m_allBefore m_founds m_pieces m_writtenMany m_templateWide m_tooMuch) f_MO_319 (Or.inl rfl) d_MO_escape_106 h80.2.2 (Nat.le_of_ble_eq_true rfl) (ab_fbz (by decide)) (h80.2.1 (by decide)) ?_
                  obtain ⟨G49, eG49⟩ : ∃ z : ab_G, z = List.set G47 80 (ab_ob 12 (mof m_thrown m_taped m_length m_out m_wide m_gathered m_sets m_ranges m_nodes (m_at + 2) m_flags m_fault m_place m_numbered m_depth v44 1 m_least0 m_most0 m_slot m_work m_got m_rowMany m_charAt m_charWide m_trail m_isMatch m_matchGroups m_allFrom m_allBefore m_founds m_pieces m_writtenMany m_templateWide m_tooMuch)) := ⟨_, rfl⟩
                  have h84 := h84.keep h80 eG49 (by decide)
                  have hlen := (z_len eG49).trans hlen
                  have hsl := (z_sl h80 eG49 rfl).trans hsl
                  have hfr := hfr.wr h80 eG49 (by decide)
                  have h80 := h80.kept eG49
                  change ab_W _ _ _ (List.set G47 80 (ab_ob 12 (mof m_thrown m_taped m_length m_out m_wide m_gathered m_sets m_ranges m_nodes (m_at + 2) m_flags m_fault m_place m_numbered m_depth v44 1 m_least0 m_most0 m_slot m_work m_got m_rowMany m_charAt m_charWide m_trail m_isMatch m_matchGroups m_allFrom m_allBefore m_founds m_pieces m_writtenMany m_templateWide m_tooMuch))) 109 [some (vR 80), some (vz ic), some (vz m_at), some (vz (tpk A_tape m_taped (m_at + 1))), none] [] _
                  rw [← eG49]
                  refine zz_iconst d_MO_escape_109 ?_
                  refine zz_iret rfl d_MO_escape_110 ?_
                  rw [hQ]; exact (Or.inr (Or.inr (Or.inl ⟨_, _, _, (Int.toNat (v44 + 1)), rfl, hfr, hlen, hsl, h80, (by omega), (by omega), (by exact es_k (w := v44) (by omega) (by omega))⟩)))
                · replace c42 : nzq (tpk A_tape m_taped (m_at + 1)) 83 := c42
                  refine ab_iload_n d_MO_escape_80 rfl ?_
                  refine zz_bipush d_MO_escape_81 (by decide) ?_
                  refine zz_icmp_ne (tgt := 111) d_MO_escape_83 (by decide) (by omega) (by decide) (fun c50 => ?_) (fun c50 => ?_)
                  · replace c50 : nzq (tpk A_tape m_taped (m_at + 1)) 87 := c50
                    refine ab_iload_n d_MO_escape_111 rfl ?_
                    refine zz_bipush d_MO_escape_112 (by decide) ?_
                    refine zz_icmp_eq (tgt := 123) d_MO_escape_114 (by decide) (by omega) (by decide) (fun c51 => ?_) (fun c51 => ?_)
                    · refine ab_aload_n d_MO_escape_123 rfl ?_
                      refine zz_iconst d_MO_escape_124 ?_
                      refine ab_callV (d' := d - 1) (as := [vz 0]) (st := []) (r := _) (z_MO_here (o := o) (m_thrown := m_thrown) (m_taped := m_taped) (m_length := m_length) (m_out := m_out) (m_wide := m_wide) (m_gathered := m_gathered) (m_sets := m_sets) (m_ranges := m_ranges) (m_nodes := m_nodes) (m_at := (m_at + 2)) (m_flags := m_flags) (m_fault := m_fault) (m_place := m_place) (m_numbered := m_numbered) (m_depth := m_depth) (m_value := m_value) (m_isNot := m_isNot) (m_least0 := m_least0) (m_most0 := m_most0) (m_slot := m_slot) (m_work := m_work) (m_got := m_got) (m_rowMany := m_rowMany) (m_charAt := m_charAt) (m_charWide := m_charWide) (m_trail := m_trail) (m_isMatch := m_isMatch) (m_matchGroups := m_matchGroups) (m_allFrom := m_allFrom) (m_allBefore := m_allBefore) (m_founds := m_founds) (m_pieces := m_pieces) (m_writtenMany := m_writtenMany) (m_templateWide := m_templateWide) (m_tooMuch := m_tooMuch) (A_tape := A_tape) (k := 0) (qh := (m_at + 2)) h80 h84 (by omega) (by omega) jtp (by omega) (by omega)) (fun oc G2 h => by rcases h with ⟨h, _⟩ | ⟨h, _⟩ <;> exact ⟨_, h⟩) (by omega) m_MO_here ml_MO_297 im_MO_here se_MO_here c_MO h80.2.2 (Nat.le_of_ble_eq_true rfl) d_MO_escape_125 rfl ?_
                      intro v G52 hq
                      rcases hq with ⟨hv, hGe, hq53⟩ | ⟨hv, hGe, hq54, hq55⟩
                      · cases hv
                        rw [hGe]
                        change ab_W _ _ _ G5 128 [some (vR 80), some (vz ic), some (vz m_at), some (vz (tpk A_tape m_taped (m_at + 1))), none] [vz (tpk A_tape m_taped (m_at + 2))] _
                        refine ab_istore d_MO_escape_128 (Nat.le_of_ble_eq_true rfl) (Nat.le_of_ble_eq_true rfl) rfl ?_
                        change ab_W _ _ _ G5 130 [some (vR 80), some (vz ic), some (vz m_at), some (vz (tpk A_tape m_taped (m_at + 1))), some (vz (tpk A_tape m_taped (m_at + 2)))] [] _
                        refine ab_iload d_MO_escape_130 rfl ?_
                        refine zz_if_ge (tgt := 144) d_MO_escape_132 (by decide) (by omega) (fun c56 => ?_) (fun c56 => absurd c56 (by omega))
                        refine ab_iload d_MO_escape_144 rfl ?_
                        refine ab_callS (d' := d - 1) (as := [vz (tpk A_tape m_taped (m_at + 2))]) (st := []) (z_MO_whichLetter (o := o) (c := (tpk A_tape m_taped (m_at + 2))) (by omega)) (fun oc G2 h => by rcases h with ⟨h, _⟩ <;> exact ⟨_, h⟩) (by omega) m_MO_whichLetter ml_MO_323 st_MO_whichLetter (Nat.le_of_ble_eq_true rfl) d_MO_escape_146 rfl ?_
                        intro v G57 hq
                        rcases hq with ⟨hv, hGe, hq58⟩
                        cases hv
                        rw [hGe]
                        change ab_W _ _ _ G5 149 [some (vR 80), some (vz ic), some (vz m_at), some (vz (tpk A_tape m_taped (m_at + 1))), some (vz (tpk A_tape m_taped (m_at + 2)))] [vz (wlf (tpk A_tape m_taped (m_at + 2)))] _
                        refine zz_if_ge (tgt := 159) d_MO_escape_149 (by decide) (by omega) (fun c59 => ?_) (fun c59 => ?_)
                        · refine ab_aload_n d_MO_escape_159 rfl ?_
                          refine ab_getf (fs := mof m_thrown m_taped m_length m_out m_wide m_gathered m_sets m_ranges m_nodes (m_at + 2) m_flags m_fault m_place m_numbered m_depth m_value m_isNot m_least0 m_most0 m_slot m_work m_got m_rowMany m_charAt m_charWide m_trail m_isMatch m_matchGroups m_allFrom m_allBefore m_founds m_pieces m_writtenMany m_templateWide m_tooMuch) f_MO_273 d_MO_escape_160 h80.2.2 rfl ?_
                          refine zz_if_le (tgt := 168) d_MO_escape_163 (by decide) (by omega) (fun c60 => ?_) (fun c60 => absurd c60 (by omega))
                          have hwl_ := wlf_0 (c := (tpk A_tape m_taped (m_at + 2))) (by omega)
                          refine ab_aload_n d_MO_escape_168 rfl ?_
                          refine ab_iload d_MO_escape_169 rfl ?_
                          refine ab_callS (d' := d - 1) (as := [vz (tpk A_tape m_taped (m_at + 2))]) (st := [vR 80]) (z_MO_whichLetter (o := o) (c := (tpk A_tape m_taped (m_at + 2))) (by omega)) (fun oc G2 h => by rcases h with ⟨h, _⟩ <;> exact ⟨_, h⟩) (by omega) m_MO_whichLetter ml_MO_323 st_MO_whichLetter (Nat.le_of_ble_eq_true rfl) d_MO_escape_171 rfl ?_
                          intro v G61 hq
                          rcases hq with ⟨hv, hGe, hq62⟩
                          cases hv
                          rw [hGe]
                          change ab_W _ _ _ G5 174 [some (vR 80), some (vz ic), some (vz m_at), some (vz (tpk A_tape m_taped (m_at + 1))), some (vz (tpk A_tape m_taped (m_at + 2)))] [vz (wlf (tpk A_tape m_taped (m_at + 2))), vR 80] _
                          refine ab_putf (fs := mof m_thrown m_taped m_length m_out m_wide m_gathered m_sets m_ranges m_nodes (m_at + 2) m_flags m_fault m_place m_numbered m_depth m_value m_isNot m_least0 m_most0 m_slot m_work m_got m_rowMany m_charAt m_charWide m_trail m_isMatch m_matchGroups m_allFrom m_allBefore m_founds m_pieces m_writtenMany m_templateWide m_tooMuch) f_MO_307 (Or.inl rfl) d_MO_escape_174 h80.2.2 (Nat.le_of_ble_eq_true rfl) (fun _ => ⟨rfl, rfl⟩) (h80.2.1 (by decide)) ?_
                          obtain ⟨G63, eG63⟩ : ∃ z : ab_G, z = List.set G5 80 (ab_ob 12 (mof m_thrown m_taped m_length m_out m_wide m_gathered m_sets m_ranges m_nodes (m_at + 2) m_flags m_fault m_place m_numbered m_depth (wlf (tpk A_tape m_taped (m_at + 2))) m_isNot m_least0 m_most0 m_slot m_work m_got m_rowMany m_charAt m_charWide m_trail m_isMatch m_matchGroups m_allFrom m_allBefore m_founds m_pieces m_writtenMany m_templateWide m_tooMuch)) := ⟨_, rfl⟩
                          have h84 := h84.keep h80 eG63 (by decide)
                          have hlen := (z_len eG63).trans hlen
                          have hsl := (z_sl h80 eG63 rfl).trans hsl
                          have hfr := hfr.wr h80 eG63 (by decide)
                          have h80 := h80.kept eG63
                          change ab_W _ _ _ (List.set G5 80 (ab_ob 12 (mof m_thrown m_taped m_length m_out m_wide m_gathered m_sets m_ranges m_nodes (m_at + 2) m_flags m_fault m_place m_numbered m_depth (wlf (tpk A_tape m_taped (m_at + 2))) m_isNot m_least0 m_most0 m_slot m_work m_got m_rowMany m_charAt m_charWide m_trail m_isMatch m_matchGroups m_allFrom m_allBefore m_founds m_pieces m_writtenMany m_templateWide m_tooMuch))) 177 [some (vR 80), some (vz ic), some (vz m_at), some (vz (tpk A_tape m_taped (m_at + 1))), some (vz (tpk A_tape m_taped (m_at + 2)))] [] _
                          rw [← eG63]
                          refine ab_aload_n d_MO_escape_177 rfl ?_
                          refine ab_iload_n d_MO_escape_178 rfl ?_
                          refine zz_bipush d_MO_escape_179 (by decide) ?_
                          refine zz_icmp_ne (tgt := 188) d_MO_escape_181 (by decide) (by omega) (by decide) (fun c64 => ?_) (fun c64 => absurd c64 (by omega))
                          refine zz_iconst d_MO_escape_188 ?_
                          refine ab_putf (fs := mof m_thrown m_taped m_length m_out m_wide m_gathered m_sets m_ranges m_nodes (m_at + 2) m_flags m_fault m_place m_numbered m_depth (wlf (tpk A_tape m_taped (m_at + 2))) m_isNot m_least0 m_most0 m_slot m_work m_got m_rowMany m_charAt m_charWide m_trail m_isMatch m_matchGroups m_allFrom m_allBefore m_founds m_pieces m_writtenMany m_templateWide m_tooMuch) f_MO_319 (Or.inl rfl) d_MO_escape_189 h80.2.2 (Nat.le_of_ble_eq_true rfl) (ab_fbz (by decide)) (h80.2.1 (by decide)) ?_
                          obtain ⟨G65, eG65⟩ : ∃ z : ab_G, z = List.set G63 80 (ab_ob 12 (mof m_thrown m_taped m_length m_out m_wide m_gathered m_sets m_ranges m_nodes (m_at + 2) m_flags m_fault m_place m_numbered m_depth (wlf (tpk A_tape m_taped (m_at + 2))) 0 m_least0 m_most0 m_slot m_work m_got m_rowMany m_charAt m_charWide m_trail m_isMatch m_matchGroups m_allFrom m_allBefore m_founds m_pieces m_writtenMany m_templateWide m_tooMuch)) := ⟨_, rfl⟩
                          have h84 := h84.keep h80 eG65 (by decide)
                          have hlen := (z_len eG65).trans hlen
                          have hsl := (z_sl h80 eG65 rfl).trans hsl
                          have hfr := hfr.wr h80 eG65 (by decide)
                          have h80 := h80.kept eG65
                          change ab_W _ _ _ (List.set G63 80 (ab_ob 12 (mof m_thrown m_taped m_length m_out m_wide m_gathered m_sets m_ranges m_nodes (m_at + 2) m_flags m_fault m_place m_numbered m_depth (wlf (tpk A_tape m_taped (m_at + 2))) 0 m_least0 m_most0 m_slot m_work m_got m_rowMany m_charAt m_charWide m_trail m_isMatch m_matchGroups m_allFrom m_allBefore m_founds m_pieces m_writtenMany m_templateWide m_tooMuch))) 192 [some (vR 80), some (vz ic), some (vz m_at), some (vz (tpk A_tape m_taped (m_at + 1))), some (vz (tpk A_tape m_taped (m_at + 2)))] [] _
                          rw [← eG65]
                          refine ab_aload_n d_MO_escape_192 rfl ?_
                          refine ab_dup d_MO_escape_193 rfl ?_
                          refine ab_getf (fs := mof m_thrown m_taped m_length m_out m_wide m_gathered m_sets m_ranges m_nodes (m_at + 2) m_flags m_fault m_place m_numbered m_depth (wlf (tpk A_tape m_taped (m_at + 2))) 0 m_least0 m_most0 m_slot m_work m_got m_rowMany m_charAt m_charWide m_trail m_isMatch m_matchGroups m_allFrom m_allBefore m_founds m_pieces m_writtenMany m_templateWide m_tooMuch) f_MO_279 d_MO_escape_194 h80.2.2 rfl ?_
                          refine zz_iconst d_MO_escape_197 ?_
                          refine zz_iadd d_MO_escape_198 ?_
                          refine ab_putf (fs := mof m_thrown m_taped m_length m_out m_wide m_gathered m_sets m_ranges m_nodes (m_at + 2) m_flags m_fault m_place m_numbered m_depth (wlf (tpk A_tape m_taped (m_at + 2))) 0 m_least0 m_most0 m_slot m_work m_got m_rowMany m_charAt m_charWide m_trail m_isMatch m_matchGroups m_allFrom m_allBefore m_founds m_pieces m_writtenMany m_templateWide m_tooMuch) f_MO_279 (Or.inl rfl) d_MO_escape_199 h80.2.2 (Nat.le_of_ble_eq_true rfl) (fun _ => ⟨rfl, rfl⟩) (h80.2.1 (by decide)) ?_
                          obtain ⟨G66, eG66⟩ : ∃ z : ab_G, z = List.set G65 80 (ab_ob 12 (mof m_thrown m_taped m_length m_out m_wide m_gathered m_sets m_ranges m_nodes ((m_at + 2) + 1) m_flags m_fault m_place m_numbered m_depth (wlf (tpk A_tape m_taped (m_at + 2))) 0 m_least0 m_most0 m_slot m_work m_got m_rowMany m_charAt m_charWide m_trail m_isMatch m_matchGroups m_allFrom m_allBefore m_founds m_pieces m_writtenMany m_templateWide m_tooMuch)) := ⟨_, rfl⟩
                          have h84 := h84.keep h80 eG66 (by decide)
                          have hlen := (z_len eG66).trans hlen
                          have hsl := (z_sl h80 eG66 rfl).trans hsl
                          have hfr := hfr.wr h80 eG66 (by decide)
                          have h80 := h80.kept eG66
                          change ab_W _ _ _ (List.set G65 80 (ab_ob 12 (mof m_thrown m_taped m_length m_out m_wide m_gathered m_sets m_ranges m_nodes ((m_at + 2) + 1) m_flags m_fault m_place m_numbered m_depth (wlf (tpk A_tape m_taped (m_at + 2))) 0 m_least0 m_most0 m_slot m_work m_got m_rowMany m_charAt m_charWide m_trail m_isMatch m_matchGroups m_allFrom m_allBefore m_founds m_pieces m_writtenMany m_templateWide m_tooMuch))) 202 [some (vR 80), some (vz ic), some (vz m_at), some (vz (tpk A_tape m_taped (m_at + 1))), some (vz (tpk A_tape m_taped (m_at + 2)))] [] _
                          rw [← eG66]
                          refine zz_iconst d_MO_escape_202 ?_
                          refine zz_iret rfl d_MO_escape_203 ?_
                          rw [hQ]; exact (Or.inr (Or.inr (Or.inl ⟨_, _, _, (Int.toNat ((wlf (tpk A_tape m_taped (m_at + 2))) + 1)), rfl, hfr, hlen, hsl, h80, (by omega), (by omega), (by rw [show ((m_at + 2) + 1) = (m_at + 3) by omega]; exact es_p (by omega) (by omega) (by omega))⟩)))
                        · refine ab_aload_n d_MO_escape_152 rfl ?_
                          refine zz_bipush d_MO_escape_153 (by decide) ?_
                          refine ab_iload_n d_MO_escape_155 rfl ?_
                          refine ab_callV (d' := d - 1) (as := [vz 7, vz m_at]) (st := []) (r := _) (z_MO_wrong (o := o) (m_thrown := m_thrown) (m_taped := m_taped) (m_length := m_length) (m_out := m_out) (m_wide := m_wide) (m_gathered := m_gathered) (m_sets := m_sets) (m_ranges := m_ranges) (m_nodes := m_nodes) (m_at := (m_at + 2)) (m_flags := m_flags) (m_fault := m_fault) (m_place := m_place) (m_numbered := m_numbered) (m_depth := m_depth) (m_value := m_value) (m_isNot := m_isNot) (m_least0 := m_least0) (m_most0 := m_most0) (m_slot := m_slot) (m_work := m_work) (m_got := m_got) (m_rowMany := m_rowMany) (m_charAt := m_charAt) (m_charWide := m_charWide) (m_trail := m_trail) (m_isMatch := m_isMatch) (m_matchGroups := m_matchGroups) (m_allFrom := m_allFrom) (m_allBefore := m_allBefore) (m_founds := m_founds) (m_pieces := m_pieces) (m_writtenMany := m_writtenMany) (m_templateWide := m_templateWide) (m_tooMuch := m_tooMuch) (x := 7) (y := m_at) h80 (by omega) (by omega)) (fun oc G2 h => by rcases h with ⟨h, _⟩ | ⟨h, _⟩ <;> exact ⟨_, h⟩) (by omega) m_MO_wrong ml_MO_304 im_MO_wrong se_MO_wrong c_MO h80.2.2 (Nat.le_of_ble_eq_true rfl) d_MO_escape_156 rfl ?_
                          intro v G67 hq
                          rcases hq with ⟨hv, hfk, hlk, hsk, hN80, hq68⟩ | ⟨hv, hGe, hq69⟩
                          · cases hv
                            have h84 := hfk.get h84 (by decide)
                            have hfr := hfr.tr hfk (by decide)
                            have hlen := hlk.trans hlen
                            have hsl := hsk.trans hsl
                            have h80 := hN80
                            change ab_W _ _ _ G67 159 [some (vR 80), some (vz ic), some (vz m_at), some (vz (tpk A_tape m_taped (m_at + 1))), some (vz (tpk A_tape m_taped (m_at + 2)))] [] _
                            refine ab_aload_n d_MO_escape_159 rfl ?_
                            refine ab_getf (fs := mof m_thrown m_taped m_length m_out m_wide m_gathered m_sets m_ranges m_nodes (m_at + 2) m_flags 7 m_at m_numbered m_depth m_value m_isNot m_least0 m_most0 m_slot m_work m_got m_rowMany m_charAt m_charWide m_trail m_isMatch m_matchGroups m_allFrom m_allBefore m_founds m_pieces m_writtenMany m_templateWide m_tooMuch) f_MO_273 d_MO_escape_160 h80.2.2 rfl ?_
                            refine zz_if_le (tgt := 168) d_MO_escape_163 (by decide) (by decide) (fun c70 => absurd c70 (by decide)) (fun c70 => ?_)
                            refine zz_iconst d_MO_escape_166 ?_
                            refine zz_iret rfl d_MO_escape_167 ?_
                            rw [hQ]; exact (Or.inl ⟨_, _, _, rfl, hfr, hlen, hsl, h80, (by omega), (by omega), (by exact eb_p7 (by omega) (by omega) (by omega))⟩)
                          · cases hv
                            rw [hGe]
                            change ab_W _ _ _ G5 159 [some (vR 80), some (vz ic), some (vz m_at), some (vz (tpk A_tape m_taped (m_at + 1))), some (vz (tpk A_tape m_taped (m_at + 2)))] [] _
                            exfalso; omega
                      · cases hv
                        rw [hGe]
                        change ab_W _ _ _ G5 128 [some (vR 80), some (vz ic), some (vz m_at), some (vz (tpk A_tape m_taped (m_at + 1))), none] [vz (-1)] _
                        refine ab_istore d_MO_escape_128 (Nat.le_of_ble_eq_true rfl) (Nat.le_of_ble_eq_true rfl) rfl ?_
                        change ab_W _ _ _ G5 130 [some (vR 80), some (vz ic), some (vz m_at), some (vz (tpk A_tape m_taped (m_at + 1))), some (vz (-1))] [] _
                        refine ab_iload d_MO_escape_130 rfl ?_
                        refine zz_if_ge (tgt := 144) d_MO_escape_132 (by decide) (by decide) (fun c71 => absurd c71 (by decide)) (fun c71 => ?_)
                        refine ab_aload_n d_MO_escape_135 rfl ?_
                        refine zz_iconst d_MO_escape_136 ?_
                        refine ab_iload_n d_MO_escape_137 rfl ?_
                        refine ab_callV (d' := d - 1) (as := [vz 5, vz m_at]) (st := []) (r := _) (z_MO_wrong (o := o) (m_thrown := m_thrown) (m_taped := m_taped) (m_length := m_length) (m_out := m_out) (m_wide := m_wide) (m_gathered := m_gathered) (m_sets := m_sets) (m_ranges := m_ranges) (m_nodes := m_nodes) (m_at := (m_at + 2)) (m_flags := m_flags) (m_fault := m_fault) (m_place := m_place) (m_numbered := m_numbered) (m_depth := m_depth) (m_value := m_value) (m_isNot := m_isNot) (m_least0 := m_least0) (m_most0 := m_most0) (m_slot := m_slot) (m_work := m_work) (m_got := m_got) (m_rowMany := m_rowMany) (m_charAt := m_charAt) (m_charWide := m_charWide) (m_trail := m_trail) (m_isMatch := m_isMatch) (m_matchGroups := m_matchGroups) (m_allFrom := m_allFrom) (m_allBefore := m_allBefore) (m_founds := m_founds) (m_pieces := m_pieces) (m_writtenMany := m_writtenMany) (m_templateWide := m_templateWide) (m_tooMuch := m_tooMuch) (x := 5) (y := m_at) h80 (by omega) (by omega)) (fun oc G2 h => by rcases h with ⟨h, _⟩ | ⟨h, _⟩ <;> exact ⟨_, h⟩) (by omega) m_MO_wrong ml_MO_304 im_MO_wrong se_MO_wrong c_MO h80.2.2 (Nat.le_of_ble_eq_true rfl) d_MO_escape_138 rfl ?_
                        intro v G72 hq
                        rcases hq with ⟨hv, hfk, hlk, hsk, hN80, hq73⟩ | ⟨hv, hGe, hq74⟩
                        · cases hv
                          have h84 := hfk.get h84 (by decide)
                          have hfr := hfr.tr hfk (by decide)
                          have hlen := hlk.trans hlen
                          have hsl := hsk.trans hsl
                          have h80 := hN80
                          change ab_W _ _ _ G72 141 [some (vR 80), some (vz ic), some (vz m_at), some (vz (tpk A_tape m_taped (m_at + 1))), some (vz (-1))] [] _
                          refine ab_goto (tgt := 159) d_MO_escape_141 (by decide) ?_
                          refine ab_aload_n d_MO_escape_159 rfl ?_
                          refine ab_getf (fs := mof m_thrown m_taped m_length m_out m_wide m_gathered m_sets m_ranges m_nodes (m_at + 2) m_flags 5 m_at m_numbered m_depth m_value m_isNot m_least0 m_most0 m_slot m_work m_got m_rowMany m_charAt m_charWide m_trail m_isMatch m_matchGroups m_allFrom m_allBefore m_founds m_pieces m_writtenMany m_templateWide m_tooMuch) f_MO_273 d_MO_escape_160 h80.2.2 rfl ?_
                          refine zz_if_le (tgt := 168) d_MO_escape_163 (by decide) (by decide) (fun c75 => absurd c75 (by decide)) (fun c75 => ?_)
                          refine zz_iconst d_MO_escape_166 ?_
                          refine zz_iret rfl d_MO_escape_167 ?_
                          rw [hQ]; exact (Or.inl ⟨_, _, _, rfl, hfr, hlen, hsl, h80, (by omega), (by omega), (by exact eb_p5 (by omega) (by omega))⟩)
                        · cases hv
                          rw [hGe]
                          change ab_W _ _ _ G5 141 [some (vR 80), some (vz ic), some (vz m_at), some (vz (tpk A_tape m_taped (m_at + 1))), some (vz (-1))] [] _
                          exfalso; omega
                    · replace c51 : nzq (tpk A_tape m_taped (m_at + 1)) 112 := c51
                      refine ab_iload_n d_MO_escape_117 rfl ?_
                      refine zz_bipush d_MO_escape_118 (by decide) ?_
                      refine zz_icmp_ne (tgt := 204) d_MO_escape_120 (by decide) (by omega) (by decide) (fun c76 => ?_) (fun c76 => ?_)
                      · replace c76 : nzq (tpk A_tape m_taped (m_at + 1)) 80 := c76
                        refine ab_iload_n d_MO_escape_204 rfl ?_
                        refine zz_if_ne (tgt := 269) d_MO_escape_205 (by decide) (by omega) (fun c77 => ?_) (fun c77 => ?_)
                        · replace c77 : nzq ic 0 := c77
                          refine ab_iload_n d_MO_escape_269 rfl ?_
                          refine zz_if_ne (tgt := 281) d_MO_escape_270 (by decide) (by omega) (fun c78 => ?_) (fun c78 => ?_)
                          · replace c78 : nzq ic 0 := c78
                            refine ab_iload_n d_MO_escape_281 rfl ?_
                            refine zz_if_lt (tgt := 298) d_MO_escape_282 (by decide) (by omega) (fun c79 => absurd c79 (by omega)) (fun c79 => ?_)
                            refine ab_iload_n d_MO_escape_285 rfl ?_
                            refine zz_bipush d_MO_escape_286 (by decide) ?_
                            refine zz_icmp_gt (tgt := 298) d_MO_escape_288 (by decide) (by omega) (by decide) (fun c80 => ?_) (fun c80 => ?_)
                            · refine ab_aload_n d_MO_escape_298 rfl ?_
                              refine zz_iconst d_MO_escape_299 ?_
                              refine ab_iload_n d_MO_escape_300 rfl ?_
                              refine ab_callV (d' := d - 1) (as := [vz 5, vz m_at]) (st := []) (r := _) (z_MO_wrong (o := o) (m_thrown := m_thrown) (m_taped := m_taped) (m_length := m_length) (m_out := m_out) (m_wide := m_wide) (m_gathered := m_gathered) (m_sets := m_sets) (m_ranges := m_ranges) (m_nodes := m_nodes) (m_at := (m_at + 2)) (m_flags := m_flags) (m_fault := m_fault) (m_place := m_place) (m_numbered := m_numbered) (m_depth := m_depth) (m_value := m_value) (m_isNot := m_isNot) (m_least0 := m_least0) (m_most0 := m_most0) (m_slot := m_slot) (m_work := m_work) (m_got := m_got) (m_rowMany := m_rowMany) (m_charAt := m_charAt) (m_charWide := m_charWide) (m_trail := m_trail) (m_isMatch := m_isMatch) (m_matchGroups := m_matchGroups) (m_allFrom := m_allFrom) (m_allBefore := m_allBefore) (m_founds := m_founds) (m_pieces := m_pieces) (m_writtenMany := m_writtenMany) (m_templateWide := m_templateWide) (m_tooMuch := m_tooMuch) (x := 5) (y := m_at) h80 (by omega) (by omega)) (fun oc G2 h => by rcases h with ⟨h, _⟩ | ⟨h, _⟩ <;> exact ⟨_, h⟩) (by omega) m_MO_wrong ml_MO_304 im_MO_wrong se_MO_wrong c_MO h80.2.2 (Nat.le_of_ble_eq_true rfl) d_MO_escape_301 rfl ?_
                              intro v G81 hq
                              rcases hq with ⟨hv, hfk, hlk, hsk, hN80, hq82⟩ | ⟨hv, hGe, hq83⟩
                              · cases hv
                                have h84 := hfk.get h84 (by decide)
                                have hfr := hfr.tr hfk (by decide)
                                have hlen := hlk.trans hlen
                                have hsl := hsk.trans hsl
                                have h80 := hN80
                                change ab_W _ _ _ G81 304 [some (vR 80), some (vz ic), some (vz m_at), some (vz (tpk A_tape m_taped (m_at + 1))), none] [] _
                                refine zz_iconst d_MO_escape_304 ?_
                                refine zz_iret rfl d_MO_escape_305 ?_
                                rw [hQ]; exact (Or.inl ⟨_, _, _, rfl, hfr, hlen, hsl, h80, (by omega), (by omega), (by exact eb_5 c6 (by omega) (fun z => by rcases z with z | z | z | z | z | z; (exact c10 z); (exact c34 z); (exact c18 z); (exact c42 z); (exact c26 z); (exact c50 z)) c51 c76 (Or.inr (by have t_ := c78; unfold nzq at t_; omega)) (by first | (left; omega) | (right; left; omega)))⟩)
                              · cases hv
                                rw [hGe]
                                change ab_W _ _ _ G5 304 [some (vR 80), some (vz ic), some (vz m_at), some (vz (tpk A_tape m_taped (m_at + 1))), none] [] _
                                exfalso; omega
                            · refine ab_iload_n d_MO_escape_291 rfl ?_
                              refine ab_callS (d' := d - 1) (as := [vz (tpk A_tape m_taped (m_at + 1))]) (st := []) (z_MO_isWord (o := o) (x := (tpk A_tape m_taped (m_at + 1))) (by omega)) (fun oc G2 h => by rcases h with ⟨h, _⟩ | ⟨h, _⟩ <;> exact ⟨_, h⟩) (by omega) m_MO_isWord ml_MO_326 st_MO_isWord (Nat.le_of_ble_eq_true rfl) d_MO_escape_292 rfl ?_
                              intro v G84 hq
                              rcases hq with ⟨hv, hGe, hq85⟩ | ⟨hv, hGe, hq86⟩
                              · cases hv
                                rw [hGe]
                                change ab_W _ _ _ G5 295 [some (vR 80), some (vz ic), some (vz m_at), some (vz (tpk A_tape m_taped (m_at + 1))), none] [vz 1] _
                                refine zz_if_eq (tgt := 306) d_MO_escape_295 (by decide) (by decide) (fun c87 => absurd c87 (by decide)) (fun c87 => ?_)
                                refine ab_aload_n d_MO_escape_298 rfl ?_
                                refine zz_iconst d_MO_escape_299 ?_
                                refine ab_iload_n d_MO_escape_300 rfl ?_
                                refine ab_callV (d' := d - 1) (as := [vz 5, vz m_at]) (st := []) (r := _) (z_MO_wrong (o := o) (m_thrown := m_thrown) (m_taped := m_taped) (m_length := m_length) (m_out := m_out) (m_wide := m_wide) (m_gathered := m_gathered) (m_sets := m_sets) (m_ranges := m_ranges) (m_nodes := m_nodes) (m_at := (m_at + 2)) (m_flags := m_flags) (m_fault := m_fault) (m_place := m_place) (m_numbered := m_numbered) (m_depth := m_depth) (m_value := m_value) (m_isNot := m_isNot) (m_least0 := m_least0) (m_most0 := m_most0) (m_slot := m_slot) (m_work := m_work) (m_got := m_got) (m_rowMany := m_rowMany) (m_charAt := m_charAt) (m_charWide := m_charWide) (m_trail := m_trail) (m_isMatch := m_isMatch) (m_matchGroups := m_matchGroups) (m_allFrom := m_allFrom) (m_allBefore := m_allBefore) (m_founds := m_founds) (m_pieces := m_pieces) (m_writtenMany := m_writtenMany) (m_templateWide := m_templateWide) (m_tooMuch := m_tooMuch) (x := 5) (y := m_at) h80 (by omega) (by omega)) (fun oc G2 h => by rcases h with ⟨h, _⟩ | ⟨h, _⟩ <;> exact ⟨_, h⟩) (by omega) m_MO_wrong ml_MO_304 im_MO_wrong se_MO_wrong c_MO h80.2.2 (Nat.le_of_ble_eq_true rfl) d_MO_escape_301 rfl ?_
                                intro v G88 hq
                                rcases hq with ⟨hv, hfk, hlk, hsk, hN80, hq89⟩ | ⟨hv, hGe, hq90⟩
                                · cases hv
                                  have h84 := hfk.get h84 (by decide)
                                  have hfr := hfr.tr hfk (by decide)
                                  have hlen := hlk.trans hlen
                                  have hsl := hsk.trans hsl
                                  have h80 := hN80
                                  change ab_W _ _ _ G88 304 [some (vR 80), some (vz ic), some (vz m_at), some (vz (tpk A_tape m_taped (m_at + 1))), none] [] _
                                  refine zz_iconst d_MO_escape_304 ?_
                                  refine zz_iret rfl d_MO_escape_305 ?_
                                  rw [hQ]; exact (Or.inl ⟨_, _, _, rfl, hfr, hlen, hsl, h80, (by omega), (by omega), (by exact eb_5 c6 (by omega) (fun z => by rcases z with z | z | z | z | z | z; (exact c10 z); (exact c34 z); (exact c18 z); (exact c42 z); (exact c26 z); (exact c50 z)) c51 c76 (Or.inr (by have t_ := c78; unfold nzq at t_; omega)) (Or.inr (Or.inr hq85)))⟩)
                                · cases hv
                                  rw [hGe]
                                  change ab_W _ _ _ G5 304 [some (vR 80), some (vz ic), some (vz m_at), some (vz (tpk A_tape m_taped (m_at + 1))), none] [] _
                                  exfalso; omega
                              · cases hv
                                rw [hGe]
                                change ab_W _ _ _ G5 295 [some (vR 80), some (vz ic), some (vz m_at), some (vz (tpk A_tape m_taped (m_at + 1))), none] [vz 0] _
                                refine zz_if_eq (tgt := 306) d_MO_escape_295 (by decide) (by decide) (fun c91 => ?_) (fun c91 => absurd c91 (by decide))
                                refine ab_aload_n d_MO_escape_306 rfl ?_
                                refine ab_iload_n d_MO_escape_307 rfl ?_
                                refine ab_putf (fs := mof m_thrown m_taped m_length m_out m_wide m_gathered m_sets m_ranges m_nodes (m_at + 2) m_flags m_fault m_place m_numbered m_depth m_value m_isNot m_least0 m_most0 m_slot m_work m_got m_rowMany m_charAt m_charWide m_trail m_isMatch m_matchGroups m_allFrom m_allBefore m_founds m_pieces m_writtenMany m_templateWide m_tooMuch) f_MO_307 (Or.inl rfl) d_MO_escape_308 h80.2.2 (Nat.le_of_ble_eq_true rfl) (fun _ => ⟨rfl, rfl⟩) (h80.2.1 (by decide)) ?_
                                obtain ⟨G92, eG92⟩ : ∃ z : ab_G, z = List.set G5 80 (ab_ob 12 (mof m_thrown m_taped m_length m_out m_wide m_gathered m_sets m_ranges m_nodes (m_at + 2) m_flags m_fault m_place m_numbered m_depth (tpk A_tape m_taped (m_at + 1)) m_isNot m_least0 m_most0 m_slot m_work m_got m_rowMany m_charAt m_charWide m_trail m_isMatch m_matchGroups m_allFrom m_allBefore m_founds m_pieces m_writtenMany m_templateWide m_tooMuch)) := ⟨_, rfl⟩
                                have h84 := h84.keep h80 eG92 (by decide)
                                have hlen := (z_len eG92).trans hlen
                                have hsl := (z_sl h80 eG92 rfl).trans hsl
                                have hfr := hfr.wr h80 eG92 (by decide)
                                have h80 := h80.kept eG92
                                change ab_W _ _ _ (List.set G5 80 (ab_ob 12 (mof m_thrown m_taped m_length m_out m_wide m_gathered m_sets m_ranges m_nodes (m_at + 2) m_flags m_fault m_place m_numbered m_depth (tpk A_tape m_taped (m_at + 1)) m_isNot m_least0 m_most0 m_slot m_work m_got m_rowMany m_charAt m_charWide m_trail m_isMatch m_matchGroups m_allFrom m_allBefore m_founds m_pieces m_writtenMany m_templateWide m_tooMuch))) 311 [some (vR 80), some (vz ic), some (vz m_at), some (vz (tpk A_tape m_taped (m_at + 1))), none] [] _
                                rw [← eG92]
                                refine zz_iconst d_MO_escape_311 ?_
                                refine zz_iret rfl d_MO_escape_312 ?_
                                rw [hQ]; exact (Or.inr (Or.inl ⟨_, _, rfl, hfr, hlen, hsl, h80, (by omega), (by exact es_ch (by omega) hq86)⟩))
                          · refine ab_iload_n d_MO_escape_273 rfl ?_
                            refine zz_bipush d_MO_escape_274 (by decide) ?_
                            refine zz_icmp_ne (tgt := 281) d_MO_escape_276 (by decide) (by omega) (by decide) (fun c93 => ?_) (fun c93 => ?_)
                            · replace c93 : nzq (tpk A_tape m_taped (m_at + 1)) 67 := c93
                              refine ab_iload_n d_MO_escape_281 rfl ?_
                              refine zz_if_lt (tgt := 298) d_MO_escape_282 (by decide) (by omega) (fun c94 => absurd c94 (by omega)) (fun c94 => ?_)
                              refine ab_iload_n d_MO_escape_285 rfl ?_
                              refine zz_bipush d_MO_escape_286 (by decide) ?_
                              refine zz_icmp_gt (tgt := 298) d_MO_escape_288 (by decide) (by omega) (by decide) (fun c95 => ?_) (fun c95 => ?_)
                              · refine ab_aload_n d_MO_escape_298 rfl ?_
                                refine zz_iconst d_MO_escape_299 ?_
                                refine ab_iload_n d_MO_escape_300 rfl ?_
                                refine ab_callV (d' := d - 1) (as := [vz 5, vz m_at]) (st := []) (r := _) (z_MO_wrong (o := o) (m_thrown := m_thrown) (m_taped := m_taped) (m_length := m_length) (m_out := m_out) (m_wide := m_wide) (m_gathered := m_gathered) (m_sets := m_sets) (m_ranges := m_ranges) (m_nodes := m_nodes) (m_at := (m_at + 2)) (m_flags := m_flags) (m_fault := m_fault) (m_place := m_place) (m_numbered := m_numbered) (m_depth := m_depth) (m_value := m_value) (m_isNot := m_isNot) (m_least0 := m_least0) (m_most0 := m_most0) (m_slot := m_slot) (m_work := m_work) (m_got := m_got) (m_rowMany := m_rowMany) (m_charAt := m_charAt) (m_charWide := m_charWide) (m_trail := m_trail) (m_isMatch := m_isMatch) (m_matchGroups := m_matchGroups) (m_allFrom := m_allFrom) (m_allBefore := m_allBefore) (m_founds := m_founds) (m_pieces := m_pieces) (m_writtenMany := m_writtenMany) (m_templateWide := m_templateWide) (m_tooMuch := m_tooMuch) (x := 5) (y := m_at) h80 (by omega) (by omega)) (fun oc G2 h => by rcases h with ⟨h, _⟩ | ⟨h, _⟩ <;> exact ⟨_, h⟩) (by omega) m_MO_wrong ml_MO_304 im_MO_wrong se_MO_wrong c_MO h80.2.2 (Nat.le_of_ble_eq_true rfl) d_MO_escape_301 rfl ?_
                                intro v G96 hq
                                rcases hq with ⟨hv, hfk, hlk, hsk, hN80, hq97⟩ | ⟨hv, hGe, hq98⟩
                                · cases hv
                                  have h84 := hfk.get h84 (by decide)
                                  have hfr := hfr.tr hfk (by decide)
                                  have hlen := hlk.trans hlen
                                  have hsl := hsk.trans hsl
                                  have h80 := hN80
                                  change ab_W _ _ _ G96 304 [some (vR 80), some (vz ic), some (vz m_at), some (vz (tpk A_tape m_taped (m_at + 1))), none] [] _
                                  refine zz_iconst d_MO_escape_304 ?_
                                  refine zz_iret rfl d_MO_escape_305 ?_
                                  rw [hQ]; exact (Or.inl ⟨_, _, _, rfl, hfr, hlen, hsl, h80, (by omega), (by omega), (by exact eb_5 c6 (by omega) (fun z => by rcases z with z | z | z | z | z | z; (exact c10 z); (exact c34 z); (exact c18 z); (exact c42 z); (exact c26 z); (exact c50 z)) c51 c76 (Or.inr (by have t_ := c77; unfold nzq at t_; omega)) (by first | (left; omega) | (right; left; omega)))⟩)
                                · cases hv
                                  rw [hGe]
                                  change ab_W _ _ _ G5 304 [some (vR 80), some (vz ic), some (vz m_at), some (vz (tpk A_tape m_taped (m_at + 1))), none] [] _
                                  exfalso; omega
                              · refine ab_iload_n d_MO_escape_291 rfl ?_
                                refine ab_callS (d' := d - 1) (as := [vz (tpk A_tape m_taped (m_at + 1))]) (st := []) (z_MO_isWord (o := o) (x := (tpk A_tape m_taped (m_at + 1))) (by omega)) (fun oc G2 h => by rcases h with ⟨h, _⟩ | ⟨h, _⟩ <;> exact ⟨_, h⟩) (by omega) m_MO_isWord ml_MO_326 st_MO_isWord (Nat.le_of_ble_eq_true rfl) d_MO_escape_292 rfl ?_
                                intro v G99 hq
                                rcases hq with ⟨hv, hGe, hq100⟩ | ⟨hv, hGe, hq101⟩
                                · cases hv
                                  rw [hGe]
                                  change ab_W _ _ _ G5 295 [some (vR 80), some (vz ic), some (vz m_at), some (vz (tpk A_tape m_taped (m_at + 1))), none] [vz 1] _
                                  refine zz_if_eq (tgt := 306) d_MO_escape_295 (by decide) (by decide) (fun c102 => absurd c102 (by decide)) (fun c102 => ?_)
                                  refine ab_aload_n d_MO_escape_298 rfl ?_
                                  refine zz_iconst d_MO_escape_299 ?_
                                  refine ab_iload_n d_MO_escape_300 rfl ?_
                                  refine ab_callV (d' := d - 1) (as := [vz 5, vz m_at]) (st := []) (r := _) (z_MO_wrong (o := o) (m_thrown := m_thrown) (m_taped := m_taped) (m_length := m_length) (m_out := m_out) (m_wide := m_wide) (m_gathered := m_gathered) (m_sets := m_sets) (m_ranges := m_ranges) (m_nodes := m_nodes) (m_at := (m_at + 2)) (m_flags := m_flags) (m_fault := m_fault) (m_place := m_place) (m_numbered := m_numbered) (m_depth := m_depth) (m_value := m_value) (m_isNot := m_isNot) (m_least0 := m_least0) (m_most0 := m_most0) (m_slot := m_slot) (m_work := m_work) (m_got := m_got) (m_rowMany := m_rowMany) (m_charAt := m_charAt) (m_charWide := m_charWide) (m_trail := m_trail) (m_isMatch := m_isMatch) (m_matchGroups := m_matchGroups) (m_allFrom := m_allFrom) (m_allBefore := m_allBefore) (m_founds := m_founds) (m_pieces := m_pieces) (m_writtenMany := m_writtenMany) (m_templateWide := m_templateWide) (m_tooMuch := m_tooMuch) (x := 5) (y := m_at) h80 (by omega) (by omega)) (fun oc G2 h => by rcases h with ⟨h, _⟩ | ⟨h, _⟩ <;> exact ⟨_, h⟩) (by omega) m_MO_wrong ml_MO_304 im_MO_wrong se_MO_wrong c_MO h80.2.2 (Nat.le_of_ble_eq_true rfl) d_MO_escape_301 rfl ?_
                                  intro v G103 hq
                                  rcases hq with ⟨hv, hfk, hlk, hsk, hN80, hq104⟩ | ⟨hv, hGe, hq105⟩
                                  · cases hv
                                    have h84 := hfk.get h84 (by decide)
                                    have hfr := hfr.tr hfk (by decide)
                                    have hlen := hlk.trans hlen
                                    have hsl := hsk.trans hsl
                                    have h80 := hN80
                                    change ab_W _ _ _ G103 304 [some (vR 80), some (vz ic), some (vz m_at), some (vz (tpk A_tape m_taped (m_at + 1))), none] [] _
                                    refine zz_iconst d_MO_escape_304 ?_
                                    refine zz_iret rfl d_MO_escape_305 ?_
                                    rw [hQ]; exact (Or.inl ⟨_, _, _, rfl, hfr, hlen, hsl, h80, (by omega), (by omega), (by exact eb_5 c6 (by omega) (fun z => by rcases z with z | z | z | z | z | z; (exact c10 z); (exact c34 z); (exact c18 z); (exact c42 z); (exact c26 z); (exact c50 z)) c51 c76 (Or.inr (by have t_ := c77; unfold nzq at t_; omega)) (Or.inr (Or.inr hq100)))⟩)
                                  · cases hv
                                    rw [hGe]
                                    change ab_W _ _ _ G5 304 [some (vR 80), some (vz ic), some (vz m_at), some (vz (tpk A_tape m_taped (m_at + 1))), none] [] _
                                    exfalso; omega
                                · cases hv
                                  rw [hGe]
                                  change ab_W _ _ _ G5 295 [some (vR 80), some (vz ic), some (vz m_at), some (vz (tpk A_tape m_taped (m_at + 1))), none] [vz 0] _
                                  refine zz_if_eq (tgt := 306) d_MO_escape_295 (by decide) (by decide) (fun c106 => ?_) (fun c106 => absurd c106 (by decide))
                                  refine ab_aload_n d_MO_escape_306 rfl ?_
                                  refine ab_iload_n d_MO_escape_307 rfl ?_
                                  refine ab_putf (fs := mof m_thrown m_taped m_length m_out m_wide m_gathered m_sets m_ranges m_nodes (m_at + 2) m_flags m_fault m_place m_numbered m_depth m_value m_isNot m_least0 m_most0 m_slot m_work m_got m_rowMany m_charAt m_charWide m_trail m_isMatch m_matchGroups m_allFrom m_allBefore m_founds m_pieces m_writtenMany m_templateWide m_tooMuch) f_MO_307 (Or.inl rfl) d_MO_escape_308 h80.2.2 (Nat.le_of_ble_eq_true rfl) (fun _ => ⟨rfl, rfl⟩) (h80.2.1 (by decide)) ?_
                                  obtain ⟨G107, eG107⟩ : ∃ z : ab_G, z = List.set G5 80 (ab_ob 12 (mof m_thrown m_taped m_length m_out m_wide m_gathered m_sets m_ranges m_nodes (m_at + 2) m_flags m_fault m_place m_numbered m_depth (tpk A_tape m_taped (m_at + 1)) m_isNot m_least0 m_most0 m_slot m_work m_got m_rowMany m_charAt m_charWide m_trail m_isMatch m_matchGroups m_allFrom m_allBefore m_founds m_pieces m_writtenMany m_templateWide m_tooMuch)) := ⟨_, rfl⟩
                                  have h84 := h84.keep h80 eG107 (by decide)
                                  have hlen := (z_len eG107).trans hlen
                                  have hsl := (z_sl h80 eG107 rfl).trans hsl
                                  have hfr := hfr.wr h80 eG107 (by decide)
                                  have h80 := h80.kept eG107
                                  change ab_W _ _ _ (List.set G5 80 (ab_ob 12 (mof m_thrown m_taped m_length m_out m_wide m_gathered m_sets m_ranges m_nodes (m_at + 2) m_flags m_fault m_place m_numbered m_depth (tpk A_tape m_taped (m_at + 1)) m_isNot m_least0 m_most0 m_slot m_work m_got m_rowMany m_charAt m_charWide m_trail m_isMatch m_matchGroups m_allFrom m_allBefore m_founds m_pieces m_writtenMany m_templateWide m_tooMuch))) 311 [some (vR 80), some (vz ic), some (vz m_at), some (vz (tpk A_tape m_taped (m_at + 1))), none] [] _
                                  rw [← eG107]
                                  refine zz_iconst d_MO_escape_311 ?_
                                  refine zz_iret rfl d_MO_escape_312 ?_
                                  rw [hQ]; exact (Or.inr (Or.inl ⟨_, _, rfl, hfr, hlen, hsl, h80, (by omega), (by exact es_ch (by omega) hq101)⟩))
                            · refine zz_iconst d_MO_escape_279 ?_
                              refine zz_iret rfl d_MO_escape_280 ?_
                              rw [hQ]; exact (Or.inr (Or.inr (Or.inr (Or.inr ⟨rfl, hfr, hlen, hsl, h80, (by omega), (by exact es_b (by omega))⟩))))
                        · refine ab_iload_n d_MO_escape_208 rfl ?_
                          refine zz_bipush d_MO_escape_209 (by decide) ?_
                          refine zz_icmp_eq (tgt := 232) d_MO_escape_211 (by decide) (by omega) (by decide) (fun c108 => ?_) (fun c108 => ?_)
                          · refine ab_aload_n d_MO_escape_232 rfl ?_
                            refine ab_iload_n d_MO_escape_233 rfl ?_
                            refine zz_bipush d_MO_escape_234 (by decide) ?_
                            refine zz_icmp_ne (tgt := 243) d_MO_escape_236 (by decide) (by omega) (by decide) (fun c109 => absurd c109 (by omega)) (fun c109 => ?_)
                            refine zz_iconst d_MO_escape_239 ?_
                            refine ab_goto (tgt := 264) d_MO_escape_240 (by decide) ?_
                            refine ab_putf (fs := mof m_thrown m_taped m_length m_out m_wide m_gathered m_sets m_ranges m_nodes (m_at + 2) m_flags m_fault m_place m_numbered m_depth m_value m_isNot m_least0 m_most0 m_slot m_work m_got m_rowMany m_charAt m_charWide m_trail m_isMatch m_matchGroups m_allFrom m_allBefore m_founds m_pieces m_writtenMany m_templateWide m_tooMuch) f_MO_307 (Or.inl rfl) d_MO_escape_264 h80.2.2 (Nat.le_of_ble_eq_true rfl) (fun _ => ⟨rfl, rfl⟩) (h80.2.1 (by decide)) ?_
                            obtain ⟨G110, eG110⟩ : ∃ z : ab_G, z = List.set G5 80 (ab_ob 12 (mof m_thrown m_taped m_length m_out m_wide m_gathered m_sets m_ranges m_nodes (m_at + 2) m_flags m_fault m_place m_numbered m_depth 0 m_isNot m_least0 m_most0 m_slot m_work m_got m_rowMany m_charAt m_charWide m_trail m_isMatch m_matchGroups m_allFrom m_allBefore m_founds m_pieces m_writtenMany m_templateWide m_tooMuch)) := ⟨_, rfl⟩
                            have h84 := h84.keep h80 eG110 (by decide)
                            have hlen := (z_len eG110).trans hlen
                            have hsl := (z_sl h80 eG110 rfl).trans hsl
                            have hfr := hfr.wr h80 eG110 (by decide)
                            have h80 := h80.kept eG110
                            change ab_W _ _ _ (List.set G5 80 (ab_ob 12 (mof m_thrown m_taped m_length m_out m_wide m_gathered m_sets m_ranges m_nodes (m_at + 2) m_flags m_fault m_place m_numbered m_depth 0 m_isNot m_least0 m_most0 m_slot m_work m_got m_rowMany m_charAt m_charWide m_trail m_isMatch m_matchGroups m_allFrom m_allBefore m_founds m_pieces m_writtenMany m_templateWide m_tooMuch))) 267 [some (vR 80), some (vz ic), some (vz m_at), some (vz (tpk A_tape m_taped (m_at + 1))), none] [] _
                            rw [← eG110]
                            refine zz_iconst d_MO_escape_267 ?_
                            refine zz_iret rfl d_MO_escape_268 ?_
                            rw [hQ]; exact (Or.inr (Or.inr (Or.inr (Or.inl ⟨_, rfl, hfr, hlen, hsl, h80, (by omega), (by exact es_as2 (by omega))⟩))))
                          · replace c108 : nzq (tpk A_tape m_taped (m_at + 1)) 65 := c108
                            refine ab_iload_n d_MO_escape_214 rfl ?_
                            refine zz_bipush d_MO_escape_215 (by decide) ?_
                            refine zz_icmp_eq (tgt := 232) d_MO_escape_217 (by decide) (by omega) (by decide) (fun c111 => ?_) (fun c111 => ?_)
                            · refine ab_aload_n d_MO_escape_232 rfl ?_
                              refine ab_iload_n d_MO_escape_233 rfl ?_
                              refine zz_bipush d_MO_escape_234 (by decide) ?_
                              refine zz_icmp_ne (tgt := 243) d_MO_escape_236 (by decide) (by omega) (by decide) (fun c112 => ?_) (fun c112 => absurd c112 (by omega))
                              refine ab_iload_n d_MO_escape_243 rfl ?_
                              refine zz_bipush d_MO_escape_244 (by decide) ?_
                              refine zz_icmp_ne (tgt := 253) d_MO_escape_246 (by decide) (by omega) (by decide) (fun c113 => absurd c113 (by omega)) (fun c113 => ?_)
                              refine zz_iconst d_MO_escape_249 ?_
                              refine ab_goto (tgt := 264) d_MO_escape_250 (by decide) ?_
                              refine ab_putf (fs := mof m_thrown m_taped m_length m_out m_wide m_gathered m_sets m_ranges m_nodes (m_at + 2) m_flags m_fault m_place m_numbered m_depth m_value m_isNot m_least0 m_most0 m_slot m_work m_got m_rowMany m_charAt m_charWide m_trail m_isMatch m_matchGroups m_allFrom m_allBefore m_founds m_pieces m_writtenMany m_templateWide m_tooMuch) f_MO_307 (Or.inl rfl) d_MO_escape_264 h80.2.2 (Nat.le_of_ble_eq_true rfl) (fun _ => ⟨rfl, rfl⟩) (h80.2.1 (by decide)) ?_
                              obtain ⟨G114, eG114⟩ : ∃ z : ab_G, z = List.set G5 80 (ab_ob 12 (mof m_thrown m_taped m_length m_out m_wide m_gathered m_sets m_ranges m_nodes (m_at + 2) m_flags m_fault m_place m_numbered m_depth 1 m_isNot m_least0 m_most0 m_slot m_work m_got m_rowMany m_charAt m_charWide m_trail m_isMatch m_matchGroups m_allFrom m_allBefore m_founds m_pieces m_writtenMany m_templateWide m_tooMuch)) := ⟨_, rfl⟩
                              have h84 := h84.keep h80 eG114 (by decide)
                              have hlen := (z_len eG114).trans hlen
                              have hsl := (z_sl h80 eG114 rfl).trans hsl
                              have hfr := hfr.wr h80 eG114 (by decide)
                              have h80 := h80.kept eG114
                              change ab_W _ _ _ (List.set G5 80 (ab_ob 12 (mof m_thrown m_taped m_length m_out m_wide m_gathered m_sets m_ranges m_nodes (m_at + 2) m_flags m_fault m_place m_numbered m_depth 1 m_isNot m_least0 m_most0 m_slot m_work m_got m_rowMany m_charAt m_charWide m_trail m_isMatch m_matchGroups m_allFrom m_allBefore m_founds m_pieces m_writtenMany m_templateWide m_tooMuch))) 267 [some (vR 80), some (vz ic), some (vz m_at), some (vz (tpk A_tape m_taped (m_at + 1))), none] [] _
                              rw [← eG114]
                              refine zz_iconst d_MO_escape_267 ?_
                              refine zz_iret rfl d_MO_escape_268 ?_
                              rw [hQ]; exact (Or.inr (Or.inr (Or.inr (Or.inl ⟨_, rfl, hfr, hlen, hsl, h80, (by omega), (by exact es_as2 (by omega))⟩))))
                            · replace c111 : nzq (tpk A_tape m_taped (m_at + 1)) 122 := c111
                              refine ab_iload_n d_MO_escape_220 rfl ?_
                              refine zz_bipush d_MO_escape_221 (by decide) ?_
                              refine zz_icmp_eq (tgt := 232) d_MO_escape_223 (by decide) (by omega) (by decide) (fun c115 => ?_) (fun c115 => ?_)
                              · refine ab_aload_n d_MO_escape_232 rfl ?_
                                refine ab_iload_n d_MO_escape_233 rfl ?_
                                refine zz_bipush d_MO_escape_234 (by decide) ?_
                                refine zz_icmp_ne (tgt := 243) d_MO_escape_236 (by decide) (by omega) (by decide) (fun c116 => ?_) (fun c116 => absurd c116 (by omega))
                                refine ab_iload_n d_MO_escape_243 rfl ?_
                                refine zz_bipush d_MO_escape_244 (by decide) ?_
                                refine zz_icmp_ne (tgt := 253) d_MO_escape_246 (by decide) (by omega) (by decide) (fun c117 => ?_) (fun c117 => absurd c117 (by omega))
                                refine ab_iload_n d_MO_escape_253 rfl ?_
                                refine zz_bipush d_MO_escape_254 (by decide) ?_
                                refine zz_icmp_ne (tgt := 263) d_MO_escape_256 (by decide) (by omega) (by decide) (fun c118 => absurd c118 (by omega)) (fun c118 => ?_)
                                refine zz_iconst d_MO_escape_259 ?_
                                refine ab_goto (tgt := 264) d_MO_escape_260 (by decide) ?_
                                refine ab_putf (fs := mof m_thrown m_taped m_length m_out m_wide m_gathered m_sets m_ranges m_nodes (m_at + 2) m_flags m_fault m_place m_numbered m_depth m_value m_isNot m_least0 m_most0 m_slot m_work m_got m_rowMany m_charAt m_charWide m_trail m_isMatch m_matchGroups m_allFrom m_allBefore m_founds m_pieces m_writtenMany m_templateWide m_tooMuch) f_MO_307 (Or.inl rfl) d_MO_escape_264 h80.2.2 (Nat.le_of_ble_eq_true rfl) (fun _ => ⟨rfl, rfl⟩) (h80.2.1 (by decide)) ?_
                                obtain ⟨G119, eG119⟩ : ∃ z : ab_G, z = List.set G5 80 (ab_ob 12 (mof m_thrown m_taped m_length m_out m_wide m_gathered m_sets m_ranges m_nodes (m_at + 2) m_flags m_fault m_place m_numbered m_depth 2 m_isNot m_least0 m_most0 m_slot m_work m_got m_rowMany m_charAt m_charWide m_trail m_isMatch m_matchGroups m_allFrom m_allBefore m_founds m_pieces m_writtenMany m_templateWide m_tooMuch)) := ⟨_, rfl⟩
                                have h84 := h84.keep h80 eG119 (by decide)
                                have hlen := (z_len eG119).trans hlen
                                have hsl := (z_sl h80 eG119 rfl).trans hsl
                                have hfr := hfr.wr h80 eG119 (by decide)
                                have h80 := h80.kept eG119
                                change ab_W _ _ _ (List.set G5 80 (ab_ob 12 (mof m_thrown m_taped m_length m_out m_wide m_gathered m_sets m_ranges m_nodes (m_at + 2) m_flags m_fault m_place m_numbered m_depth 2 m_isNot m_least0 m_most0 m_slot m_work m_got m_rowMany m_charAt m_charWide m_trail m_isMatch m_matchGroups m_allFrom m_allBefore m_founds m_pieces m_writtenMany m_templateWide m_tooMuch))) 267 [some (vR 80), some (vz ic), some (vz m_at), some (vz (tpk A_tape m_taped (m_at + 1))), none] [] _
                                rw [← eG119]
                                refine zz_iconst d_MO_escape_267 ?_
                                refine zz_iret rfl d_MO_escape_268 ?_
                                rw [hQ]; exact (Or.inr (Or.inr (Or.inr (Or.inl ⟨_, rfl, hfr, hlen, hsl, h80, (by omega), (by exact es_as2 (by omega))⟩))))
                              · replace c115 : nzq (tpk A_tape m_taped (m_at + 1)) 98 := c115
                                refine ab_iload_n d_MO_escape_226 rfl ?_
                                refine zz_bipush d_MO_escape_227 (by decide) ?_
                                refine zz_icmp_ne (tgt := 269) d_MO_escape_229 (by decide) (by omega) (by decide) (fun c120 => ?_) (fun c120 => ?_)
                                · replace c120 : nzq (tpk A_tape m_taped (m_at + 1)) 66 := c120
                                  refine ab_iload_n d_MO_escape_269 rfl ?_
                                  refine zz_if_ne (tgt := 281) d_MO_escape_270 (by decide) (by omega) (fun c121 => absurd c121 (by omega)) (fun c121 => ?_)
                                  refine ab_iload_n d_MO_escape_273 rfl ?_
                                  refine zz_bipush d_MO_escape_274 (by decide) ?_
                                  refine zz_icmp_ne (tgt := 281) d_MO_escape_276 (by decide) (by omega) (by decide) (fun c122 => ?_) (fun c122 => ?_)
                                  · replace c122 : nzq (tpk A_tape m_taped (m_at + 1)) 67 := c122
                                    refine ab_iload_n d_MO_escape_281 rfl ?_
                                    refine zz_if_lt (tgt := 298) d_MO_escape_282 (by decide) (by omega) (fun c123 => absurd c123 (by omega)) (fun c123 => ?_)
                                    refine ab_iload_n d_MO_escape_285 rfl ?_
                                    refine zz_bipush d_MO_escape_286 (by decide) ?_
                                    refine zz_icmp_gt (tgt := 298) d_MO_escape_288 (by decide) (by omega) (by decide) (fun c124 => ?_) (fun c124 => ?_)
                                    · refine ab_aload_n d_MO_escape_298 rfl ?_
                                      refine zz_iconst d_MO_escape_299 ?_
                                      refine ab_iload_n d_MO_escape_300 rfl ?_
                                      refine ab_callV (d' := d - 1) (as := [vz 5, vz m_at]) (st := []) (r := _) (z_MO_wrong (o := o) (m_thrown := m_thrown) (m_taped := m_taped) (m_length := m_length) (m_out := m_out) (m_wide := m_wide) (m_gathered := m_gathered) (m_sets := m_sets) (m_ranges := m_ranges) (m_nodes := m_nodes) (m_at := (m_at + 2)) (m_flags := m_flags) (m_fault := m_fault) (m_place := m_place) (m_numbered := m_numbered) (m_depth := m_depth) (m_value := m_value) (m_isNot := m_isNot) (m_least0 := m_least0) (m_most0 := m_most0) (m_slot := m_slot) (m_work := m_work) (m_got := m_got) (m_rowMany := m_rowMany) (m_charAt := m_charAt) (m_charWide := m_charWide) (m_trail := m_trail) (m_isMatch := m_isMatch) (m_matchGroups := m_matchGroups) (m_allFrom := m_allFrom) (m_allBefore := m_allBefore) (m_founds := m_founds) (m_pieces := m_pieces) (m_writtenMany := m_writtenMany) (m_templateWide := m_templateWide) (m_tooMuch := m_tooMuch) (x := 5) (y := m_at) h80 (by omega) (by omega)) (fun oc G2 h => by rcases h with ⟨h, _⟩ | ⟨h, _⟩ <;> exact ⟨_, h⟩) (by omega) m_MO_wrong ml_MO_304 im_MO_wrong se_MO_wrong c_MO h80.2.2 (Nat.le_of_ble_eq_true rfl) d_MO_escape_301 rfl ?_
                                      intro v G125 hq
                                      rcases hq with ⟨hv, hfk, hlk, hsk, hN80, hq126⟩ | ⟨hv, hGe, hq127⟩
                                      · cases hv
                                        have h84 := hfk.get h84 (by decide)
                                        have hfr := hfr.tr hfk (by decide)
                                        have hlen := hlk.trans hlen
                                        have hsl := hsk.trans hsl
                                        have h80 := hN80
                                        change ab_W _ _ _ G125 304 [some (vR 80), some (vz ic), some (vz m_at), some (vz (tpk A_tape m_taped (m_at + 1))), none] [] _
                                        refine zz_iconst d_MO_escape_304 ?_
                                        refine zz_iret rfl d_MO_escape_305 ?_
                                        rw [hQ]; exact (Or.inl ⟨_, _, _, rfl, hfr, hlen, hsl, h80, (by omega), (by omega), (by exact eb_5 c6 (by omega) (fun z => by rcases z with z | z | z | z | z | z; (exact c10 z); (exact c34 z); (exact c18 z); (exact c42 z); (exact c26 z); (exact c50 z)) c51 c76 (Or.inl ⟨c108, c111, c115, c120, c122⟩) (by first | (left; omega) | (right; left; omega)))⟩)
                                      · cases hv
                                        rw [hGe]
                                        change ab_W _ _ _ G5 304 [some (vR 80), some (vz ic), some (vz m_at), some (vz (tpk A_tape m_taped (m_at + 1))), none] [] _
                                        exfalso; omega
                                    · refine ab_iload_n d_MO_escape_291 rfl ?_
                                      refine ab_callS (d' := d - 1) (as := [vz (tpk A_tape m_taped (m_at + 1))]) (st := []) (z_MO_isWord (o := o) (x := (tpk A_tape m_taped (m_at + 1))) (by omega)) (fun oc G2 h => by rcases h with ⟨h, _⟩ | ⟨h, _⟩ <;> exact ⟨_, h⟩) (by omega) m_MO_isWord ml_MO_326 st_MO_isWord (Nat.le_of_ble_eq_true rfl) d_MO_escape_292 rfl ?_
                                      intro v G128 hq
                                      rcases hq with ⟨hv, hGe, hq129⟩ | ⟨hv, hGe, hq130⟩
                                      · cases hv
                                        rw [hGe]
                                        change ab_W _ _ _ G5 295 [some (vR 80), some (vz ic), some (vz m_at), some (vz (tpk A_tape m_taped (m_at + 1))), none] [vz 1] _
                                        refine zz_if_eq (tgt := 306) d_MO_escape_295 (by decide) (by decide) (fun c131 => absurd c131 (by decide)) (fun c131 => ?_)
                                        refine ab_aload_n d_MO_escape_298 rfl ?_
                                        refine zz_iconst d_MO_escape_299 ?_
                                        refine ab_iload_n d_MO_escape_300 rfl ?_
                                        refine ab_callV (d' := d - 1) (as := [vz 5, vz m_at]) (st := []) (r := _) (z_MO_wrong (o := o) (m_thrown := m_thrown) (m_taped := m_taped) (m_length := m_length) (m_out := m_out) (m_wide := m_wide) (m_gathered := m_gathered) (m_sets := m_sets) (m_ranges := m_ranges) (m_nodes := m_nodes) (m_at := (m_at + 2)) (m_flags := m_flags) (m_fault := m_fault) (m_place := m_place) (m_numbered := m_numbered) (m_depth := m_depth) (m_value := m_value) (m_isNot := m_isNot) (m_least0 := m_least0) (m_most0 := m_most0) (m_slot := m_slot) (m_work := m_work) (m_got := m_got) (m_rowMany := m_rowMany) (m_charAt := m_charAt) (m_charWide := m_charWide) (m_trail := m_trail) (m_isMatch := m_isMatch) (m_matchGroups := m_matchGroups) (m_allFrom := m_allFrom) (m_allBefore := m_allBefore) (m_founds := m_founds) (m_pieces := m_pieces) (m_writtenMany := m_writtenMany) (m_templateWide := m_templateWide) (m_tooMuch := m_tooMuch) (x := 5) (y := m_at) h80 (by omega) (by omega)) (fun oc G2 h => by rcases h with ⟨h, _⟩ | ⟨h, _⟩ <;> exact ⟨_, h⟩) (by omega) m_MO_wrong ml_MO_304 im_MO_wrong se_MO_wrong c_MO h80.2.2 (Nat.le_of_ble_eq_true rfl) d_MO_escape_301 rfl ?_
                                        intro v G132 hq
                                        rcases hq with ⟨hv, hfk, hlk, hsk, hN80, hq133⟩ | ⟨hv, hGe, hq134⟩
                                        · cases hv
                                          have h84 := hfk.get h84 (by decide)
                                          have hfr := hfr.tr hfk (by decide)
                                          have hlen := hlk.trans hlen
                                          have hsl := hsk.trans hsl
                                          have h80 := hN80
                                          change ab_W _ _ _ G132 304 [some (vR 80), some (vz ic), some (vz m_at), some (vz (tpk A_tape m_taped (m_at + 1))), none] [] _
                                          refine zz_iconst d_MO_escape_304 ?_
                                          refine zz_iret rfl d_MO_escape_305 ?_
                                          rw [hQ]; exact (Or.inl ⟨_, _, _, rfl, hfr, hlen, hsl, h80, (by omega), (by omega), (by exact eb_5 c6 (by omega) (fun z => by rcases z with z | z | z | z | z | z; (exact c10 z); (exact c34 z); (exact c18 z); (exact c42 z); (exact c26 z); (exact c50 z)) c51 c76 (Or.inl ⟨c108, c111, c115, c120, c122⟩) (Or.inr (Or.inr hq129)))⟩)
                                        · cases hv
                                          rw [hGe]
                                          change ab_W _ _ _ G5 304 [some (vR 80), some (vz ic), some (vz m_at), some (vz (tpk A_tape m_taped (m_at + 1))), none] [] _
                                          exfalso; omega
                                      · cases hv
                                        rw [hGe]
                                        change ab_W _ _ _ G5 295 [some (vR 80), some (vz ic), some (vz m_at), some (vz (tpk A_tape m_taped (m_at + 1))), none] [vz 0] _
                                        refine zz_if_eq (tgt := 306) d_MO_escape_295 (by decide) (by decide) (fun c135 => ?_) (fun c135 => absurd c135 (by decide))
                                        refine ab_aload_n d_MO_escape_306 rfl ?_
                                        refine ab_iload_n d_MO_escape_307 rfl ?_
                                        refine ab_putf (fs := mof m_thrown m_taped m_length m_out m_wide m_gathered m_sets m_ranges m_nodes (m_at + 2) m_flags m_fault m_place m_numbered m_depth m_value m_isNot m_least0 m_most0 m_slot m_work m_got m_rowMany m_charAt m_charWide m_trail m_isMatch m_matchGroups m_allFrom m_allBefore m_founds m_pieces m_writtenMany m_templateWide m_tooMuch) f_MO_307 (Or.inl rfl) d_MO_escape_308 h80.2.2 (Nat.le_of_ble_eq_true rfl) (fun _ => ⟨rfl, rfl⟩) (h80.2.1 (by decide)) ?_
                                        obtain ⟨G136, eG136⟩ : ∃ z : ab_G, z = List.set G5 80 (ab_ob 12 (mof m_thrown m_taped m_length m_out m_wide m_gathered m_sets m_ranges m_nodes (m_at + 2) m_flags m_fault m_place m_numbered m_depth (tpk A_tape m_taped (m_at + 1)) m_isNot m_least0 m_most0 m_slot m_work m_got m_rowMany m_charAt m_charWide m_trail m_isMatch m_matchGroups m_allFrom m_allBefore m_founds m_pieces m_writtenMany m_templateWide m_tooMuch)) := ⟨_, rfl⟩
                                        have h84 := h84.keep h80 eG136 (by decide)
                                        have hlen := (z_len eG136).trans hlen
                                        have hsl := (z_sl h80 eG136 rfl).trans hsl
                                        have hfr := hfr.wr h80 eG136 (by decide)
                                        have h80 := h80.kept eG136
                                        change ab_W _ _ _ (List.set G5 80 (ab_ob 12 (mof m_thrown m_taped m_length m_out m_wide m_gathered m_sets m_ranges m_nodes (m_at + 2) m_flags m_fault m_place m_numbered m_depth (tpk A_tape m_taped (m_at + 1)) m_isNot m_least0 m_most0 m_slot m_work m_got m_rowMany m_charAt m_charWide m_trail m_isMatch m_matchGroups m_allFrom m_allBefore m_founds m_pieces m_writtenMany m_templateWide m_tooMuch))) 311 [some (vR 80), some (vz ic), some (vz m_at), some (vz (tpk A_tape m_taped (m_at + 1))), none] [] _
                                        rw [← eG136]
                                        refine zz_iconst d_MO_escape_311 ?_
                                        refine zz_iret rfl d_MO_escape_312 ?_
                                        rw [hQ]; exact (Or.inr (Or.inl ⟨_, _, rfl, hfr, hlen, hsl, h80, (by omega), (by exact es_ch (by omega) hq130)⟩))
                                  · refine zz_iconst d_MO_escape_279 ?_
                                    refine zz_iret rfl d_MO_escape_280 ?_
                                    rw [hQ]; exact (Or.inr (Or.inr (Or.inr (Or.inr ⟨rfl, hfr, hlen, hsl, h80, (by omega), (by exact es_b (by omega))⟩))))
                                · refine ab_aload_n d_MO_escape_232 rfl ?_
                                  refine ab_iload_n d_MO_escape_233 rfl ?_
                                  refine zz_bipush d_MO_escape_234 (by decide) ?_
                                  refine zz_icmp_ne (tgt := 243) d_MO_escape_236 (by decide) (by omega) (by decide) (fun c137 => ?_) (fun c137 => absurd c137 (by omega))
                                  refine ab_iload_n d_MO_escape_243 rfl ?_
                                  refine zz_bipush d_MO_escape_244 (by decide) ?_
                                  refine zz_icmp_ne (tgt := 253) d_MO_escape_246 (by decide) (by omega) (by decide) (fun c138 => ?_) (fun c138 => absurd c138 (by omega))
                                  refine ab_iload_n d_MO_escape_253 rfl ?_
                                  refine zz_bipush d_MO_escape_254 (by decide) ?_
                                  refine zz_icmp_ne (tgt := 263) d_MO_escape_256 (by decide) (by omega) (by decide) (fun c139 => ?_) (fun c139 => absurd c139 (by omega))
                                  refine zz_iconst d_MO_escape_263 ?_
                                  refine ab_putf (fs := mof m_thrown m_taped m_length m_out m_wide m_gathered m_sets m_ranges m_nodes (m_at + 2) m_flags m_fault m_place m_numbered m_depth m_value m_isNot m_least0 m_most0 m_slot m_work m_got m_rowMany m_charAt m_charWide m_trail m_isMatch m_matchGroups m_allFrom m_allBefore m_founds m_pieces m_writtenMany m_templateWide m_tooMuch) f_MO_307 (Or.inl rfl) d_MO_escape_264 h80.2.2 (Nat.le_of_ble_eq_true rfl) (fun _ => ⟨rfl, rfl⟩) (h80.2.1 (by decide)) ?_
                                  obtain ⟨G140, eG140⟩ : ∃ z : ab_G, z = List.set G5 80 (ab_ob 12 (mof m_thrown m_taped m_length m_out m_wide m_gathered m_sets m_ranges m_nodes (m_at + 2) m_flags m_fault m_place m_numbered m_depth 3 m_isNot m_least0 m_most0 m_slot m_work m_got m_rowMany m_charAt m_charWide m_trail m_isMatch m_matchGroups m_allFrom m_allBefore m_founds m_pieces m_writtenMany m_templateWide m_tooMuch)) := ⟨_, rfl⟩
                                  have h84 := h84.keep h80 eG140 (by decide)
                                  have hlen := (z_len eG140).trans hlen
                                  have hsl := (z_sl h80 eG140 rfl).trans hsl
                                  have hfr := hfr.wr h80 eG140 (by decide)
                                  have h80 := h80.kept eG140
                                  change ab_W _ _ _ (List.set G5 80 (ab_ob 12 (mof m_thrown m_taped m_length m_out m_wide m_gathered m_sets m_ranges m_nodes (m_at + 2) m_flags m_fault m_place m_numbered m_depth 3 m_isNot m_least0 m_most0 m_slot m_work m_got m_rowMany m_charAt m_charWide m_trail m_isMatch m_matchGroups m_allFrom m_allBefore m_founds m_pieces m_writtenMany m_templateWide m_tooMuch))) 267 [some (vR 80), some (vz ic), some (vz m_at), some (vz (tpk A_tape m_taped (m_at + 1))), none] [] _
                                  rw [← eG140]
                                  refine zz_iconst d_MO_escape_267 ?_
                                  refine zz_iret rfl d_MO_escape_268 ?_
                                  rw [hQ]; exact (Or.inr (Or.inr (Or.inr (Or.inl ⟨_, rfl, hfr, hlen, hsl, h80, (by omega), (by exact es_as2 (by omega))⟩))))
                      · refine ab_aload_n d_MO_escape_123 rfl ?_
                        refine zz_iconst d_MO_escape_124 ?_
                        refine ab_callV (d' := d - 1) (as := [vz 0]) (st := []) (r := _) (z_MO_here (o := o) (m_thrown := m_thrown) (m_taped := m_taped) (m_length := m_length) (m_out := m_out) (m_wide := m_wide) (m_gathered := m_gathered) (m_sets := m_sets) (m_ranges := m_ranges) (m_nodes := m_nodes) (m_at := (m_at + 2)) (m_flags := m_flags) (m_fault := m_fault) (m_place := m_place) (m_numbered := m_numbered) (m_depth := m_depth) (m_value := m_value) (m_isNot := m_isNot) (m_least0 := m_least0) (m_most0 := m_most0) (m_slot := m_slot) (m_work := m_work) (m_got := m_got) (m_rowMany := m_rowMany) (m_charAt := m_charAt) (m_charWide := m_charWide) (m_trail := m_trail) (m_isMatch := m_isMatch) (m_matchGroups := m_matchGroups) (m_allFrom := m_allFrom) (m_allBefore := m_allBefore) (m_founds := m_founds) (m_pieces := m_pieces) (m_writtenMany := m_writtenMany) (m_templateWide := m_templateWide) (m_tooMuch := m_tooMuch) (A_tape := A_tape) (k := 0) (qh := (m_at + 2)) h80 h84 (by omega) (by omega) jtp (by omega) (by omega)) (fun oc G2 h => by rcases h with ⟨h, _⟩ | ⟨h, _⟩ <;> exact ⟨_, h⟩) (by omega) m_MO_here ml_MO_297 im_MO_here se_MO_here c_MO h80.2.2 (Nat.le_of_ble_eq_true rfl) d_MO_escape_125 rfl ?_
                        intro v G141 hq
                        rcases hq with ⟨hv, hGe, hq142⟩ | ⟨hv, hGe, hq143, hq144⟩
                        · cases hv
                          rw [hGe]
                          change ab_W _ _ _ G5 128 [some (vR 80), some (vz ic), some (vz m_at), some (vz (tpk A_tape m_taped (m_at + 1))), none] [vz (tpk A_tape m_taped (m_at + 2))] _
                          refine ab_istore d_MO_escape_128 (Nat.le_of_ble_eq_true rfl) (Nat.le_of_ble_eq_true rfl) rfl ?_
                          change ab_W _ _ _ G5 130 [some (vR 80), some (vz ic), some (vz m_at), some (vz (tpk A_tape m_taped (m_at + 1))), some (vz (tpk A_tape m_taped (m_at + 2)))] [] _
                          refine ab_iload d_MO_escape_130 rfl ?_
                          refine zz_if_ge (tgt := 144) d_MO_escape_132 (by decide) (by omega) (fun c145 => ?_) (fun c145 => absurd c145 (by omega))
                          refine ab_iload d_MO_escape_144 rfl ?_
                          refine ab_callS (d' := d - 1) (as := [vz (tpk A_tape m_taped (m_at + 2))]) (st := []) (z_MO_whichLetter (o := o) (c := (tpk A_tape m_taped (m_at + 2))) (by omega)) (fun oc G2 h => by rcases h with ⟨h, _⟩ <;> exact ⟨_, h⟩) (by omega) m_MO_whichLetter ml_MO_323 st_MO_whichLetter (Nat.le_of_ble_eq_true rfl) d_MO_escape_146 rfl ?_
                          intro v G146 hq
                          rcases hq with ⟨hv, hGe, hq147⟩
                          cases hv
                          rw [hGe]
                          change ab_W _ _ _ G5 149 [some (vR 80), some (vz ic), some (vz m_at), some (vz (tpk A_tape m_taped (m_at + 1))), some (vz (tpk A_tape m_taped (m_at + 2)))] [vz (wlf (tpk A_tape m_taped (m_at + 2)))] _
                          refine zz_if_ge (tgt := 159) d_MO_escape_149 (by decide) (by omega) (fun c148 => ?_) (fun c148 => ?_)
                          · refine ab_aload_n d_MO_escape_159 rfl ?_
                            refine ab_getf (fs := mof m_thrown m_taped m_length m_out m_wide m_gathered m_sets m_ranges m_nodes (m_at + 2) m_flags m_fault m_place m_numbered m_depth m_value m_isNot m_least0 m_most0 m_slot m_work m_got m_rowMany m_charAt m_charWide m_trail m_isMatch m_matchGroups m_allFrom m_allBefore m_founds m_pieces m_writtenMany m_templateWide m_tooMuch) f_MO_273 d_MO_escape_160 h80.2.2 rfl ?_
                            refine zz_if_le (tgt := 168) d_MO_escape_163 (by decide) (by omega) (fun c149 => ?_) (fun c149 => absurd c149 (by omega))
                            have hwl_ := wlf_0 (c := (tpk A_tape m_taped (m_at + 2))) (by omega)
                            refine ab_aload_n d_MO_escape_168 rfl ?_
                            refine ab_iload d_MO_escape_169 rfl ?_
                            refine ab_callS (d' := d - 1) (as := [vz (tpk A_tape m_taped (m_at + 2))]) (st := [vR 80]) (z_MO_whichLetter (o := o) (c := (tpk A_tape m_taped (m_at + 2))) (by omega)) (fun oc G2 h => by rcases h with ⟨h, _⟩ <;> exact ⟨_, h⟩) (by omega) m_MO_whichLetter ml_MO_323 st_MO_whichLetter (Nat.le_of_ble_eq_true rfl) d_MO_escape_171 rfl ?_
                            intro v G150 hq
                            rcases hq with ⟨hv, hGe, hq151⟩
                            cases hv
                            rw [hGe]
                            change ab_W _ _ _ G5 174 [some (vR 80), some (vz ic), some (vz m_at), some (vz (tpk A_tape m_taped (m_at + 1))), some (vz (tpk A_tape m_taped (m_at + 2)))] [vz (wlf (tpk A_tape m_taped (m_at + 2))), vR 80] _
                            refine ab_putf (fs := mof m_thrown m_taped m_length m_out m_wide m_gathered m_sets m_ranges m_nodes (m_at + 2) m_flags m_fault m_place m_numbered m_depth m_value m_isNot m_least0 m_most0 m_slot m_work m_got m_rowMany m_charAt m_charWide m_trail m_isMatch m_matchGroups m_allFrom m_allBefore m_founds m_pieces m_writtenMany m_templateWide m_tooMuch) f_MO_307 (Or.inl rfl) d_MO_escape_174 h80.2.2 (Nat.le_of_ble_eq_true rfl) (fun _ => ⟨rfl, rfl⟩) (h80.2.1 (by decide)) ?_
                            obtain ⟨G152, eG152⟩ : ∃ z : ab_G, z = List.set G5 80 (ab_ob 12 (mof m_thrown m_taped m_length m_out m_wide m_gathered m_sets m_ranges m_nodes (m_at + 2) m_flags m_fault m_place m_numbered m_depth (wlf (tpk A_tape m_taped (m_at + 2))) m_isNot m_least0 m_most0 m_slot m_work m_got m_rowMany m_charAt m_charWide m_trail m_isMatch m_matchGroups m_allFrom m_allBefore m_founds m_pieces m_writtenMany m_templateWide m_tooMuch)) := ⟨_, rfl⟩
                            have h84 := h84.keep h80 eG152 (by decide)
                            have hlen := (z_len eG152).trans hlen
                            have hsl := (z_sl h80 eG152 rfl).trans hsl
                            have hfr := hfr.wr h80 eG152 (by decide)
                            have h80 := h80.kept eG152
                            change ab_W _ _ _ (List.set G5 80 (ab_ob 12 (mof m_thrown m_taped m_length m_out m_wide m_gathered m_sets m_ranges m_nodes (m_at + 2) m_flags m_fault m_place m_numbered m_depth (wlf (tpk A_tape m_taped (m_at + 2))) m_isNot m_least0 m_most0 m_slot m_work m_got m_rowMany m_charAt m_charWide m_trail m_isMatch m_matchGroups m_allFrom m_allBefore m_founds m_pieces m_writtenMany m_templateWide m_tooMuch))) 177 [some (vR 80), some (vz ic), some (vz m_at), some (vz (tpk A_tape m_taped (m_at + 1))), some (vz (tpk A_tape m_taped (m_at + 2)))] [] _
                            rw [← eG152]
                            refine ab_aload_n d_MO_escape_177 rfl ?_
                            refine ab_iload_n d_MO_escape_178 rfl ?_
                            refine zz_bipush d_MO_escape_179 (by decide) ?_
                            refine zz_icmp_ne (tgt := 188) d_MO_escape_181 (by decide) (by omega) (by decide) (fun c153 => absurd c153 (by omega)) (fun c153 => ?_)
                            refine zz_iconst d_MO_escape_184 ?_
                            refine ab_goto (tgt := 189) d_MO_escape_185 (by decide) ?_
                            refine ab_putf (fs := mof m_thrown m_taped m_length m_out m_wide m_gathered m_sets m_ranges m_nodes (m_at + 2) m_flags m_fault m_place m_numbered m_depth (wlf (tpk A_tape m_taped (m_at + 2))) m_isNot m_least0 m_most0 m_slot m_work m_got m_rowMany m_charAt m_charWide m_trail m_isMatch m_matchGroups m_allFrom m_allBefore m_founds m_pieces m_writtenMany m_templateWide m_tooMuch) f_MO_319 (Or.inl rfl) d_MO_escape_189 h80.2.2 (Nat.le_of_ble_eq_true rfl) (ab_fbz (by decide)) (h80.2.1 (by decide)) ?_
                            obtain ⟨G154, eG154⟩ : ∃ z : ab_G, z = List.set G152 80 (ab_ob 12 (mof m_thrown m_taped m_length m_out m_wide m_gathered m_sets m_ranges m_nodes (m_at + 2) m_flags m_fault m_place m_numbered m_depth (wlf (tpk A_tape m_taped (m_at + 2))) 1 m_least0 m_most0 m_slot m_work m_got m_rowMany m_charAt m_charWide m_trail m_isMatch m_matchGroups m_allFrom m_allBefore m_founds m_pieces m_writtenMany m_templateWide m_tooMuch)) := ⟨_, rfl⟩
                            have h84 := h84.keep h80 eG154 (by decide)
                            have hlen := (z_len eG154).trans hlen
                            have hsl := (z_sl h80 eG154 rfl).trans hsl
                            have hfr := hfr.wr h80 eG154 (by decide)
                            have h80 := h80.kept eG154
                            change ab_W _ _ _ (List.set G152 80 (ab_ob 12 (mof m_thrown m_taped m_length m_out m_wide m_gathered m_sets m_ranges m_nodes (m_at + 2) m_flags m_fault m_place m_numbered m_depth (wlf (tpk A_tape m_taped (m_at + 2))) 1 m_least0 m_most0 m_slot m_work m_got m_rowMany m_charAt m_charWide m_trail m_isMatch m_matchGroups m_allFrom m_allBefore m_founds m_pieces m_writtenMany m_templateWide m_tooMuch))) 192 [some (vR 80), some (vz ic), some (vz m_at), some (vz (tpk A_tape m_taped (m_at + 1))), some (vz (tpk A_tape m_taped (m_at + 2)))] [] _
                            rw [← eG154]
                            refine ab_aload_n d_MO_escape_192 rfl ?_
                            refine ab_dup d_MO_escape_193 rfl ?_
                            refine ab_getf (fs := mof m_thrown m_taped m_length m_out m_wide m_gathered m_sets m_ranges m_nodes (m_at + 2) m_flags m_fault m_place m_numbered m_depth (wlf (tpk A_tape m_taped (m_at + 2))) 1 m_least0 m_most0 m_slot m_work m_got m_rowMany m_charAt m_charWide m_trail m_isMatch m_matchGroups m_allFrom m_allBefore m_founds m_pieces m_writtenMany m_templateWide m_tooMuch) f_MO_279 d_MO_escape_194 h80.2.2 rfl ?_
                            refine zz_iconst d_MO_escape_197 ?_
                            refine zz_iadd d_MO_escape_198 ?_
                            refine ab_putf (fs := mof m_thrown m_taped m_length m_out m_wide m_gathered m_sets m_ranges m_nodes (m_at + 2) m_flags m_fault m_place m_numbered m_depth (wlf (tpk A_tape m_taped (m_at + 2))) 1 m_least0 m_most0 m_slot m_work m_got m_rowMany m_charAt m_charWide m_trail m_isMatch m_matchGroups m_allFrom m_allBefore m_founds m_pieces m_writtenMany m_templateWide m_tooMuch) f_MO_279 (Or.inl rfl) d_MO_escape_199 h80.2.2 (Nat.le_of_ble_eq_true rfl) (fun _ => ⟨rfl, rfl⟩) (h80.2.1 (by decide)) ?_
                            obtain ⟨G155, eG155⟩ : ∃ z : ab_G, z = List.set G154 80 (ab_ob 12 (mof m_thrown m_taped m_length m_out m_wide m_gathered m_sets m_ranges m_nodes ((m_at + 2) + 1) m_flags m_fault m_place m_numbered m_depth (wlf (tpk A_tape m_taped (m_at + 2))) 1 m_least0 m_most0 m_slot m_work m_got m_rowMany m_charAt m_charWide m_trail m_isMatch m_matchGroups m_allFrom m_allBefore m_founds m_pieces m_writtenMany m_templateWide m_tooMuch)) := ⟨_, rfl⟩
                            have h84 := h84.keep h80 eG155 (by decide)
                            have hlen := (z_len eG155).trans hlen
                            have hsl := (z_sl h80 eG155 rfl).trans hsl
                            have hfr := hfr.wr h80 eG155 (by decide)
                            have h80 := h80.kept eG155
                            change ab_W _ _ _ (List.set G154 80 (ab_ob 12 (mof m_thrown m_taped m_length m_out m_wide m_gathered m_sets m_ranges m_nodes ((m_at + 2) + 1) m_flags m_fault m_place m_numbered m_depth (wlf (tpk A_tape m_taped (m_at + 2))) 1 m_least0 m_most0 m_slot m_work m_got m_rowMany m_charAt m_charWide m_trail m_isMatch m_matchGroups m_allFrom m_allBefore m_founds m_pieces m_writtenMany m_templateWide m_tooMuch))) 202 [some (vR 80), some (vz ic), some (vz m_at), some (vz (tpk A_tape m_taped (m_at + 1))), some (vz (tpk A_tape m_taped (m_at + 2)))] [] _
                            rw [← eG155]
                            refine zz_iconst d_MO_escape_202 ?_
                            refine zz_iret rfl d_MO_escape_203 ?_
                            rw [hQ]; exact (Or.inr (Or.inr (Or.inl ⟨_, _, _, (Int.toNat ((wlf (tpk A_tape m_taped (m_at + 2))) + 1)), rfl, hfr, hlen, hsl, h80, (by omega), (by omega), (by rw [show ((m_at + 2) + 1) = (m_at + 3) by omega]; exact es_p (by omega) (by omega) (by omega))⟩)))
                          · refine ab_aload_n d_MO_escape_152 rfl ?_
                            refine zz_bipush d_MO_escape_153 (by decide) ?_
                            refine ab_iload_n d_MO_escape_155 rfl ?_
                            refine ab_callV (d' := d - 1) (as := [vz 7, vz m_at]) (st := []) (r := _) (z_MO_wrong (o := o) (m_thrown := m_thrown) (m_taped := m_taped) (m_length := m_length) (m_out := m_out) (m_wide := m_wide) (m_gathered := m_gathered) (m_sets := m_sets) (m_ranges := m_ranges) (m_nodes := m_nodes) (m_at := (m_at + 2)) (m_flags := m_flags) (m_fault := m_fault) (m_place := m_place) (m_numbered := m_numbered) (m_depth := m_depth) (m_value := m_value) (m_isNot := m_isNot) (m_least0 := m_least0) (m_most0 := m_most0) (m_slot := m_slot) (m_work := m_work) (m_got := m_got) (m_rowMany := m_rowMany) (m_charAt := m_charAt) (m_charWide := m_charWide) (m_trail := m_trail) (m_isMatch := m_isMatch) (m_matchGroups := m_matchGroups) (m_allFrom := m_allFrom) (m_allBefore := m_allBefore) (m_founds := m_founds) (m_pieces := m_pieces) (m_writtenMany := m_writtenMany) (m_templateWide := m_templateWide) (m_tooMuch := m_tooMuch) (x := 7) (y := m_at) h80 (by omega) (by omega)) (fun oc G2 h => by rcases h with ⟨h, _⟩ | ⟨h, _⟩ <;> exact ⟨_, h⟩) (by omega) m_MO_wrong ml_MO_304 im_MO_wrong se_MO_wrong c_MO h80.2.2 (Nat.le_of_ble_eq_true rfl) d_MO_escape_156 rfl ?_
                            intro v G156 hq
                            rcases hq with ⟨hv, hfk, hlk, hsk, hN80, hq157⟩ | ⟨hv, hGe, hq158⟩
                            · cases hv
                              have h84 := hfk.get h84 (by decide)
                              have hfr := hfr.tr hfk (by decide)
                              have hlen := hlk.trans hlen
                              have hsl := hsk.trans hsl
                              have h80 := hN80
                              change ab_W _ _ _ G156 159 [some (vR 80), some (vz ic), some (vz m_at), some (vz (tpk A_tape m_taped (m_at + 1))), some (vz (tpk A_tape m_taped (m_at + 2)))] [] _
                              refine ab_aload_n d_MO_escape_159 rfl ?_
                              refine ab_getf (fs := mof m_thrown m_taped m_length m_out m_wide m_gathered m_sets m_ranges m_nodes (m_at + 2) m_flags 7 m_at m_numbered m_depth m_value m_isNot m_least0 m_most0 m_slot m_work m_got m_rowMany m_charAt m_charWide m_trail m_isMatch m_matchGroups m_allFrom m_allBefore m_founds m_pieces m_writtenMany m_templateWide m_tooMuch) f_MO_273 d_MO_escape_160 h80.2.2 rfl ?_
                              refine zz_if_le (tgt := 168) d_MO_escape_163 (by decide) (by decide) (fun c159 => absurd c159 (by decide)) (fun c159 => ?_)
                              refine zz_iconst d_MO_escape_166 ?_
                              refine zz_iret rfl d_MO_escape_167 ?_
                              rw [hQ]; exact (Or.inl ⟨_, _, _, rfl, hfr, hlen, hsl, h80, (by omega), (by omega), (by exact eb_p7 (by omega) (by omega) (by omega))⟩)
                            · cases hv
                              rw [hGe]
                              change ab_W _ _ _ G5 159 [some (vR 80), some (vz ic), some (vz m_at), some (vz (tpk A_tape m_taped (m_at + 1))), some (vz (tpk A_tape m_taped (m_at + 2)))] [] _
                              exfalso; omega
                        · cases hv
                          rw [hGe]
                          change ab_W _ _ _ G5 128 [some (vR 80), some (vz ic), some (vz m_at), some (vz (tpk A_tape m_taped (m_at + 1))), none] [vz (-1)] _
                          refine ab_istore d_MO_escape_128 (Nat.le_of_ble_eq_true rfl) (Nat.le_of_ble_eq_true rfl) rfl ?_
                          change ab_W _ _ _ G5 130 [some (vR 80), some (vz ic), some (vz m_at), some (vz (tpk A_tape m_taped (m_at + 1))), some (vz (-1))] [] _
                          refine ab_iload d_MO_escape_130 rfl ?_
                          refine zz_if_ge (tgt := 144) d_MO_escape_132 (by decide) (by decide) (fun c160 => absurd c160 (by decide)) (fun c160 => ?_)
                          refine ab_aload_n d_MO_escape_135 rfl ?_
                          refine zz_iconst d_MO_escape_136 ?_
                          refine ab_iload_n d_MO_escape_137 rfl ?_
                          refine ab_callV (d' := d - 1) (as := [vz 5, vz m_at]) (st := []) (r := _) (z_MO_wrong (o := o) (m_thrown := m_thrown) (m_taped := m_taped) (m_length := m_length) (m_out := m_out) (m_wide := m_wide) (m_gathered := m_gathered) (m_sets := m_sets) (m_ranges := m_ranges) (m_nodes := m_nodes) (m_at := (m_at + 2)) (m_flags := m_flags) (m_fault := m_fault) (m_place := m_place) (m_numbered := m_numbered) (m_depth := m_depth) (m_value := m_value) (m_isNot := m_isNot) (m_least0 := m_least0) (m_most0 := m_most0) (m_slot := m_slot) (m_work := m_work) (m_got := m_got) (m_rowMany := m_rowMany) (m_charAt := m_charAt) (m_charWide := m_charWide) (m_trail := m_trail) (m_isMatch := m_isMatch) (m_matchGroups := m_matchGroups) (m_allFrom := m_allFrom) (m_allBefore := m_allBefore) (m_founds := m_founds) (m_pieces := m_pieces) (m_writtenMany := m_writtenMany) (m_templateWide := m_templateWide) (m_tooMuch := m_tooMuch) (x := 5) (y := m_at) h80 (by omega) (by omega)) (fun oc G2 h => by rcases h with ⟨h, _⟩ | ⟨h, _⟩ <;> exact ⟨_, h⟩) (by omega) m_MO_wrong ml_MO_304 im_MO_wrong se_MO_wrong c_MO h80.2.2 (Nat.le_of_ble_eq_true rfl) d_MO_escape_138 rfl ?_
                          intro v G161 hq
                          rcases hq with ⟨hv, hfk, hlk, hsk, hN80, hq162⟩ | ⟨hv, hGe, hq163⟩
                          · cases hv
                            have h84 := hfk.get h84 (by decide)
                            have hfr := hfr.tr hfk (by decide)
                            have hlen := hlk.trans hlen
                            have hsl := hsk.trans hsl
                            have h80 := hN80
                            change ab_W _ _ _ G161 141 [some (vR 80), some (vz ic), some (vz m_at), some (vz (tpk A_tape m_taped (m_at + 1))), some (vz (-1))] [] _
                            refine ab_goto (tgt := 159) d_MO_escape_141 (by decide) ?_
                            refine ab_aload_n d_MO_escape_159 rfl ?_
                            refine ab_getf (fs := mof m_thrown m_taped m_length m_out m_wide m_gathered m_sets m_ranges m_nodes (m_at + 2) m_flags 5 m_at m_numbered m_depth m_value m_isNot m_least0 m_most0 m_slot m_work m_got m_rowMany m_charAt m_charWide m_trail m_isMatch m_matchGroups m_allFrom m_allBefore m_founds m_pieces m_writtenMany m_templateWide m_tooMuch) f_MO_273 d_MO_escape_160 h80.2.2 rfl ?_
                            refine zz_if_le (tgt := 168) d_MO_escape_163 (by decide) (by decide) (fun c164 => absurd c164 (by decide)) (fun c164 => ?_)
                            refine zz_iconst d_MO_escape_166 ?_
                            refine zz_iret rfl d_MO_escape_167 ?_
                            rw [hQ]; exact (Or.inl ⟨_, _, _, rfl, hfr, hlen, hsl, h80, (by omega), (by omega), (by exact eb_p5 (by omega) (by omega))⟩)
                          · cases hv
                            rw [hGe]
                            change ab_W _ _ _ G5 141 [some (vR 80), some (vz ic), some (vz m_at), some (vz (tpk A_tape m_taped (m_at + 1))), some (vz (-1))] [] _
                            exfalso; omega
                  · refine ab_aload_n d_MO_escape_86 rfl ?_
                    refine ab_iload_n d_MO_escape_87 rfl ?_
                    refine ab_callS (d' := d - 1) (as := [vz (tpk A_tape m_taped (m_at + 1))]) (st := [vR 80]) (z_MO_whichSet (o := o) (c := (tpk A_tape m_taped (m_at + 1))) (by omega)) (fun oc G2 h => by rcases h with ⟨_, h, _⟩ <;> exact ⟨_, h⟩) (by omega) m_MO_whichSet ml_MO_316 st_MO_whichSet (Nat.le_of_ble_eq_true rfl) d_MO_escape_88 rfl ?_
                    intro v G165 hq
                    rcases hq with ⟨v166, hv, hGe, hq167, hq168⟩
                    cases hv
                    rw [hGe]
                    change ab_W _ _ _ G5 91 [some (vR 80), some (vz ic), some (vz m_at), some (vz (tpk A_tape m_taped (m_at + 1))), none] [vz v166, vR 80] _
                    refine ab_putf (fs := mof m_thrown m_taped m_length m_out m_wide m_gathered m_sets m_ranges m_nodes (m_at + 2) m_flags m_fault m_place m_numbered m_depth m_value m_isNot m_least0 m_most0 m_slot m_work m_got m_rowMany m_charAt m_charWide m_trail m_isMatch m_matchGroups m_allFrom m_allBefore m_founds m_pieces m_writtenMany m_templateWide m_tooMuch) f_MO_307 (Or.inl rfl) d_MO_escape_91 h80.2.2 (Nat.le_of_ble_eq_true rfl) (fun _ => ⟨rfl, rfl⟩) (h80.2.1 (by decide)) ?_
                    obtain ⟨G169, eG169⟩ : ∃ z : ab_G, z = List.set G5 80 (ab_ob 12 (mof m_thrown m_taped m_length m_out m_wide m_gathered m_sets m_ranges m_nodes (m_at + 2) m_flags m_fault m_place m_numbered m_depth v166 m_isNot m_least0 m_most0 m_slot m_work m_got m_rowMany m_charAt m_charWide m_trail m_isMatch m_matchGroups m_allFrom m_allBefore m_founds m_pieces m_writtenMany m_templateWide m_tooMuch)) := ⟨_, rfl⟩
                    have h84 := h84.keep h80 eG169 (by decide)
                    have hlen := (z_len eG169).trans hlen
                    have hsl := (z_sl h80 eG169 rfl).trans hsl
                    have hfr := hfr.wr h80 eG169 (by decide)
                    have h80 := h80.kept eG169
                    change ab_W _ _ _ (List.set G5 80 (ab_ob 12 (mof m_thrown m_taped m_length m_out m_wide m_gathered m_sets m_ranges m_nodes (m_at + 2) m_flags m_fault m_place m_numbered m_depth v166 m_isNot m_least0 m_most0 m_slot m_work m_got m_rowMany m_charAt m_charWide m_trail m_isMatch m_matchGroups m_allFrom m_allBefore m_founds m_pieces m_writtenMany m_templateWide m_tooMuch))) 94 [some (vR 80), some (vz ic), some (vz m_at), some (vz (tpk A_tape m_taped (m_at + 1))), none] [] _
                    rw [← eG169]
                    refine ab_aload_n d_MO_escape_94 rfl ?_
                    refine ab_iload_n d_MO_escape_95 rfl ?_
                    refine zz_bipush d_MO_escape_96 (by decide) ?_
                    refine zz_icmp_ge (tgt := 105) d_MO_escape_98 (by decide) (by omega) (by decide) (fun c170 => absurd c170 (by omega)) (fun c170 => ?_)
                    refine zz_iconst d_MO_escape_101 ?_
                    refine ab_goto (tgt := 106) d_MO_escape_102 (by decide) ?_
                    refine ab_putf (fs := mof m_thrown m_taped m_length m_out m_wide m_gathered m_sets m_ranges m_nodes (m_at + 2) m_flags m_fault m_place m_numbered m_depth v166 m_isNot m_least0 m_most0 m_slot m_work m_got m_rowMany m_charAt m_charWide m_trail m_isMatch m_matchGroups m_allFrom m_allBefore m_founds m_pieces m_writtenMany m_templateWide m_tooMuch) f_MO_319 (Or.inl rfl) d_MO_escape_106 h80.2.2 (Nat.le_of_ble_eq_true rfl) (ab_fbz (by decide)) (h80.2.1 (by decide)) ?_
                    obtain ⟨G171, eG171⟩ : ∃ z : ab_G, z = List.set G169 80 (ab_ob 12 (mof m_thrown m_taped m_length m_out m_wide m_gathered m_sets m_ranges m_nodes (m_at + 2) m_flags m_fault m_place m_numbered m_depth v166 1 m_least0 m_most0 m_slot m_work m_got m_rowMany m_charAt m_charWide m_trail m_isMatch m_matchGroups m_allFrom m_allBefore m_founds m_pieces m_writtenMany m_templateWide m_tooMuch)) := ⟨_, rfl⟩
                    have h84 := h84.keep h80 eG171 (by decide)
                    have hlen := (z_len eG171).trans hlen
                    have hsl := (z_sl h80 eG171 rfl).trans hsl
                    have hfr := hfr.wr h80 eG171 (by decide)
                    have h80 := h80.kept eG171
                    change ab_W _ _ _ (List.set G169 80 (ab_ob 12 (mof m_thrown m_taped m_length m_out m_wide m_gathered m_sets m_ranges m_nodes (m_at + 2) m_flags m_fault m_place m_numbered m_depth v166 1 m_least0 m_most0 m_slot m_work m_got m_rowMany m_charAt m_charWide m_trail m_isMatch m_matchGroups m_allFrom m_allBefore m_founds m_pieces m_writtenMany m_templateWide m_tooMuch))) 109 [some (vR 80), some (vz ic), some (vz m_at), some (vz (tpk A_tape m_taped (m_at + 1))), none] [] _
                    rw [← eG171]
                    refine zz_iconst d_MO_escape_109 ?_
                    refine zz_iret rfl d_MO_escape_110 ?_
                    rw [hQ]; exact (Or.inr (Or.inr (Or.inl ⟨_, _, _, (Int.toNat (v166 + 1)), rfl, hfr, hlen, hsl, h80, (by omega), (by omega), (by exact es_k (w := v166) (by omega) (by omega))⟩)))
      · have hct_ := ctf_0 (c := (tpk A_tape m_taped (m_at + 1))) (by omega)
        refine ab_aload_n d_MO_escape_40 rfl ?_
        refine ab_iload_n d_MO_escape_41 rfl ?_
        refine ab_callS (d' := d - 1) (as := [vz (tpk A_tape m_taped (m_at + 1))]) (st := [vR 80]) (z_MO_control (o := o) (c := (tpk A_tape m_taped (m_at + 1))) (by omega)) (fun oc G2 h => by rcases h with ⟨h, _⟩ <;> exact ⟨_, h⟩) (by omega) m_MO_control ml_MO_313 st_MO_control (Nat.le_of_ble_eq_true rfl) d_MO_escape_42 rfl ?_
        intro v G172 hq
        rcases hq with ⟨hv, hGe, hq173⟩
        cases hv
        rw [hGe]
        change ab_W _ _ _ G5 45 [some (vR 80), some (vz ic), some (vz m_at), some (vz (tpk A_tape m_taped (m_at + 1))), none] [vz (ctf (tpk A_tape m_taped (m_at + 1))), vR 80] _
        refine ab_putf (fs := mof m_thrown m_taped m_length m_out m_wide m_gathered m_sets m_ranges m_nodes (m_at + 2) m_flags m_fault m_place m_numbered m_depth m_value m_isNot m_least0 m_most0 m_slot m_work m_got m_rowMany m_charAt m_charWide m_trail m_isMatch m_matchGroups m_allFrom m_allBefore m_founds m_pieces m_writtenMany m_templateWide m_tooMuch) f_MO_307 (Or.inl rfl) d_MO_escape_45 h80.2.2 (Nat.le_of_ble_eq_true rfl) (fun _ => ⟨rfl, rfl⟩) (h80.2.1 (by decide)) ?_
        obtain ⟨G174, eG174⟩ : ∃ z : ab_G, z = List.set G5 80 (ab_ob 12 (mof m_thrown m_taped m_length m_out m_wide m_gathered m_sets m_ranges m_nodes (m_at + 2) m_flags m_fault m_place m_numbered m_depth (ctf (tpk A_tape m_taped (m_at + 1))) m_isNot m_least0 m_most0 m_slot m_work m_got m_rowMany m_charAt m_charWide m_trail m_isMatch m_matchGroups m_allFrom m_allBefore m_founds m_pieces m_writtenMany m_templateWide m_tooMuch)) := ⟨_, rfl⟩
        have h84 := h84.keep h80 eG174 (by decide)
        have hlen := (z_len eG174).trans hlen
        have hsl := (z_sl h80 eG174 rfl).trans hsl
        have hfr := hfr.wr h80 eG174 (by decide)
        have h80 := h80.kept eG174
        change ab_W _ _ _ (List.set G5 80 (ab_ob 12 (mof m_thrown m_taped m_length m_out m_wide m_gathered m_sets m_ranges m_nodes (m_at + 2) m_flags m_fault m_place m_numbered m_depth (ctf (tpk A_tape m_taped (m_at + 1))) m_isNot m_least0 m_most0 m_slot m_work m_got m_rowMany m_charAt m_charWide m_trail m_isMatch m_matchGroups m_allFrom m_allBefore m_founds m_pieces m_writtenMany m_templateWide m_tooMuch))) 48 [some (vR 80), some (vz ic), some (vz m_at), some (vz (tpk A_tape m_taped (m_at + 1))), none] [] _
        rw [← eG174]
        refine zz_iconst d_MO_escape_48 ?_
        refine zz_iret rfl d_MO_escape_49 ?_
        rw [hQ]; exact (Or.inr (Or.inl ⟨_, _, rfl, hfr, hlen, hsl, h80, (by omega), (by exact es_ct (by omega))⟩))
    · refine ab_aload_n d_MO_escape_27 rfl ?_
      refine ab_iload_n d_MO_escape_28 rfl ?_
      refine ab_callV (d' := d - 1) (as := [vz m_at]) (st := []) (r := _) (z_MO_hexadecimal (o := o) (m_thrown := m_thrown) (m_taped := m_taped) (m_length := m_length) (m_out := m_out) (m_wide := m_wide) (m_gathered := m_gathered) (m_sets := m_sets) (m_ranges := m_ranges) (m_nodes := m_nodes) (m_at := (m_at + 2)) (m_flags := m_flags) (m_fault := m_fault) (m_place := m_place) (m_numbered := m_numbered) (m_depth := m_depth) (m_value := m_value) (m_isNot := m_isNot) (m_least0 := m_least0) (m_most0 := m_most0) (m_slot := m_slot) (m_work := m_work) (m_got := m_got) (m_rowMany := m_rowMany) (m_charAt := m_charAt) (m_charWide := m_charWide) (m_trail := m_trail) (m_isMatch := m_isMatch) (m_matchGroups := m_matchGroups) (m_allFrom := m_allFrom) (m_allBefore := m_allBefore) (m_founds := m_founds) (m_pieces := m_pieces) (m_writtenMany := m_writtenMany) (m_templateWide := m_templateWide) (m_tooMuch := m_tooMuch) (A_tape := A_tape) (wh := m_at) h80 h84 (by omega) (by omega) jtp (by omega) (by omega) (by omega) (by omega)) (fun oc G2 h => by rcases h with ⟨_, _, _, h, _⟩ | ⟨_, _, h, _⟩ <;> exact ⟨_, h⟩) (by omega) m_MO_hexadecimal ml_MO_310 im_MO_hexadecimal se_MO_hexadecimal c_MO h80.2.2 (Nat.le_of_ble_eq_true rfl) d_MO_escape_29 rfl ?_
      intro v G175 hq
      rcases hq with ⟨a2176, f2177, p2178, hv, hfk, hlk, hsk, hN80, hq179, hq180, hq181⟩ | ⟨a2182, v2183, hv, hfk, hlk, hsk, hN80, hq184, hq185⟩
      · cases hv
        have h84 := hfk.get h84 (by decide)
        have hfr := hfr.tr hfk (by decide)
        have hlen := hlk.trans hlen
        have hsl := hsk.trans hsl
        have h80 := hN80
        change ab_W _ _ _ G175 32 [some (vR 80), some (vz ic), some (vz m_at), some (vz (tpk A_tape m_taped (m_at + 1))), none] [vz (-1)] _
        refine zz_iret rfl d_MO_escape_32 ?_
        rw [hQ]; exact (Or.inl ⟨_, _, _, rfl, hfr, hlen, hsl, h80, (by omega), (by omega), (by rw [show f2177 = 5 by omega]; exact eb_hx (by omega) hq181)⟩)
      · cases hv
        have h84 := hfk.get h84 (by decide)
        have hfr := hfr.tr hfk (by decide)
        have hlen := hlk.trans hlen
        have hsl := hsk.trans hsl
        have h80 := hN80
        change ab_W _ _ _ G175 32 [some (vR 80), some (vz ic), some (vz m_at), some (vz (tpk A_tape m_taped (m_at + 1))), none] [vz 0] _
        refine zz_iret rfl d_MO_escape_32 ?_
        rw [hQ]; exact (Or.inr (Or.inl ⟨_, _, rfl, hfr, hlen, hsl, h80, (by omega), (by exact es_hx (by omega) hq185)⟩))
  · cases hv
    rw [hGe]
    change ab_W _ _ _ G 10 [some (vR 80), some (vz ic), some (vz m_at), none, none] [vz (-1)] _
    refine ab_istore_n d_MO_escape_10 (Nat.le_of_ble_eq_true rfl) (Nat.le_of_ble_eq_true rfl) rfl ?_
    change ab_W _ _ _ G 11 [some (vR 80), some (vz ic), some (vz m_at), some (vz (-1)), none] [] _
    refine ab_aload_n d_MO_escape_11 rfl ?_
    refine ab_dup d_MO_escape_12 rfl ?_
    refine ab_getf (fs := mof m_thrown m_taped m_length m_out m_wide m_gathered m_sets m_ranges m_nodes m_at m_flags m_fault m_place m_numbered m_depth m_value m_isNot m_least0 m_most0 m_slot m_work m_got m_rowMany m_charAt m_charWide m_trail m_isMatch m_matchGroups m_allFrom m_allBefore m_founds m_pieces m_writtenMany m_templateWide m_tooMuch) f_MO_279 d_MO_escape_13 h80.2.2 rfl ?_
    refine zz_iconst d_MO_escape_16 ?_
    refine zz_iadd d_MO_escape_17 ?_
    refine ab_putf (fs := mof m_thrown m_taped m_length m_out m_wide m_gathered m_sets m_ranges m_nodes m_at m_flags m_fault m_place m_numbered m_depth m_value m_isNot m_least0 m_most0 m_slot m_work m_got m_rowMany m_charAt m_charWide m_trail m_isMatch m_matchGroups m_allFrom m_allBefore m_founds m_pieces m_writtenMany m_templateWide m_tooMuch) f_MO_279 (Or.inl rfl) d_MO_escape_18 h80.2.2 (Nat.le_of_ble_eq_true rfl) (fun _ => ⟨rfl, rfl⟩) (h80.2.1 (by decide)) ?_
    obtain ⟨G186, eG186⟩ : ∃ z : ab_G, z = List.set G 80 (ab_ob 12 (mof m_thrown m_taped m_length m_out m_wide m_gathered m_sets m_ranges m_nodes (m_at + 2) m_flags m_fault m_place m_numbered m_depth m_value m_isNot m_least0 m_most0 m_slot m_work m_got m_rowMany m_charAt m_charWide m_trail m_isMatch m_matchGroups m_allFrom m_allBefore m_founds m_pieces m_writtenMany m_templateWide m_tooMuch)) := ⟨_, rfl⟩
    have h84 := h84.keep h80 eG186 (by decide)
    have hlen := (z_len eG186).trans hlen
    have hsl := (z_sl h80 eG186 rfl).trans hsl
    have hfr := hfr.wr h80 eG186 (by decide)
    have h80 := h80.kept eG186
    change ab_W _ _ _ (List.set G 80 (ab_ob 12 (mof m_thrown m_taped m_length m_out m_wide m_gathered m_sets m_ranges m_nodes (m_at + 2) m_flags m_fault m_place m_numbered m_depth m_value m_isNot m_least0 m_most0 m_slot m_work m_got m_rowMany m_charAt m_charWide m_trail m_isMatch m_matchGroups m_allFrom m_allBefore m_founds m_pieces m_writtenMany m_templateWide m_tooMuch))) 21 [some (vR 80), some (vz ic), some (vz m_at), some (vz (-1)), none] [] _
    rw [← eG186]
    refine ab_iload_n d_MO_escape_21 rfl ?_
    refine zz_bipush d_MO_escape_22 (by decide) ?_
    refine zz_icmp_ne (tgt := 33) d_MO_escape_24 (by decide) (by decide) (by decide) (fun c187 => ?_) (fun c187 => absurd c187 (by decide))
    refine ab_iload_n d_MO_escape_33 rfl ?_
    refine ab_callS (d' := d - 1) (as := [vz (-1)]) (st := []) (z_MO_control (o := o) (c := (-1)) (by omega)) (fun oc G2 h => by rcases h with ⟨h, _⟩ <;> exact ⟨_, h⟩) (by omega) m_MO_control ml_MO_313 st_MO_control (Nat.le_of_ble_eq_true rfl) d_MO_escape_34 rfl ?_
    intro v G188 hq
    rcases hq with ⟨hv, hGe, hq189⟩
    cases hv
    rw [hGe]
    change ab_W _ _ _ G186 37 [some (vR 80), some (vz ic), some (vz m_at), some (vz (-1)), none] [vz (ctf (-1))] _
    refine zz_if_lt (tgt := 50) d_MO_escape_37 (by decide) (by omega) (fun c190 => ?_) (fun c190 => ?_)
    · refine ab_iload_n d_MO_escape_50 rfl ?_
      refine zz_bipush d_MO_escape_51 (by decide) ?_
      refine zz_icmp_eq (tgt := 86) d_MO_escape_53 (by decide) (by decide) (by decide) (fun c191 => absurd c191 (by decide)) (fun c191 => ?_)
      refine ab_iload_n d_MO_escape_56 rfl ?_
      refine zz_bipush d_MO_escape_57 (by decide) ?_
      refine zz_icmp_eq (tgt := 86) d_MO_escape_59 (by decide) (by decide) (by decide) (fun c192 => absurd c192 (by decide)) (fun c192 => ?_)
      refine ab_iload_n d_MO_escape_62 rfl ?_
      refine zz_bipush d_MO_escape_63 (by decide) ?_
      refine zz_icmp_eq (tgt := 86) d_MO_escape_65 (by decide) (by decide) (by decide) (fun c193 => absurd c193 (by decide)) (fun c193 => ?_)
      refine ab_iload_n d_MO_escape_68 rfl ?_
      refine zz_bipush d_MO_escape_69 (by decide) ?_
      refine zz_icmp_eq (tgt := 86) d_MO_escape_71 (by decide) (by decide) (by decide) (fun c194 => absurd c194 (by decide)) (fun c194 => ?_)
      refine ab_iload_n d_MO_escape_74 rfl ?_
      refine zz_bipush d_MO_escape_75 (by decide) ?_
      refine zz_icmp_eq (tgt := 86) d_MO_escape_77 (by decide) (by decide) (by decide) (fun c195 => absurd c195 (by decide)) (fun c195 => ?_)
      refine ab_iload_n d_MO_escape_80 rfl ?_
      refine zz_bipush d_MO_escape_81 (by decide) ?_
      refine zz_icmp_ne (tgt := 111) d_MO_escape_83 (by decide) (by decide) (by decide) (fun c196 => ?_) (fun c196 => absurd c196 (by decide))
      refine ab_iload_n d_MO_escape_111 rfl ?_
      refine zz_bipush d_MO_escape_112 (by decide) ?_
      refine zz_icmp_eq (tgt := 123) d_MO_escape_114 (by decide) (by decide) (by decide) (fun c197 => absurd c197 (by decide)) (fun c197 => ?_)
      refine ab_iload_n d_MO_escape_117 rfl ?_
      refine zz_bipush d_MO_escape_118 (by decide) ?_
      refine zz_icmp_ne (tgt := 204) d_MO_escape_120 (by decide) (by decide) (by decide) (fun c198 => ?_) (fun c198 => absurd c198 (by decide))
      refine ab_iload_n d_MO_escape_204 rfl ?_
      refine zz_if_ne (tgt := 269) d_MO_escape_205 (by decide) (by omega) (fun c199 => ?_) (fun c199 => ?_)
      · replace c199 : nzq ic 0 := c199
        refine ab_iload_n d_MO_escape_269 rfl ?_
        refine zz_if_ne (tgt := 281) d_MO_escape_270 (by decide) (by omega) (fun c200 => ?_) (fun c200 => ?_)
        · replace c200 : nzq ic 0 := c200
          refine ab_iload_n d_MO_escape_281 rfl ?_
          refine zz_if_lt (tgt := 298) d_MO_escape_282 (by decide) (by decide) (fun c201 => ?_) (fun c201 => absurd c201 (by decide))
          refine ab_aload_n d_MO_escape_298 rfl ?_
          refine zz_iconst d_MO_escape_299 ?_
          refine ab_iload_n d_MO_escape_300 rfl ?_
          refine ab_callV (d' := d - 1) (as := [vz 5, vz m_at]) (st := []) (r := _) (z_MO_wrong (o := o) (m_thrown := m_thrown) (m_taped := m_taped) (m_length := m_length) (m_out := m_out) (m_wide := m_wide) (m_gathered := m_gathered) (m_sets := m_sets) (m_ranges := m_ranges) (m_nodes := m_nodes) (m_at := (m_at + 2)) (m_flags := m_flags) (m_fault := m_fault) (m_place := m_place) (m_numbered := m_numbered) (m_depth := m_depth) (m_value := m_value) (m_isNot := m_isNot) (m_least0 := m_least0) (m_most0 := m_most0) (m_slot := m_slot) (m_work := m_work) (m_got := m_got) (m_rowMany := m_rowMany) (m_charAt := m_charAt) (m_charWide := m_charWide) (m_trail := m_trail) (m_isMatch := m_isMatch) (m_matchGroups := m_matchGroups) (m_allFrom := m_allFrom) (m_allBefore := m_allBefore) (m_founds := m_founds) (m_pieces := m_pieces) (m_writtenMany := m_writtenMany) (m_templateWide := m_templateWide) (m_tooMuch := m_tooMuch) (x := 5) (y := m_at) h80 (by omega) (by omega)) (fun oc G2 h => by rcases h with ⟨h, _⟩ | ⟨h, _⟩ <;> exact ⟨_, h⟩) (by omega) m_MO_wrong ml_MO_304 im_MO_wrong se_MO_wrong c_MO h80.2.2 (Nat.le_of_ble_eq_true rfl) d_MO_escape_301 rfl ?_
          intro v G202 hq
          rcases hq with ⟨hv, hfk, hlk, hsk, hN80, hq203⟩ | ⟨hv, hGe, hq204⟩
          · cases hv
            have h84 := hfk.get h84 (by decide)
            have hfr := hfr.tr hfk (by decide)
            have hlen := hlk.trans hlen
            have hsl := hsk.trans hsl
            have h80 := hN80
            change ab_W _ _ _ G202 304 [some (vR 80), some (vz ic), some (vz m_at), some (vz (-1)), none] [] _
            refine zz_iconst d_MO_escape_304 ?_
            refine zz_iret rfl d_MO_escape_305 ?_
            rw [hQ]; exact (Or.inl ⟨_, _, _, rfl, hfr, hlen, hsl, h80, (by omega), (by omega), (by exact eb_n (by omega))⟩)
          · cases hv
            rw [hGe]
            change ab_W _ _ _ G186 304 [some (vR 80), some (vz ic), some (vz m_at), some (vz (-1)), none] [] _
            exfalso; omega
        · refine ab_iload_n d_MO_escape_273 rfl ?_
          refine zz_bipush d_MO_escape_274 (by decide) ?_
          refine zz_icmp_ne (tgt := 281) d_MO_escape_276 (by decide) (by decide) (by decide) (fun c205 => ?_) (fun c205 => absurd c205 (by decide))
          refine ab_iload_n d_MO_escape_281 rfl ?_
          refine zz_if_lt (tgt := 298) d_MO_escape_282 (by decide) (by decide) (fun c206 => ?_) (fun c206 => absurd c206 (by decide))
          refine ab_aload_n d_MO_escape_298 rfl ?_
          refine zz_iconst d_MO_escape_299 ?_
          refine ab_iload_n d_MO_escape_300 rfl ?_
          refine ab_callV (d' := d - 1) (as := [vz 5, vz m_at]) (st := []) (r := _) (z_MO_wrong (o := o) (m_thrown := m_thrown) (m_taped := m_taped) (m_length := m_length) (m_out := m_out) (m_wide := m_wide) (m_gathered := m_gathered) (m_sets := m_sets) (m_ranges := m_ranges) (m_nodes := m_nodes) (m_at := (m_at + 2)) (m_flags := m_flags) (m_fault := m_fault) (m_place := m_place) (m_numbered := m_numbered) (m_depth := m_depth) (m_value := m_value) (m_isNot := m_isNot) (m_least0 := m_least0) (m_most0 := m_most0) (m_slot := m_slot) (m_work := m_work) (m_got := m_got) (m_rowMany := m_rowMany) (m_charAt := m_charAt) (m_charWide := m_charWide) (m_trail := m_trail) (m_isMatch := m_isMatch) (m_matchGroups := m_matchGroups) (m_allFrom := m_allFrom) (m_allBefore := m_allBefore) (m_founds := m_founds) (m_pieces := m_pieces) (m_writtenMany := m_writtenMany) (m_templateWide := m_templateWide) (m_tooMuch := m_tooMuch) (x := 5) (y := m_at) h80 (by omega) (by omega)) (fun oc G2 h => by rcases h with ⟨h, _⟩ | ⟨h, _⟩ <;> exact ⟨_, h⟩) (by omega) m_MO_wrong ml_MO_304 im_MO_wrong se_MO_wrong c_MO h80.2.2 (Nat.le_of_ble_eq_true rfl) d_MO_escape_301 rfl ?_
          intro v G207 hq
          rcases hq with ⟨hv, hfk, hlk, hsk, hN80, hq208⟩ | ⟨hv, hGe, hq209⟩
          · cases hv
            have h84 := hfk.get h84 (by decide)
            have hfr := hfr.tr hfk (by decide)
            have hlen := hlk.trans hlen
            have hsl := hsk.trans hsl
            have h80 := hN80
            change ab_W _ _ _ G207 304 [some (vR 80), some (vz ic), some (vz m_at), some (vz (-1)), none] [] _
            refine zz_iconst d_MO_escape_304 ?_
            refine zz_iret rfl d_MO_escape_305 ?_
            rw [hQ]; exact (Or.inl ⟨_, _, _, rfl, hfr, hlen, hsl, h80, (by omega), (by omega), (by exact eb_n (by omega))⟩)
          · cases hv
            rw [hGe]
            change ab_W _ _ _ G186 304 [some (vR 80), some (vz ic), some (vz m_at), some (vz (-1)), none] [] _
            exfalso; omega
      · refine ab_iload_n d_MO_escape_208 rfl ?_
        refine zz_bipush d_MO_escape_209 (by decide) ?_
        refine zz_icmp_eq (tgt := 232) d_MO_escape_211 (by decide) (by decide) (by decide) (fun c210 => absurd c210 (by decide)) (fun c210 => ?_)
        refine ab_iload_n d_MO_escape_214 rfl ?_
        refine zz_bipush d_MO_escape_215 (by decide) ?_
        refine zz_icmp_eq (tgt := 232) d_MO_escape_217 (by decide) (by decide) (by decide) (fun c211 => absurd c211 (by decide)) (fun c211 => ?_)
        refine ab_iload_n d_MO_escape_220 rfl ?_
        refine zz_bipush d_MO_escape_221 (by decide) ?_
        refine zz_icmp_eq (tgt := 232) d_MO_escape_223 (by decide) (by decide) (by decide) (fun c212 => absurd c212 (by decide)) (fun c212 => ?_)
        refine ab_iload_n d_MO_escape_226 rfl ?_
        refine zz_bipush d_MO_escape_227 (by decide) ?_
        refine zz_icmp_ne (tgt := 269) d_MO_escape_229 (by decide) (by decide) (by decide) (fun c213 => ?_) (fun c213 => absurd c213 (by decide))
        refine ab_iload_n d_MO_escape_269 rfl ?_
        refine zz_if_ne (tgt := 281) d_MO_escape_270 (by decide) (by omega) (fun c214 => absurd c214 (by omega)) (fun c214 => ?_)
        refine ab_iload_n d_MO_escape_273 rfl ?_
        refine zz_bipush d_MO_escape_274 (by decide) ?_
        refine zz_icmp_ne (tgt := 281) d_MO_escape_276 (by decide) (by decide) (by decide) (fun c215 => ?_) (fun c215 => absurd c215 (by decide))
        refine ab_iload_n d_MO_escape_281 rfl ?_
        refine zz_if_lt (tgt := 298) d_MO_escape_282 (by decide) (by decide) (fun c216 => ?_) (fun c216 => absurd c216 (by decide))
        refine ab_aload_n d_MO_escape_298 rfl ?_
        refine zz_iconst d_MO_escape_299 ?_
        refine ab_iload_n d_MO_escape_300 rfl ?_
        refine ab_callV (d' := d - 1) (as := [vz 5, vz m_at]) (st := []) (r := _) (z_MO_wrong (o := o) (m_thrown := m_thrown) (m_taped := m_taped) (m_length := m_length) (m_out := m_out) (m_wide := m_wide) (m_gathered := m_gathered) (m_sets := m_sets) (m_ranges := m_ranges) (m_nodes := m_nodes) (m_at := (m_at + 2)) (m_flags := m_flags) (m_fault := m_fault) (m_place := m_place) (m_numbered := m_numbered) (m_depth := m_depth) (m_value := m_value) (m_isNot := m_isNot) (m_least0 := m_least0) (m_most0 := m_most0) (m_slot := m_slot) (m_work := m_work) (m_got := m_got) (m_rowMany := m_rowMany) (m_charAt := m_charAt) (m_charWide := m_charWide) (m_trail := m_trail) (m_isMatch := m_isMatch) (m_matchGroups := m_matchGroups) (m_allFrom := m_allFrom) (m_allBefore := m_allBefore) (m_founds := m_founds) (m_pieces := m_pieces) (m_writtenMany := m_writtenMany) (m_templateWide := m_templateWide) (m_tooMuch := m_tooMuch) (x := 5) (y := m_at) h80 (by omega) (by omega)) (fun oc G2 h => by rcases h with ⟨h, _⟩ | ⟨h, _⟩ <;> exact ⟨_, h⟩) (by omega) m_MO_wrong ml_MO_304 im_MO_wrong se_MO_wrong c_MO h80.2.2 (Nat.le_of_ble_eq_true rfl) d_MO_escape_301 rfl ?_
        intro v G217 hq
        rcases hq with ⟨hv, hfk, hlk, hsk, hN80, hq218⟩ | ⟨hv, hGe, hq219⟩
        · cases hv
          have h84 := hfk.get h84 (by decide)
          have hfr := hfr.tr hfk (by decide)
          have hlen := hlk.trans hlen
          have hsl := hsk.trans hsl
          have h80 := hN80
          change ab_W _ _ _ G217 304 [some (vR 80), some (vz ic), some (vz m_at), some (vz (-1)), none] [] _
          refine zz_iconst d_MO_escape_304 ?_
          refine zz_iret rfl d_MO_escape_305 ?_
          rw [hQ]; exact (Or.inl ⟨_, _, _, rfl, hfr, hlen, hsl, h80, (by omega), (by omega), (by exact eb_n (by omega))⟩)
        · cases hv
          rw [hGe]
          change ab_W _ _ _ G186 304 [some (vR 80), some (vz ic), some (vz m_at), some (vz (-1)), none] [] _
          exfalso; omega
    · have hct_ := ctf_0 (c := (-1)) (by omega)
      refine ab_aload_n d_MO_escape_40 rfl ?_
      refine ab_iload_n d_MO_escape_41 rfl ?_
      refine ab_callS (d' := d - 1) (as := [vz (-1)]) (st := [vR 80]) (z_MO_control (o := o) (c := (-1)) (by omega)) (fun oc G2 h => by rcases h with ⟨h, _⟩ <;> exact ⟨_, h⟩) (by omega) m_MO_control ml_MO_313 st_MO_control (Nat.le_of_ble_eq_true rfl) d_MO_escape_42 rfl ?_
      intro v G220 hq
      rcases hq with ⟨hv, hGe, hq221⟩
      cases hv
      rw [hGe]
      change ab_W _ _ _ G186 45 [some (vR 80), some (vz ic), some (vz m_at), some (vz (-1)), none] [vz (ctf (-1)), vR 80] _
      refine ab_putf (fs := mof m_thrown m_taped m_length m_out m_wide m_gathered m_sets m_ranges m_nodes (m_at + 2) m_flags m_fault m_place m_numbered m_depth m_value m_isNot m_least0 m_most0 m_slot m_work m_got m_rowMany m_charAt m_charWide m_trail m_isMatch m_matchGroups m_allFrom m_allBefore m_founds m_pieces m_writtenMany m_templateWide m_tooMuch) f_MO_307 (Or.inl rfl) d_MO_escape_45 h80.2.2 (Nat.le_of_ble_eq_true rfl) (fun _ => ⟨rfl, rfl⟩) (h80.2.1 (by decide)) ?_
      obtain ⟨G222, eG222⟩ : ∃ z : ab_G, z = List.set G186 80 (ab_ob 12 (mof m_thrown m_taped m_length m_out m_wide m_gathered m_sets m_ranges m_nodes (m_at + 2) m_flags m_fault m_place m_numbered m_depth (ctf (-1)) m_isNot m_least0 m_most0 m_slot m_work m_got m_rowMany m_charAt m_charWide m_trail m_isMatch m_matchGroups m_allFrom m_allBefore m_founds m_pieces m_writtenMany m_templateWide m_tooMuch)) := ⟨_, rfl⟩
      have h84 := h84.keep h80 eG222 (by decide)
      have hlen := (z_len eG222).trans hlen
      have hsl := (z_sl h80 eG222 rfl).trans hsl
      have hfr := hfr.wr h80 eG222 (by decide)
      have h80 := h80.kept eG222
      change ab_W _ _ _ (List.set G186 80 (ab_ob 12 (mof m_thrown m_taped m_length m_out m_wide m_gathered m_sets m_ranges m_nodes (m_at + 2) m_flags m_fault m_place m_numbered m_depth (ctf (-1)) m_isNot m_least0 m_most0 m_slot m_work m_got m_rowMany m_charAt m_charWide m_trail m_isMatch m_matchGroups m_allFrom m_allBefore m_founds m_pieces m_writtenMany m_templateWide m_tooMuch))) 48 [some (vR 80), some (vz ic), some (vz m_at), some (vz (-1)), none] [] _
      rw [← eG222]
      refine zz_iconst d_MO_escape_48 ?_
      exfalso; omega
set_option maxRecDepth 100000 in
set_option maxHeartbeats 4000000 in
theorem z_MO_plain {X : ab_X} {d : Nat} {o : Nat → Nat} {G : ab_G} {m_thrown : Int} {m_taped : Int} {m_length : Int} {m_out : Int} {m_wide : Int} {m_gathered : Int} {m_sets : Int} {m_ranges : Int} {m_nodes : Int} {m_at : Int} {m_flags : Int} {m_fault : Int} {m_place : Int} {m_numbered : Int} {m_depth : Int} {m_value : Int} {m_isNot : Int} {m_least0 : Int} {m_most0 : Int} {m_slot : Int} {m_work : Int} {m_got : Int} {m_rowMany : Int} {m_charAt : Int} {m_charWide : Int} {m_trail : Int} {m_isMatch : Int} {m_matchGroups : Int} {m_allFrom : Int} {m_allBefore : Int} {m_founds : Int} {m_pieces : Int} {m_writtenMany : Int} {m_templateWide : Int} {m_tooMuch : Int} {A_tape : Int → Int} (h80 : cc o G 80 280 (ab_ob 12 (mof m_thrown m_taped m_length m_out m_wide m_gathered m_sets m_ranges m_nodes m_at m_flags m_fault m_place m_numbered m_depth m_value m_isNot m_least0 m_most0 m_slot m_work m_got m_rowMany m_charAt m_charWide m_trail m_isMatch m_matchGroups m_allFrom m_allBefore m_founds m_pieces m_writtenMany m_templateWide m_tooMuch))) (h84 : cc o G 84 284 (za 2000 A_tape)) (n18 : ab_n0 = 18) (cta : 0 ≤ m_taped ∧ m_taped ≤ 2000) (jtp : rgs A_tape 2000 0 255) (cat : 0 ≤ m_at ∧ m_at < m_taped) (cf : m_fault = 0) (hd : 3 ≤ d) : ab_F X d y_MO_plain (.code y_MO_plain b_MO_plain 2 (some (.int))) [vR 80] G (fun oc G2 => (∃ w2 : Int, ∃ f2 : Int, ∃ p2 : Int, oc = .returned (some (vz (-1))) ∧ fx o o [280] G G2 ∧ G2.length = G.length ∧ ab_slots G2 = ab_slots G ∧ cc o G2 80 280 (ab_ob 12 (mof m_thrown m_taped m_length m_out w2 m_gathered m_sets m_ranges m_nodes m_at m_flags f2 p2 m_numbered m_depth m_value m_isNot m_least0 m_most0 m_slot m_work m_got m_rowMany m_charAt m_charWide m_trail m_isMatch m_matchGroups m_allFrom m_allBefore m_founds m_pieces m_writtenMany m_templateWide m_tooMuch)) ∧ (1 ≤ f2 ∧ f2 ≤ 14) ∧ (f2 = 1 ∧ p2 = m_at) ∧ (u8 A_tape m_taped m_at = -1)) ∨ (∃ v : Int, ∃ w2 : Int, ∃ a2 : Int, oc = .returned (some (vz v)) ∧ fx o o [280] G G2 ∧ G2.length = G.length ∧ ab_slots G2 = ab_slots G ∧ cc o G2 80 280 (ab_ob 12 (mof m_thrown m_taped m_length m_out w2 m_gathered m_sets m_ranges m_nodes a2 m_flags m_fault m_place m_numbered m_depth m_value m_isNot m_least0 m_most0 m_slot m_work m_got m_rowMany m_charAt m_charWide m_trail m_isMatch m_matchGroups m_allFrom m_allBefore m_founds m_pieces m_writtenMany m_templateWide m_tooMuch)) ∧ (0 ≤ v ∧ v ≤ 1114111 ∧ m_at + 1 ≤ a2 ∧ a2 ≤ m_taped) ∧ (v = u8 A_tape m_taped m_at) ∧ (a2 = m_at + wd v))) := by
  refine ab_F_of (by decide +kernel) (Nat.le_of_ble_eq_true rfl) ?_
  obtain ⟨Q, hQ⟩ : ∃ z : Outcome → ab_G → Prop, z = (fun oc G2 => (∃ w2 : Int, ∃ f2 : Int, ∃ p2 : Int, oc = .returned (some (vz (-1))) ∧ fx o o [280] G G2 ∧ G2.length = G.length ∧ ab_slots G2 = ab_slots G ∧ cc o G2 80 280 (ab_ob 12 (mof m_thrown m_taped m_length m_out w2 m_gathered m_sets m_ranges m_nodes m_at m_flags f2 p2 m_numbered m_depth m_value m_isNot m_least0 m_most0 m_slot m_work m_got m_rowMany m_charAt m_charWide m_trail m_isMatch m_matchGroups m_allFrom m_allBefore m_founds m_pieces m_writtenMany m_templateWide m_tooMuch)) ∧ (1 ≤ f2 ∧ f2 ≤ 14) ∧ (f2 = 1 ∧ p2 = m_at) ∧ (u8 A_tape m_taped m_at = -1)) ∨ (∃ v : Int, ∃ w2 : Int, ∃ a2 : Int, oc = .returned (some (vz v)) ∧ fx o o [280] G G2 ∧ G2.length = G.length ∧ ab_slots G2 = ab_slots G ∧ cc o G2 80 280 (ab_ob 12 (mof m_thrown m_taped m_length m_out w2 m_gathered m_sets m_ranges m_nodes a2 m_flags m_fault m_place m_numbered m_depth m_value m_isNot m_least0 m_most0 m_slot m_work m_got m_rowMany m_charAt m_charWide m_trail m_isMatch m_matchGroups m_allFrom m_allBefore m_founds m_pieces m_writtenMany m_templateWide m_tooMuch)) ∧ (0 ≤ v ∧ v ≤ 1114111 ∧ m_at + 1 ≤ a2 ∧ a2 ≤ m_taped) ∧ (v = u8 A_tape m_taped m_at) ∧ (a2 = m_at + wd v))) := ⟨_, rfl⟩
  rw [← hQ]
  change ab_W X (ab_pl y_MO_plain b_MO_plain 2 (some (.int))) d G 0 [some (vR 80), none] [] Q
  have hfr : fx o o [280] G G := fx.rf
  have hlen : G.length = G.length := rfl
  have hsl : ab_slots G = ab_slots G := rfl
  refine ab_aload_n d_MO_plain_0 rfl ?_
  refine ab_aload_n d_MO_plain_1 rfl ?_
  refine ab_getf (fs := mof m_thrown m_taped m_length m_out m_wide m_gathered m_sets m_ranges m_nodes m_at m_flags m_fault m_place m_numbered m_depth m_value m_isNot m_least0 m_most0 m_slot m_work m_got m_rowMany m_charAt m_charWide m_trail m_isMatch m_matchGroups m_allFrom m_allBefore m_founds m_pieces m_writtenMany m_templateWide m_tooMuch) f_MO_19 d_MO_plain_2 h80.2.2 rfl ?_
  refine ab_aload_n d_MO_plain_5 rfl ?_
  refine ab_getf (fs := mof m_thrown m_taped m_length m_out m_wide m_gathered m_sets m_ranges m_nodes m_at m_flags m_fault m_place m_numbered m_depth m_value m_isNot m_least0 m_most0 m_slot m_work m_got m_rowMany m_charAt m_charWide m_trail m_isMatch m_matchGroups m_allFrom m_allBefore m_founds m_pieces m_writtenMany m_templateWide m_tooMuch) f_MO_223 d_MO_plain_6 h80.2.2 rfl ?_
  refine ab_aload_n d_MO_plain_9 rfl ?_
  refine ab_getf (fs := mof m_thrown m_taped m_length m_out m_wide m_gathered m_sets m_ranges m_nodes m_at m_flags m_fault m_place m_numbered m_depth m_value m_isNot m_least0 m_most0 m_slot m_work m_got m_rowMany m_charAt m_charWide m_trail m_isMatch m_matchGroups m_allFrom m_allBefore m_founds m_pieces m_writtenMany m_templateWide m_tooMuch) f_MO_279 d_MO_plain_10 h80.2.2 rfl ?_
  refine ab_callV (d' := d - 1) (as := [vR 84, vz m_taped, vz m_at]) (st := []) (r := _) (z_MO_character (o := o) (m_thrown := m_thrown) (m_taped := m_taped) (m_length := m_length) (m_out := m_out) (m_wide := m_wide) (m_gathered := m_gathered) (m_sets := m_sets) (m_ranges := m_ranges) (m_nodes := m_nodes) (m_at := m_at) (m_flags := m_flags) (m_fault := m_fault) (m_place := m_place) (m_numbered := m_numbered) (m_depth := m_depth) (m_value := m_value) (m_isNot := m_isNot) (m_least0 := m_least0) (m_most0 := m_most0) (m_slot := m_slot) (m_work := m_work) (m_got := m_got) (m_rowMany := m_rowMany) (m_charAt := m_charAt) (m_charWide := m_charWide) (m_trail := m_trail) (m_isMatch := m_isMatch) (m_matchGroups := m_matchGroups) (m_allFrom := m_allFrom) (m_allBefore := m_allBefore) (m_founds := m_founds) (m_pieces := m_pieces) (m_writtenMany := m_writtenMany) (m_templateWide := m_templateWide) (m_tooMuch := m_tooMuch) (a := 84) (l := 284) (m := 2000) (f := A_tape) (n := m_taped) (p := m_at) h80 h84 (by omega) (by omega) (by omega) jtp (by omega)) (fun oc G2 h => by rcases h with ⟨h, _⟩ | ⟨_, _, h, _⟩ <;> exact ⟨_, h⟩) (by omega) m_MO_character ml_MO_330 im_MO_character se_MO_character c_MO h80.2.2 (Nat.le_of_ble_eq_true rfl) d_MO_plain_13 rfl ?_
  intro v G1 hq
  rcases hq with ⟨hv, hfk, hlk, hsk, hN80, hq2⟩ | ⟨v3, w4, hv, hfk, hlk, hsk, hN80, hq5, hq6⟩
  · cases hv
    have h84 := hfk.get h84 (by decide)
    have hfr := hfr.tr hfk (by decide)
    have hlen := hlk.trans hlen
    have hsl := hsk.trans hsl
    have h80 := hN80
    change ab_W _ _ _ G1 16 [some (vR 80), none] [vz (-1)] _
    refine ab_istore_n d_MO_plain_16 (Nat.le_of_ble_eq_true rfl) (Nat.le_of_ble_eq_true rfl) rfl ?_
    change ab_W _ _ _ G1 17 [some (vR 80), some (vz (-1))] [] _
    refine ab_iload_n d_MO_plain_17 rfl ?_
    refine zz_if_ge (tgt := 33) d_MO_plain_18 (by decide) (by decide) (fun c7 => absurd c7 (by decide)) (fun c7 => ?_)
    refine ab_aload_n d_MO_plain_21 rfl ?_
    refine zz_iconst d_MO_plain_22 ?_
    refine ab_aload_n d_MO_plain_23 rfl ?_
    refine ab_getf (fs := mof m_thrown m_taped m_length m_out 1 m_gathered m_sets m_ranges m_nodes m_at m_flags m_fault m_place m_numbered m_depth m_value m_isNot m_least0 m_most0 m_slot m_work m_got m_rowMany m_charAt m_charWide m_trail m_isMatch m_matchGroups m_allFrom m_allBefore m_founds m_pieces m_writtenMany m_templateWide m_tooMuch) f_MO_279 d_MO_plain_24 h80.2.2 rfl ?_
    refine ab_callV (d' := d - 1) (as := [vz 1, vz m_at]) (st := []) (r := _) (z_MO_wrong (o := o) (m_thrown := m_thrown) (m_taped := m_taped) (m_length := m_length) (m_out := m_out) (m_wide := 1) (m_gathered := m_gathered) (m_sets := m_sets) (m_ranges := m_ranges) (m_nodes := m_nodes) (m_at := m_at) (m_flags := m_flags) (m_fault := m_fault) (m_place := m_place) (m_numbered := m_numbered) (m_depth := m_depth) (m_value := m_value) (m_isNot := m_isNot) (m_least0 := m_least0) (m_most0 := m_most0) (m_slot := m_slot) (m_work := m_work) (m_got := m_got) (m_rowMany := m_rowMany) (m_charAt := m_charAt) (m_charWide := m_charWide) (m_trail := m_trail) (m_isMatch := m_isMatch) (m_matchGroups := m_matchGroups) (m_allFrom := m_allFrom) (m_allBefore := m_allBefore) (m_founds := m_founds) (m_pieces := m_pieces) (m_writtenMany := m_writtenMany) (m_templateWide := m_templateWide) (m_tooMuch := m_tooMuch) (x := 1) (y := m_at) h80 (by omega) (by omega)) (fun oc G2 h => by rcases h with ⟨h, _⟩ | ⟨h, _⟩ <;> exact ⟨_, h⟩) (by omega) m_MO_wrong ml_MO_304 im_MO_wrong se_MO_wrong c_MO h80.2.2 (Nat.le_of_ble_eq_true rfl) d_MO_plain_27 rfl ?_
    intro v G8 hq
    rcases hq with ⟨hv, hfk, hlk, hsk, hN80, hq9⟩ | ⟨hv, hGe, hq10⟩
    · cases hv
      have h84 := hfk.get h84 (by decide)
      have hfr := hfr.tr hfk (by decide)
      have hlen := hlk.trans hlen
      have hsl := hsk.trans hsl
      have h80 := hN80
      change ab_W _ _ _ G8 30 [some (vR 80), some (vz (-1))] [] _
      refine ab_goto (tgt := 46) d_MO_plain_30 (by decide) ?_
      refine ab_iload_n d_MO_plain_46 rfl ?_
      refine zz_iret rfl d_MO_plain_47 ?_
      rw [hQ]; exact (Or.inl ⟨_, _, _, rfl, hfr, hlen, hsl, h80, (by omega), (by omega), (by exact (mchr_u8 (tbytes jtp (by omega)) (by omega) hq2).1.symm)⟩)
    · cases hv
      rw [hGe]
      change ab_W _ _ _ G1 30 [some (vR 80), some (vz (-1))] [] _
      exfalso; omega
  · cases hv
    have h84 := hfk.get h84 (by decide)
    have hfr := hfr.tr hfk (by decide)
    have hlen := hlk.trans hlen
    have hsl := hsk.trans hsl
    have h80 := hN80
    change ab_W _ _ _ G1 16 [some (vR 80), none] [vz v3] _
    refine ab_istore_n d_MO_plain_16 (Nat.le_of_ble_eq_true rfl) (Nat.le_of_ble_eq_true rfl) rfl ?_
    change ab_W _ _ _ G1 17 [some (vR 80), some (vz v3)] [] _
    refine ab_iload_n d_MO_plain_17 rfl ?_
    refine zz_if_ge (tgt := 33) d_MO_plain_18 (by decide) (by omega) (fun c11 => ?_) (fun c11 => absurd c11 (by omega))
    refine ab_aload_n d_MO_plain_33 rfl ?_
    refine ab_dup d_MO_plain_34 rfl ?_
    refine ab_getf (fs := mof m_thrown m_taped m_length m_out w4 m_gathered m_sets m_ranges m_nodes m_at m_flags m_fault m_place m_numbered m_depth m_value m_isNot m_least0 m_most0 m_slot m_work m_got m_rowMany m_charAt m_charWide m_trail m_isMatch m_matchGroups m_allFrom m_allBefore m_founds m_pieces m_writtenMany m_templateWide m_tooMuch) f_MO_279 d_MO_plain_35 h80.2.2 rfl ?_
    refine ab_aload_n d_MO_plain_38 rfl ?_
    refine ab_getf (fs := mof m_thrown m_taped m_length m_out w4 m_gathered m_sets m_ranges m_nodes m_at m_flags m_fault m_place m_numbered m_depth m_value m_isNot m_least0 m_most0 m_slot m_work m_got m_rowMany m_charAt m_charWide m_trail m_isMatch m_matchGroups m_allFrom m_allBefore m_founds m_pieces m_writtenMany m_templateWide m_tooMuch) f_MO_226 d_MO_plain_39 h80.2.2 rfl ?_
    refine zz_iadd d_MO_plain_42 ?_
    refine ab_putf (fs := mof m_thrown m_taped m_length m_out w4 m_gathered m_sets m_ranges m_nodes m_at m_flags m_fault m_place m_numbered m_depth m_value m_isNot m_least0 m_most0 m_slot m_work m_got m_rowMany m_charAt m_charWide m_trail m_isMatch m_matchGroups m_allFrom m_allBefore m_founds m_pieces m_writtenMany m_templateWide m_tooMuch) f_MO_279 (Or.inl rfl) d_MO_plain_43 h80.2.2 (Nat.le_of_ble_eq_true rfl) (fun _ => ⟨rfl, rfl⟩) (h80.2.1 (by decide)) ?_
    obtain ⟨G12, eG12⟩ : ∃ z : ab_G, z = List.set G1 80 (ab_ob 12 (mof m_thrown m_taped m_length m_out w4 m_gathered m_sets m_ranges m_nodes (m_at + w4) m_flags m_fault m_place m_numbered m_depth m_value m_isNot m_least0 m_most0 m_slot m_work m_got m_rowMany m_charAt m_charWide m_trail m_isMatch m_matchGroups m_allFrom m_allBefore m_founds m_pieces m_writtenMany m_templateWide m_tooMuch)) := ⟨_, rfl⟩
    have h84 := h84.keep h80 eG12 (by decide)
    have hlen := (z_len eG12).trans hlen
    have hsl := (z_sl h80 eG12 rfl).trans hsl
    have hfr := hfr.wr h80 eG12 (by decide)
    have h80 := h80.kept eG12
    change ab_W _ _ _ (List.set G1 80 (ab_ob 12 (mof m_thrown m_taped m_length m_out w4 m_gathered m_sets m_ranges m_nodes (m_at + w4) m_flags m_fault m_place m_numbered m_depth m_value m_isNot m_least0 m_most0 m_slot m_work m_got m_rowMany m_charAt m_charWide m_trail m_isMatch m_matchGroups m_allFrom m_allBefore m_founds m_pieces m_writtenMany m_templateWide m_tooMuch))) 46 [some (vR 80), some (vz v3)] [] _
    rw [← eG12]
    refine ab_iload_n d_MO_plain_46 rfl ?_
    refine zz_iret rfl d_MO_plain_47 ?_
    rw [hQ]; exact (Or.inr ⟨_, _, _, rfl, hfr, hlen, hsl, h80, (by omega), (by exact (mchr_u8 (tbytes jtp (by omega)) (by omega) hq6).1), (by rw [← (mchr_u8 (tbytes jtp (by omega)) (by omega) hq6).2 (by omega)])⟩)
