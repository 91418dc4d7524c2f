/-! the reference: its fields, its arrays as they were made -/
abbrev mof (v2 v7 v8 v9 v10 v11 v12 v13 v21 v30 v31 v32 v33 v34 v35 v46 v47 v48 v49 v66 v67 v68 v69 v80 v81 v89 v90 v91 v92 v93 v94 v95 v99 v100 v101 : Int) : List Value := [vR 81, vR 82, vz v2, vR 83, vR 84, vR 85, vR 86, vz v7, vz v8, vz v9, vz v10, vz v11, vz v12, vz v13, vR 87, vR 88, vR 89, vR 90, vR 91, vR 92, vR 93, vz v21, vR 94, vR 95, vR 96, vR 97, vR 98, vR 99, vR 100, vR 101, vz v30, vz v31, vz v32, vz v33, vz v34, vz v35, vR 102, vR 103, vR 104, vR 105, vR 106, vR 107, vR 108, vR 109, vR 110, vR 111, vz v46, vz v47, vz v48, vz v49, vR 112, vR 113, vR 114, vR 115, vR 116, vR 117, vR 118, vR 119, vR 120, vR 121, vR 122, vR 123, vR 124, vR 125, vR 126, vR 127, vz v66, vz v67, vz v68, vz v69, vR 128, vR 129, vR 130, vR 131, vR 132, vR 133, vR 134, vR 135, vR 136, vR 137, vz v80, vz v81, vR 138, vR 139, vR 140, vR 141, vR 142, vR 143, vR 144, vz v89, vz v90, vz v91, vz v92, vz v93, vz v94, vz v95, vR 145, vR 146, vR 147, vz v99, vz v100, vz v101]
set_option maxRecDepth 100000 in
set_option maxHeartbeats 4000000 in
theorem z_MO_thrown {X : ab_X} {d : Nat} {o : Nat → Nat} {G : ab_G} {m_thrown : Int} {m_taped : Int} {m_length : Int} {m_out : Int} {m_wide : Int} {m_gathered : Int} {m_sets : Int} {m_ranges : Int} {m_nodes : Int} {m_at : Int} {m_flags : Int} {m_fault : Int} {m_place : Int} {m_numbered : Int} {m_depth : Int} {m_value : Int} {m_isNot : Int} {m_least0 : Int} {m_most0 : Int} {m_slot : Int} {m_work : Int} {m_got : Int} {m_rowMany : Int} {m_charAt : Int} {m_charWide : Int} {m_trail : Int} {m_isMatch : Int} {m_matchGroups : Int} {m_allFrom : Int} {m_allBefore : Int} {m_founds : Int} {m_pieces : Int} {m_writtenMany : Int} {m_templateWide : Int} {m_tooMuch : Int} (h80 : cc o G 80 280 (ab_ob 12 (mof m_thrown m_taped m_length m_out m_wide m_gathered m_sets m_ranges m_nodes m_at m_flags m_fault m_place m_numbered m_depth m_value m_isNot m_least0 m_most0 m_slot m_work m_got m_rowMany m_charAt m_charWide m_trail m_isMatch m_matchGroups m_allFrom m_allBefore m_founds m_pieces m_writtenMany m_templateWide m_tooMuch))) : ab_F X d y_MO_thrown (.code y_MO_thrown b_MO_thrown 1 (some (.int))) [vR 80] G (fun oc G2 => oc = .returned (some (vz m_thrown)) ∧ G2 = G) := by
  refine ab_F_of (by decide +kernel) (Nat.le_of_ble_eq_true rfl) ?_
  obtain ⟨Q, hQ⟩ : ∃ z : Outcome → ab_G → Prop, z = (fun oc G2 => oc = .returned (some (vz m_thrown)) ∧ G2 = G) := ⟨_, rfl⟩
  rw [← hQ]
  change ab_W X (ab_pl y_MO_thrown b_MO_thrown 1 (some (.int))) d G 0 [some (vR 80)] [] Q
  have hfr : fx o o [] G G := fx.rf
  have hlen : G.length = G.length := rfl
  have hsl : ab_slots G = ab_slots G := rfl
  refine ab_aload_n d_MO_thrown_0 rfl ?_
  refine ab_getf (fs := mof m_thrown m_taped m_length m_out m_wide m_gathered m_sets m_ranges m_nodes m_at m_flags m_fault m_place m_numbered m_depth m_value m_isNot m_least0 m_most0 m_slot m_work m_got m_rowMany m_charAt m_charWide m_trail m_isMatch m_matchGroups m_allFrom m_allBefore m_founds m_pieces m_writtenMany m_templateWide m_tooMuch) f_MO_220 d_MO_thrown_1 h80.2.2 rfl ?_
  refine zz_iret rfl d_MO_thrown_4 ?_
  rw [hQ]; exact ⟨rfl, rfl⟩
set_option maxRecDepth 100000 in
set_option maxHeartbeats 4000000 in
theorem z_MO_over {X : ab_X} {d : Nat} {o : Nat → Nat} {G : ab_G} {m_thrown : Int} {m_taped : Int} {m_length : Int} {m_out : Int} {m_wide : Int} {m_gathered : Int} {m_sets : Int} {m_ranges : Int} {m_nodes : Int} {m_at : Int} {m_flags : Int} {m_fault : Int} {m_place : Int} {m_numbered : Int} {m_depth : Int} {m_value : Int} {m_isNot : Int} {m_least0 : Int} {m_most0 : Int} {m_slot : Int} {m_work : Int} {m_got : Int} {m_rowMany : Int} {m_charAt : Int} {m_charWide : Int} {m_trail : Int} {m_isMatch : Int} {m_matchGroups : Int} {m_allFrom : Int} {m_allBefore : Int} {m_founds : Int} {m_pieces : Int} {m_writtenMany : Int} {m_templateWide : Int} {m_tooMuch : Int} (h80 : cc o G 80 280 (ab_ob 12 (mof m_thrown m_taped m_length m_out m_wide m_gathered m_sets m_ranges m_nodes m_at m_flags m_fault m_place m_numbered m_depth m_value m_isNot m_least0 m_most0 m_slot m_work m_got m_rowMany m_charAt m_charWide m_trail m_isMatch m_matchGroups m_allFrom m_allBefore m_founds m_pieces m_writtenMany m_templateWide m_tooMuch))) (n18 : ab_n0 = 18) : ab_F X d y_MO_over (.code y_MO_over b_MO_over 1 (some (.int))) [vR 80] G (fun oc G2 => oc = .returned (some (vz 0)) ∧ fx o o [280] G G2 ∧ G2.length = G.length ∧ ab_slots G2 = ab_slots G ∧ cc o G2 80 280 (ab_ob 12 (mof 0 m_taped m_length m_out m_wide m_gathered m_sets m_ranges m_nodes m_at m_flags m_fault m_place m_numbered m_depth m_value m_isNot m_least0 m_most0 m_slot m_work m_got m_rowMany m_charAt m_charWide m_trail m_isMatch m_matchGroups m_allFrom m_allBefore m_founds m_pieces m_writtenMany m_templateWide m_tooMuch))) := by
  refine ab_F_of (by decide +kernel) (Nat.le_of_ble_eq_true rfl) ?_
  obtain ⟨Q, hQ⟩ : ∃ z : Outcome → ab_G → Prop, z = (fun oc G2 => oc = .returned (some (vz 0)) ∧ fx o o [280] G G2 ∧ G2.length = G.length ∧ ab_slots G2 = ab_slots G ∧ cc o G2 80 280 (ab_ob 12 (mof 0 m_taped m_length m_out m_wide m_gathered m_sets m_ranges m_nodes m_at m_flags m_fault m_place m_numbered m_depth m_value m_isNot m_least0 m_most0 m_slot m_work m_got m_rowMany m_charAt m_charWide m_trail m_isMatch m_matchGroups m_allFrom m_allBefore m_founds m_pieces m_writtenMany m_templateWide m_tooMuch))) := ⟨_, rfl⟩
  rw [← hQ]
  change ab_W X (ab_pl y_MO_over b_MO_over 1 (some (.int))) d G 0 [some (vR 80)] [] Q
  have hfr : fx o o [280] G G := fx.rf
  have hlen : G.length = G.length := rfl
  have hsl : ab_slots G = ab_slots G := rfl
  refine ab_aload_n d_MO_over_0 rfl ?_
  refine zz_iconst d_MO_over_1 ?_
  refine ab_putf (fs := mof m_thrown m_taped m_length m_out m_wide m_gathered m_sets m_ranges m_nodes m_at m_flags m_fault m_place m_numbered m_depth m_value m_isNot m_least0 m_most0 m_slot m_work m_got m_rowMany m_charAt m_charWide m_trail m_isMatch m_matchGroups m_allFrom m_allBefore m_founds m_pieces m_writtenMany m_templateWide m_tooMuch) f_MO_220 (Or.inl rfl) d_MO_over_2 h80.2.2 (Nat.le_of_ble_eq_true rfl) (fun _ => ⟨rfl, rfl⟩) (h80.2.1 (by decide)) ?_
  obtain ⟨G1, eG1⟩ : ∃ z : ab_G, z = List.set G 80 (ab_ob 12 (mof 0 m_taped m_length m_out m_wide m_gathered m_sets m_ranges m_nodes m_at m_flags m_fault m_place m_numbered m_depth m_value m_isNot m_least0 m_most0 m_slot m_work m_got m_rowMany m_charAt m_charWide m_trail m_isMatch m_matchGroups m_allFrom m_allBefore m_founds m_pieces m_writtenMany m_templateWide m_tooMuch)) := ⟨_, rfl⟩
  have hlen := (z_len eG1).trans hlen
  have hsl := (z_sl h80 eG1 rfl).trans hsl
  have hfr := hfr.wr h80 eG1 (by decide)
  have h80 := h80.kept eG1
  change ab_W _ _ _ (List.set G 80 (ab_ob 12 (mof 0 m_taped m_length m_out m_wide m_gathered m_sets m_ranges m_nodes m_at m_flags m_fault m_place m_numbered m_depth m_value m_isNot m_least0 m_most0 m_slot m_work m_got m_rowMany m_charAt m_charWide m_trail m_isMatch m_matchGroups m_allFrom m_allBefore m_founds m_pieces m_writtenMany m_templateWide m_tooMuch))) 5 [some (vR 80)] [] _
  rw [← eG1]
  refine zz_iconst d_MO_over_5 ?_
  refine zz_iret rfl d_MO_over_6 ?_
  rw [hQ]; exact ⟨rfl, hfr, hlen, hsl, h80⟩
set_option maxRecDepth 100000 in
set_option maxHeartbeats 4000000 in
theorem z_MO_keep {X : ab_X} {d : Nat} {o : Nat → Nat} {G : ab_G} {m_thrown : Int} {m_taped : Int} {m_length : Int} {m_out : Int} {m_wide : Int} {m_gathered : Int} {m_sets : Int} {m_ranges : Int} {m_nodes : Int} {m_at : Int} {m_flags : Int} {m_fault : Int} {m_place : Int} {m_numbered : Int} {m_depth : Int} {m_value : Int} {m_isNot : Int} {m_least0 : Int} {m_most0 : Int} {m_slot : Int} {m_work : Int} {m_got : Int} {m_rowMany : Int} {m_charAt : Int} {m_charWide : Int} {m_trail : Int} {m_isMatch : Int} {m_matchGroups : Int} {m_allFrom : Int} {m_allBefore : Int} {m_founds : Int} {m_pieces : Int} {m_writtenMany : Int} {m_templateWide : Int} {m_tooMuch : Int} {x : Int} (h80 : cc o G 80 280 (ab_ob 12 (mof m_thrown m_taped m_length m_out m_wide m_gathered m_sets m_ranges m_nodes m_at m_flags m_fault m_place m_numbered m_depth m_value m_isNot m_least0 m_most0 m_slot m_work m_got m_rowMany m_charAt m_charWide m_trail m_isMatch m_matchGroups m_allFrom m_allBefore m_founds m_pieces m_writtenMany m_templateWide m_tooMuch))) (n18 : ab_n0 = 18) (cr : -2147483648 ≤ x ∧ x ≤ 2147483647) : ab_F X d y_MO_keep (.code y_MO_keep b_MO_keep 2 none) [vR 80, vz x] G (fun oc G2 => (oc = .returned none ∧ fx o o [280] G G2 ∧ G2.length = G.length ∧ ab_slots G2 = ab_slots G ∧ cc o G2 80 280 (ab_ob 12 (mof 0 m_taped m_length m_out m_wide m_gathered m_sets m_ranges m_nodes m_at m_flags m_fault m_place m_numbered m_depth m_value m_isNot m_least0 m_most0 m_slot m_work m_got m_rowMany m_charAt m_charWide m_trail m_isMatch m_matchGroups m_allFrom m_allBefore m_founds m_pieces m_writtenMany m_templateWide m_tooMuch)) ∧ (4 ≤ x ∧ x ≤ 64)) ∨ (oc = .returned none ∧ fx o o [280] G G2 ∧ G2.length = G.length ∧ ab_slots G2 = ab_slots G ∧ cc o G2 80 280 (ab_ob 12 (mof 1 m_taped m_length m_out m_wide m_gathered m_sets m_ranges m_nodes m_at m_flags m_fault m_place m_numbered m_depth m_value m_isNot m_least0 m_most0 m_slot m_work m_got m_rowMany m_charAt m_charWide m_trail m_isMatch m_matchGroups m_allFrom m_allBefore m_founds m_pieces m_writtenMany m_templateWide m_tooMuch)) ∧ (x < 4 ∨ 64 < x))) := by
  refine ab_F_of (by decide +kernel) (Nat.le_of_ble_eq_true rfl) ?_
  obtain ⟨Q, hQ⟩ : ∃ z : Outcome → ab_G → Prop, z = (fun oc G2 => (oc = .returned none ∧ fx o o [280] G G2 ∧ G2.length = G.length ∧ ab_slots G2 = ab_slots G ∧ cc o G2 80 280 (ab_ob 12 (mof 0 m_taped m_length m_out m_wide m_gathered m_sets m_ranges m_nodes m_at m_flags m_fault m_place m_numbered m_depth m_value m_isNot m_least0 m_most0 m_slot m_work m_got m_rowMany m_charAt m_charWide m_trail m_isMatch m_matchGroups m_allFrom m_allBefore m_founds m_pieces m_writtenMany m_templateWide m_tooMuch)) ∧ (4 ≤ x ∧ x ≤ 64)) ∨ (oc = .returned none ∧ fx o o [280] G G2 ∧ G2.length = G.length ∧ ab_slots G2 = ab_slots G ∧ cc o G2 80 280 (ab_ob 12 (mof 1 m_taped m_length m_out m_wide m_gathered m_sets m_ranges m_nodes m_at m_flags m_fault m_place m_numbered m_depth m_value m_isNot m_least0 m_most0 m_slot m_work m_got m_rowMany m_charAt m_charWide m_trail m_isMatch m_matchGroups m_allFrom m_allBefore m_founds m_pieces m_writtenMany m_templateWide m_tooMuch)) ∧ (x < 4 ∨ 64 < x))) := ⟨_, rfl⟩
  rw [← hQ]
  change ab_W X (ab_pl y_MO_keep b_MO_keep 2 none) d G 0 [some (vR 80), some (vz x)] [] Q
  have hfr : fx o o [280] G G := fx.rf
  have hlen : G.length = G.length := rfl
  have hsl : ab_slots G = ab_slots G := rfl
  refine ab_aload_n d_MO_keep_0 rfl ?_
  refine ab_iload_n d_MO_keep_1 rfl ?_
  refine zz_iconst d_MO_keep_2 ?_
  refine zz_icmp_lt (tgt := 12) d_MO_keep_3 (by decide) (by omega) (by decide) (fun c1 => ?_) (fun c1 => ?_)
  · refine zz_iconst d_MO_keep_12 ?_
    refine ab_goto (tgt := 17) d_MO_keep_13 (by decide) ?_
    refine ab_putf (fs := mof m_thrown m_taped m_length m_out m_wide m_gathered m_sets m_ranges m_nodes m_at m_flags m_fault m_place m_numbered m_depth m_value m_isNot m_least0 m_most0 m_slot m_work m_got m_rowMany m_charAt m_charWide m_trail m_isMatch m_matchGroups m_allFrom m_allBefore m_founds m_pieces m_writtenMany m_templateWide m_tooMuch) f_MO_220 (Or.inl rfl) d_MO_keep_17 h80.2.2 (Nat.le_of_ble_eq_true rfl) (fun _ => ⟨rfl, rfl⟩) (h80.2.1 (by decide)) ?_
    obtain ⟨G2, eG2⟩ : ∃ z : ab_G, z = List.set G 80 (ab_ob 12 (mof 1 m_taped m_length m_out m_wide m_gathered m_sets m_ranges m_nodes m_at m_flags m_fault m_place m_numbered m_depth m_value m_isNot m_least0 m_most0 m_slot m_work m_got m_rowMany m_charAt m_charWide m_trail m_isMatch m_matchGroups m_allFrom m_allBefore m_founds m_pieces m_writtenMany m_templateWide m_tooMuch)) := ⟨_, rfl⟩
    have hlen := (z_len eG2).trans hlen
    have hsl := (z_sl h80 eG2 rfl).trans hsl
    have hfr := hfr.wr h80 eG2 (by decide)
    have h80 := h80.kept eG2
    change ab_W _ _ _ (List.set G 80 (ab_ob 12 (mof 1 m_taped m_length m_out m_wide m_gathered m_sets m_ranges m_nodes m_at m_flags m_fault m_place m_numbered m_depth m_value m_isNot m_least0 m_most0 m_slot m_work m_got m_rowMany m_charAt m_charWide m_trail m_isMatch m_matchGroups m_allFrom m_allBefore m_founds m_pieces m_writtenMany m_templateWide m_tooMuch))) 20 [some (vR 80), some (vz x)] [] _
    rw [← eG2]
    refine ab_vret rfl d_MO_keep_20 ?_
    rw [hQ]; exact (Or.inr ⟨rfl, hfr, hlen, hsl, h80, (by omega)⟩)
  · refine ab_iload_n d_MO_keep_6 rfl ?_
    refine zz_bipush d_MO_keep_7 (by decide) ?_
    refine zz_icmp_le (tgt := 16) d_MO_keep_9 (by decide) (by omega) (by decide) (fun c3 => ?_) (fun c3 => ?_)
    · refine zz_iconst d_MO_keep_16 ?_
      refine ab_putf (fs := mof m_thrown m_taped m_length m_out m_wide m_gathered m_sets m_ranges m_nodes m_at m_flags m_fault m_place m_numbered m_depth m_value m_isNot m_least0 m_most0 m_slot m_work m_got m_rowMany m_charAt m_charWide m_trail m_isMatch m_matchGroups m_allFrom m_allBefore m_founds m_pieces m_writtenMany m_templateWide m_tooMuch) f_MO_220 (Or.inl rfl) d_MO_keep_17 h80.2.2 (Nat.le_of_ble_eq_true rfl) (fun _ => ⟨rfl, rfl⟩) (h80.2.1 (by decide)) ?_
      obtain ⟨G4, eG4⟩ : ∃ z : ab_G, z = List.set G 80 (ab_ob 12 (mof 0 m_taped m_length m_out m_wide m_gathered m_sets m_ranges m_nodes m_at m_flags m_fault m_place m_numbered m_depth m_value m_isNot m_least0 m_most0 m_slot m_work m_got m_rowMany m_charAt m_charWide m_trail m_isMatch m_matchGroups m_allFrom m_allBefore m_founds m_pieces m_writtenMany m_templateWide m_tooMuch)) := ⟨_, rfl⟩
      have hlen := (z_len eG4).trans hlen
      have hsl := (z_sl h80 eG4 rfl).trans hsl
      have hfr := hfr.wr h80 eG4 (by decide)
      have h80 := h80.kept eG4
      change ab_W _ _ _ (List.set G 80 (ab_ob 12 (mof 0 m_taped m_length m_out m_wide m_gathered m_sets m_ranges m_nodes m_at m_flags m_fault m_place m_numbered m_depth m_value m_isNot m_least0 m_most0 m_slot m_work m_got m_rowMany m_charAt m_charWide m_trail m_isMatch m_matchGroups m_allFrom m_allBefore m_founds m_pieces m_writtenMany m_templateWide m_tooMuch))) 20 [some (vR 80), some (vz x)] [] _
      rw [← eG4]
      refine ab_vret rfl d_MO_keep_20 ?_
      rw [hQ]; exact (Or.inl ⟨rfl, hfr, hlen, hsl, h80, (by omega)⟩)
    · refine zz_iconst d_MO_keep_12 ?_
      refine ab_goto (tgt := 17) d_MO_keep_13 (by decide) ?_
      refine ab_putf (fs := mof m_thrown m_taped m_length m_out m_wide m_gathered m_sets m_ranges m_nodes m_at m_flags m_fault m_place m_numbered m_depth m_value m_isNot m_least0 m_most0 m_slot m_work m_got m_rowMany m_charAt m_charWide m_trail m_isMatch m_matchGroups m_allFrom m_allBefore m_founds m_pieces m_writtenMany m_templateWide m_tooMuch) f_MO_220 (Or.inl rfl) d_MO_keep_17 h80.2.2 (Nat.le_of_ble_eq_true rfl) (fun _ => ⟨rfl, rfl⟩) (h80.2.1 (by decide)) ?_
      obtain ⟨G5, eG5⟩ : ∃ z : ab_G, z = List.set G 80 (ab_ob 12 (mof 1 m_taped m_length m_out m_wide m_gathered m_sets m_ranges m_nodes m_at m_flags m_fault m_place m_numbered m_depth m_value m_isNot m_least0 m_most0 m_slot m_work m_got m_rowMany m_charAt m_charWide m_trail m_isMatch m_matchGroups m_allFrom m_allBefore m_founds m_pieces m_writtenMany m_templateWide m_tooMuch)) := ⟨_, rfl⟩
      have hlen := (z_len eG5).trans hlen
      have hsl := (z_sl h80 eG5 rfl).trans hsl
      have hfr := hfr.wr h80 eG5 (by decide)
      have h80 := h80.kept eG5
      change ab_W _ _ _ (List.set G 80 (ab_ob 12 (mof 1 m_taped m_length m_out m_wide m_gathered m_sets m_ranges m_nodes m_at m_flags m_fault m_place m_numbered m_depth m_value m_isNot m_least0 m_most0 m_slot m_work m_got m_rowMany m_charAt m_charWide m_trail m_isMatch m_matchGroups m_allFrom m_allBefore m_founds m_pieces m_writtenMany m_templateWide m_tooMuch))) 20 [some (vR 80), some (vz x)] [] _
      rw [← eG5]
      refine ab_vret rfl d_MO_keep_20 ?_
      rw [hQ]; exact (Or.inr ⟨rfl, hfr, hlen, hsl, h80, (by omega)⟩)
set_option maxRecDepth 100000 in
set_option maxHeartbeats 4000000 in
theorem z_MO_output {X : ab_X} {d : Nat} {o : Nat → Nat} {G : ab_G} {m_thrown : Int} {m_taped : Int} {m_length : Int} {m_out : Int} {m_wide : Int} {m_gathered : Int} {m_sets : Int} {m_ranges : Int} {m_nodes : Int} {m_at : Int} {m_flags : Int} {m_fault : Int} {m_place : Int} {m_numbered : Int} {m_depth : Int} {m_value : Int} {m_isNot : Int} {m_least0 : Int} {m_most0 : Int} {m_slot : Int} {m_work : Int} {m_got : Int} {m_rowMany : Int} {m_charAt : Int} {m_charWide : Int} {m_trail : Int} {m_isMatch : Int} {m_matchGroups : Int} {m_allFrom : Int} {m_allBefore : Int} {m_founds : Int} {m_pieces : Int} {m_writtenMany : Int} {m_templateWide : Int} {m_tooMuch : Int} {A_output : Int → Int} {x : Int} (h80 : cc o G 80 280 (ab_ob 12 (mof m_thrown m_taped m_length m_out m_wide m_gathered m_sets m_ranges m_nodes m_at m_flags m_fault m_place m_numbered m_depth m_value m_isNot m_least0 m_most0 m_slot m_work m_got m_rowMany m_charAt m_charWide m_trail m_isMatch m_matchGroups m_allFrom m_allBefore m_founds m_pieces m_writtenMany m_templateWide m_tooMuch))) (h86 : cc o G 86 286 (za 6000 A_output)) (n18 : ab_n0 = 18) (cr : -2147483648 ≤ x ∧ x ≤ 2147483647) (co : 0 ≤ m_out ∧ m_out ≤ 6000) : ab_F X d y_MO_output (.code y_MO_output b_MO_output 2 (some (.int))) [vR 80, vz x] G (fun oc G2 => ∃ v : Int, oc = .returned (some (vz v)) ∧ fx o o [280] G G2 ∧ G2.length = G.length ∧ ab_slots G2 = ab_slots G ∧ cc o G2 80 280 (ab_ob 12 (mof 0 m_taped m_length m_out m_wide m_gathered m_sets m_ranges m_nodes m_at m_flags m_fault m_place m_numbered m_depth m_value m_isNot m_least0 m_most0 m_slot m_work m_got m_rowMany m_charAt m_charWide m_trail m_isMatch m_matchGroups m_allFrom m_allBefore m_founds m_pieces m_writtenMany m_templateWide m_tooMuch))) := by
  refine ab_F_of (by decide +kernel) (Nat.le_of_ble_eq_true rfl) ?_
  obtain ⟨Q, hQ⟩ : ∃ z : Outcome → ab_G → Prop, z = (fun oc G2 => ∃ v : Int, oc = .returned (some (vz v)) ∧ fx o o [280] G G2 ∧ G2.length = G.length ∧ ab_slots G2 = ab_slots G ∧ cc o G2 80 280 (ab_ob 12 (mof 0 m_taped m_length m_out m_wide m_gathered m_sets m_ranges m_nodes m_at m_flags m_fault m_place m_numbered m_depth m_value m_isNot m_least0 m_most0 m_slot m_work m_got m_rowMany m_charAt m_charWide m_trail m_isMatch m_matchGroups m_allFrom m_allBefore m_founds m_pieces m_writtenMany m_templateWide m_tooMuch))) := ⟨_, rfl⟩
  rw [← hQ]
  change ab_W X (ab_pl y_MO_output b_MO_output 2 (some (.int))) d G 0 [some (vR 80), some (vz x)] [] Q
  have hfr : fx o o [280] G G := fx.rf
  have hlen : G.length = G.length := rfl
  have hsl : ab_slots G = ab_slots G := rfl
  refine ab_aload_n d_MO_output_0 rfl ?_
  refine zz_iconst d_MO_output_1 ?_
  refine ab_putf (fs := mof m_thrown m_taped m_length m_out m_wide m_gathered m_sets m_ranges m_nodes m_at m_flags m_fault m_place m_numbered m_depth m_value m_isNot m_least0 m_most0 m_slot m_work m_got m_rowMany m_charAt m_charWide m_trail m_isMatch m_matchGroups m_allFrom m_allBefore m_founds m_pieces m_writtenMany m_templateWide m_tooMuch) f_MO_220 (Or.inl rfl) d_MO_output_2 h80.2.2 (Nat.le_of_ble_eq_true rfl) (fun _ => ⟨rfl, rfl⟩) (h80.2.1 (by decide)) ?_
  obtain ⟨G1, eG1⟩ : ∃ z : ab_G, z = List.set G 80 (ab_ob 12 (mof 0 m_taped m_length m_out m_wide m_gathered m_sets m_ranges m_nodes m_at m_flags m_fault m_place m_numbered m_depth m_value m_isNot m_least0 m_most0 m_slot m_work m_got m_rowMany m_charAt m_charWide m_trail m_isMatch m_matchGroups m_allFrom m_allBefore m_founds m_pieces m_writtenMany m_templateWide m_tooMuch)) := ⟨_, rfl⟩
  have h86 := h86.keep h80 eG1 (by decide)
  have hlen := (z_len eG1).trans hlen
  have hsl := (z_sl h80 eG1 rfl).trans hsl
  have hfr := hfr.wr h80 eG1 (by decide)
  have h80 := h80.kept eG1
  change ab_W _ _ _ (List.set G 80 (ab_ob 12 (mof 0 m_taped m_length m_out m_wide m_gathered m_sets m_ranges m_nodes m_at m_flags m_fault m_place m_numbered m_depth m_value m_isNot m_least0 m_most0 m_slot m_work m_got m_rowMany m_charAt m_charWide m_trail m_isMatch m_matchGroups m_allFrom m_allBefore m_founds m_pieces m_writtenMany m_templateWide m_tooMuch))) 5 [some (vR 80), some (vz x)] [] _
  rw [← eG1]
  refine ab_iload_n d_MO_output_5 rfl ?_
  refine zz_if_lt (tgt := 17) d_MO_output_6 (by decide) (by omega) (fun c2 => ?_) (fun c2 => ?_)
  · refine zz_iconst d_MO_output_17 ?_
    refine ab_goto (tgt := 27) d_MO_output_18 (by decide) ?_
    refine zz_iret rfl d_MO_output_27 ?_
    rw [hQ]; exact ⟨_, rfl, hfr, hlen, hsl, h80⟩
  · refine ab_iload_n d_MO_output_9 rfl ?_
    refine ab_aload_n d_MO_output_10 rfl ?_
    refine ab_getf (fs := mof 0 m_taped m_length m_out m_wide m_gathered m_sets m_ranges m_nodes m_at m_flags m_fault m_place m_numbered m_depth m_value m_isNot m_least0 m_most0 m_slot m_work m_got m_rowMany m_charAt m_charWide m_trail m_isMatch m_matchGroups m_allFrom m_allBefore m_founds m_pieces m_writtenMany m_templateWide m_tooMuch) f_MO_618 d_MO_output_11 h80.2.2 rfl ?_
    refine zz_icmp_lt (tgt := 21) d_MO_output_14 (by decide) (by omega) (by omega) (fun c3 => ?_) (fun c3 => ?_)
    · refine ab_aload_n d_MO_output_21 rfl ?_
      refine ab_getf (fs := mof 0 m_taped m_length m_out m_wide m_gathered m_sets m_ranges m_nodes m_at m_flags m_fault m_place m_numbered m_depth m_value m_isNot m_least0 m_most0 m_slot m_work m_got m_rowMany m_charAt m_charWide m_trail m_isMatch m_matchGroups m_allFrom m_allBefore m_founds m_pieces m_writtenMany m_templateWide m_tooMuch) f_MO_25 d_MO_output_22 h80.2.2 rfl ?_
      refine ab_iload_n d_MO_output_25 rfl ?_
      refine zz_iald d_MO_output_26 h86 (by omega) ?_
      refine zz_iret rfl d_MO_output_27 ?_
      rw [hQ]; exact ⟨_, rfl, hfr, hlen, hsl, h80⟩
    · refine zz_iconst d_MO_output_17 ?_
      refine ab_goto (tgt := 27) d_MO_output_18 (by decide) ?_
      refine zz_iret rfl d_MO_output_27 ?_
      rw [hQ]; exact ⟨_, rfl, hfr, hlen, hsl, h80⟩
set_option maxRecDepth 100000 in
set_option maxHeartbeats 4000000 in
theorem z_MO_fault {X : ab_X} {d : Nat} {o : Nat → Nat} {G : ab_G} {m_thrown : Int} {m_taped : Int} {m_length : Int} {m_out : Int} {m_wide : Int} {m_gathered : Int} {m_sets : Int} {m_ranges : Int} {m_nodes : Int} {m_at : Int} {m_flags : Int} {m_fault : Int} {m_place : Int} {m_numbered : Int} {m_depth : Int} {m_value : Int} {m_isNot : Int} {m_least0 : Int} {m_most0 : Int} {m_slot : Int} {m_work : Int} {m_got : Int} {m_rowMany : Int} {m_charAt : Int} {m_charWide : Int} {m_trail : Int} {m_isMatch : Int} {m_matchGroups : Int} {m_allFrom : Int} {m_allBefore : Int} {m_founds : Int} {m_pieces : Int} {m_writtenMany : Int} {m_templateWide : Int} {m_tooMuch : Int} {x : Int} (h80 : cc o G 80 280 (ab_ob 12 (mof m_thrown m_taped m_length m_out m_wide m_gathered m_sets m_ranges m_nodes m_at m_flags m_fault m_place m_numbered m_depth m_value m_isNot m_least0 m_most0 m_slot m_work m_got m_rowMany m_charAt m_charWide m_trail m_isMatch m_matchGroups m_allFrom m_allBefore m_founds m_pieces m_writtenMany m_templateWide m_tooMuch))) (n18 : ab_n0 = 18) (cr : -2147483648 ≤ x ∧ x ≤ 2147483647) : ab_F X d y_MO_fault (.code y_MO_fault b_MO_fault 2 (some (.int))) [vR 80, vz x] G (fun oc G2 => ∃ v : Int, oc = .returned (some (vz v)) ∧ fx o o [280] G G2 ∧ G2.length = G.length ∧ ab_slots G2 = ab_slots G ∧ cc o G2 80 280 (ab_ob 12 (mof 0 m_taped m_length m_out m_wide m_gathered m_sets m_ranges m_nodes m_at m_flags m_fault m_place m_numbered m_depth m_value m_isNot m_least0 m_most0 m_slot m_work m_got m_rowMany m_charAt m_charWide m_trail m_isMatch m_matchGroups m_allFrom m_allBefore m_founds m_pieces m_writtenMany m_templateWide m_tooMuch))) := by
  refine ab_F_of (by decide +kernel) (Nat.le_of_ble_eq_true rfl) ?_
  obtain ⟨Q, hQ⟩ : ∃ z : Outcome → ab_G → Prop, z = (fun oc G2 => ∃ v : Int, oc = .returned (some (vz v)) ∧ fx o o [280] G G2 ∧ G2.length = G.length ∧ ab_slots G2 = ab_slots G ∧ cc o G2 80 280 (ab_ob 12 (mof 0 m_taped m_length m_out m_wide m_gathered m_sets m_ranges m_nodes m_at m_flags m_fault m_place m_numbered m_depth m_value m_isNot m_least0 m_most0 m_slot m_work m_got m_rowMany m_charAt m_charWide m_trail m_isMatch m_matchGroups m_allFrom m_allBefore m_founds m_pieces m_writtenMany m_templateWide m_tooMuch))) := ⟨_, rfl⟩
  rw [← hQ]
  change ab_W X (ab_pl y_MO_fault b_MO_fault 2 (some (.int))) d G 0 [some (vR 80), some (vz x)] [] Q
  have hfr : fx o o [280] G G := fx.rf
  have hlen : G.length = G.length := rfl
  have hsl : ab_slots G = ab_slots G := rfl
  refine ab_aload_n d_MO_fault_0 rfl ?_
  refine zz_iconst d_MO_fault_1 ?_
  refine ab_putf (fs := mof m_thrown m_taped m_length m_out m_wide m_gathered m_sets m_ranges m_nodes m_at m_flags m_fault m_place m_numbered m_depth m_value m_isNot m_least0 m_most0 m_slot m_work m_got m_rowMany m_charAt m_charWide m_trail m_isMatch m_matchGroups m_allFrom m_allBefore m_founds m_pieces m_writtenMany m_templateWide m_tooMuch) f_MO_220 (Or.inl rfl) d_MO_fault_2 h80.2.2 (Nat.le_of_ble_eq_true rfl) (fun _ => ⟨rfl, rfl⟩) (h80.2.1 (by decide)) ?_
  obtain ⟨G1, eG1⟩ : ∃ z : ab_G, z = List.set G 80 (ab_ob 12 (mof 0 m_taped m_length m_out m_wide m_gathered m_sets m_ranges m_nodes m_at m_flags m_fault m_place m_numbered m_depth m_value m_isNot m_least0 m_most0 m_slot m_work m_got m_rowMany m_charAt m_charWide m_trail m_isMatch m_matchGroups m_allFrom m_allBefore m_founds m_pieces m_writtenMany m_templateWide m_tooMuch)) := ⟨_, rfl⟩
  have hlen := (z_len eG1).trans hlen
  have hsl := (z_sl h80 eG1 rfl).trans hsl
  have hfr := hfr.wr h80 eG1 (by decide)
  have h80 := h80.kept eG1
  change ab_W _ _ _ (List.set G 80 (ab_ob 12 (mof 0 m_taped m_length m_out m_wide m_gathered m_sets m_ranges m_nodes m_at m_flags m_fault m_place m_numbered m_depth m_value m_isNot m_least0 m_most0 m_slot m_work m_got m_rowMany m_charAt m_charWide m_trail m_isMatch m_matchGroups m_allFrom m_allBefore m_founds m_pieces m_writtenMany m_templateWide m_tooMuch))) 5 [some (vR 80), some (vz x)] [] _
  rw [← eG1]
  refine ab_iload_n d_MO_fault_5 rfl ?_
  refine zz_if_ne (tgt := 16) d_MO_fault_6 (by decide) (by omega) (fun c2 => ?_) (fun c2 => ?_)
  · refine ab_iload_n d_MO_fault_16 rfl ?_
    refine zz_iconst d_MO_fault_17 ?_
    refine zz_icmp_ne (tgt := 28) d_MO_fault_18 (by decide) (by omega) (by decide) (fun c3 => ?_) (fun c3 => ?_)
    · refine zz_iconst d_MO_fault_28 ?_
      refine zz_iret rfl d_MO_fault_29 ?_
      rw [hQ]; exact ⟨_, rfl, hfr, hlen, hsl, h80⟩
    · refine ab_aload_n d_MO_fault_21 rfl ?_
      refine ab_getf (fs := mof 0 m_taped m_length m_out m_wide m_gathered m_sets m_ranges m_nodes m_at m_flags m_fault m_place m_numbered m_depth m_value m_isNot m_least0 m_most0 m_slot m_work m_got m_rowMany m_charAt m_charWide m_trail m_isMatch m_matchGroups m_allFrom m_allBefore m_founds m_pieces m_writtenMany m_templateWide m_tooMuch) f_MO_75 d_MO_fault_22 h80.2.2 rfl ?_
      refine ab_goto (tgt := 29) d_MO_fault_25 (by decide) ?_
      refine zz_iret rfl d_MO_fault_29 ?_
      rw [hQ]; exact ⟨_, rfl, hfr, hlen, hsl, h80⟩
  · refine ab_aload_n d_MO_fault_9 rfl ?_
    refine ab_getf (fs := mof 0 m_taped m_length m_out m_wide m_gathered m_sets m_ranges m_nodes m_at m_flags m_fault m_place m_numbered m_depth m_value m_isNot m_least0 m_most0 m_slot m_work m_got m_rowMany m_charAt m_charWide m_trail m_isMatch m_matchGroups m_allFrom m_allBefore m_founds m_pieces m_writtenMany m_templateWide m_tooMuch) f_MO_273 d_MO_fault_10 h80.2.2 rfl ?_
    refine ab_goto (tgt := 29) d_MO_fault_13 (by decide) ?_
    refine zz_iret rfl d_MO_fault_29 ?_
    rw [hQ]; exact ⟨_, rfl, hfr, hlen, hsl, h80⟩
set_option maxRecDepth 100000 in
set_option maxHeartbeats 4000000 in
theorem z_MO_found {X : ab_X} {d : Nat} {o : Nat → Nat} {G : ab_G} {m_thrown : Int} {m_taped : Int} {m_length : Int} {m_out : Int} {m_wide : Int} {m_gathered : Int} {m_sets : Int} {m_ranges : Int} {m_nodes : Int} {m_at : Int} {m_flags : Int} {m_fault : Int} {m_place : Int} {m_numbered : Int} {m_depth : Int} {m_value : Int} {m_isNot : Int} {m_least0 : Int} {m_most0 : Int} {m_slot : Int} {m_work : Int} {m_got : Int} {m_rowMany : Int} {m_charAt : Int} {m_charWide : Int} {m_trail : Int} {m_isMatch : Int} {m_matchGroups : Int} {m_allFrom : Int} {m_allBefore : Int} {m_founds : Int} {m_pieces : Int} {m_writtenMany : Int} {m_templateWide : Int} {m_tooMuch : Int} {A_foundAt : Int → Int} {x : Int} {y : Int} (h80 : cc o G 80 280 (ab_ob 12 (mof m_thrown m_taped m_length m_out m_wide m_gathered m_sets m_ranges m_nodes m_at m_flags m_fault m_place m_numbered m_depth m_value m_isNot m_least0 m_most0 m_slot m_work m_got m_rowMany m_charAt m_charWide m_trail m_isMatch m_matchGroups m_allFrom m_allBefore m_founds m_pieces m_writtenMany m_templateWide m_tooMuch))) (h145 : cc o G 145 345 (za 4100 A_foundAt)) (n18 : ab_n0 = 18) (cr : -2147483648 ≤ x ∧ x ≤ 2147483647 ∧ -2147483648 ≤ y ∧ y ≤ 2147483647) (co : 0 ≤ m_founds ∧ m_founds ≤ 2050) : ab_F X d y_MO_found (.code y_MO_found b_MO_found 3 (some (.int))) [vR 80, vz x, vz y] G (fun oc G2 => ∃ v : Int, oc = .returned (some (vz v)) ∧ fx o o [280] G G2 ∧ G2.length = G.length ∧ ab_slots G2 = ab_slots G ∧ cc o G2 80 280 (ab_ob 12 (mof 0 m_taped m_length m_out m_wide m_gathered m_sets m_ranges m_nodes m_at m_flags m_fault m_place m_numbered m_depth m_value m_isNot m_least0 m_most0 m_slot m_work m_got m_rowMany m_charAt m_charWide m_trail m_isMatch m_matchGroups m_allFrom m_allBefore m_founds m_pieces m_writtenMany m_templateWide m_tooMuch)) ∧ (paR A_foundAt m_founds x y v)) := by
  refine ab_F_of (by decide +kernel) (Nat.le_of_ble_eq_true rfl) ?_
  obtain ⟨Q, hQ⟩ : ∃ z : Outcome → ab_G → Prop, z = (fun oc G2 => ∃ v : Int, oc = .returned (some (vz v)) ∧ fx o o [280] G G2 ∧ G2.length = G.length ∧ ab_slots G2 = ab_slots G ∧ cc o G2 80 280 (ab_ob 12 (mof 0 m_taped m_length m_out m_wide m_gathered m_sets m_ranges m_nodes m_at m_flags m_fault m_place m_numbered m_depth m_value m_isNot m_least0 m_most0 m_slot m_work m_got m_rowMany m_charAt m_charWide m_trail m_isMatch m_matchGroups m_allFrom m_allBefore m_founds m_pieces m_writtenMany m_templateWide m_tooMuch)) ∧ (paR A_foundAt m_founds x y v)) := ⟨_, rfl⟩
  rw [← hQ]
  change ab_W X (ab_pl y_MO_found b_MO_found 3 (some (.int))) d G 0 [some (vR 80), some (vz x), some (vz y)] [] Q
  have hfr : fx o o [280] G G := fx.rf
  have hlen : G.length = G.length := rfl
  have hsl : ab_slots G = ab_slots G := rfl
  refine ab_aload_n d_MO_found_0 rfl ?_
  refine zz_iconst d_MO_found_1 ?_
  refine ab_putf (fs := mof m_thrown m_taped m_length m_out m_wide m_gathered m_sets m_ranges m_nodes m_at m_flags m_fault m_place m_numbered m_depth m_value m_isNot m_least0 m_most0 m_slot m_work m_got m_rowMany m_charAt m_charWide m_trail m_isMatch m_matchGroups m_allFrom m_allBefore m_founds m_pieces m_writtenMany m_templateWide m_tooMuch) f_MO_220 (Or.inl rfl) d_MO_found_2 h80.2.2 (Nat.le_of_ble_eq_true rfl) (fun _ => ⟨rfl, rfl⟩) (h80.2.1 (by decide)) ?_
  obtain ⟨G1, eG1⟩ : ∃ z : ab_G, z = List.set G 80 (ab_ob 12 (mof 0 m_taped m_length m_out m_wide m_gathered m_sets m_ranges m_nodes m_at m_flags m_fault m_place m_numbered m_depth m_value m_isNot m_least0 m_most0 m_slot m_work m_got m_rowMany m_charAt m_charWide m_trail m_isMatch m_matchGroups m_allFrom m_allBefore m_founds m_pieces m_writtenMany m_templateWide m_tooMuch)) := ⟨_, rfl⟩
  have h145 := h145.keep h80 eG1 (by decide)
  have hlen := (z_len eG1).trans hlen
  have hsl := (z_sl h80 eG1 rfl).trans hsl
  have hfr := hfr.wr h80 eG1 (by decide)
  have h80 := h80.kept eG1
  change ab_W _ _ _ (List.set G 80 (ab_ob 12 (mof 0 m_taped m_length m_out m_wide m_gathered m_sets m_ranges m_nodes m_at m_flags m_fault m_place m_numbered m_depth m_value m_isNot m_least0 m_most0 m_slot m_work m_got m_rowMany m_charAt m_charWide m_trail m_isMatch m_matchGroups m_allFrom m_allBefore m_founds m_pieces m_writtenMany m_templateWide m_tooMuch))) 5 [some (vR 80), some (vz x), some (vz y)] [] _
  rw [← eG1]
  refine ab_iload_n d_MO_found_5 rfl ?_
  refine zz_if_lt (tgt := 26) d_MO_found_6 (by decide) (by omega) (fun c2 => ?_) (fun c2 => ?_)
  · refine zz_iconst d_MO_found_26 ?_
    refine ab_goto (tgt := 40) d_MO_found_27 (by decide) ?_
    refine zz_iret rfl d_MO_found_40 ?_
    rw [hQ]; exact ⟨_, rfl, hfr, hlen, hsl, h80, (by exact Or.inr ⟨fun t => by omega, rfl⟩)⟩
  · refine ab_iload_n d_MO_found_9 rfl ?_
    refine ab_aload_n d_MO_found_10 rfl ?_
    refine ab_getf (fs := mof 0 m_taped m_length m_out m_wide m_gathered m_sets m_ranges m_nodes m_at m_flags m_fault m_place m_numbered m_depth m_value m_isNot m_least0 m_most0 m_slot m_work m_got m_rowMany m_charAt m_charWide m_trail m_isMatch m_matchGroups m_allFrom m_allBefore m_founds m_pieces m_writtenMany m_templateWide m_tooMuch) f_MO_579 d_MO_found_11 h80.2.2 rfl ?_
    refine zz_icmp_ge (tgt := 26) d_MO_found_14 (by decide) (by omega) (by omega) (fun c3 => ?_) (fun c3 => ?_)
    · refine zz_iconst d_MO_found_26 ?_
      refine ab_goto (tgt := 40) d_MO_found_27 (by decide) ?_
      refine zz_iret rfl d_MO_found_40 ?_
      rw [hQ]; exact ⟨_, rfl, hfr, hlen, hsl, h80, (by exact Or.inr ⟨fun t => by omega, rfl⟩)⟩
    · refine ab_iload_n d_MO_found_17 rfl ?_
      refine zz_if_lt (tgt := 26) d_MO_found_18 (by decide) (by omega) (fun c4 => ?_) (fun c4 => ?_)
      · refine zz_iconst d_MO_found_26 ?_
        refine ab_goto (tgt := 40) d_MO_found_27 (by decide) ?_
        refine zz_iret rfl d_MO_found_40 ?_
        rw [hQ]; exact ⟨_, rfl, hfr, hlen, hsl, h80, (by exact Or.inr ⟨fun t => by omega, rfl⟩)⟩
      · refine ab_iload_n d_MO_found_21 rfl ?_
        refine zz_iconst d_MO_found_22 ?_
        refine zz_icmp_le (tgt := 30) d_MO_found_23 (by decide) (by omega) (by decide) (fun c5 => ?_) (fun c5 => ?_)
        · refine ab_aload_n d_MO_found_30 rfl ?_
          refine ab_getf (fs := mof 0 m_taped m_length m_out m_wide m_gathered m_sets m_ranges m_nodes m_at m_flags m_fault m_place m_numbered m_depth m_value m_isNot m_least0 m_most0 m_slot m_work m_got m_rowMany m_charAt m_charWide m_trail m_isMatch m_matchGroups m_allFrom m_allBefore m_founds m_pieces m_writtenMany m_templateWide m_tooMuch) f_MO_211 d_MO_found_31 h80.2.2 rfl ?_
          refine zz_iconst d_MO_found_34 ?_
          refine ab_iload_n d_MO_found_35 rfl ?_
          refine zz_imul d_MO_found_36 ?_
          refine ab_iload_n d_MO_found_37 rfl ?_
          refine zz_iadd d_MO_found_38 ?_
          refine zz_iald d_MO_found_39 h145 (by omega) ?_
          refine zz_iret rfl d_MO_found_40 ?_
          rw [hQ]; exact ⟨_, rfl, hfr, hlen, hsl, h80, (by exact Or.inl ⟨by omega, rfl⟩)⟩
        · refine zz_iconst d_MO_found_26 ?_
          refine ab_goto (tgt := 40) d_MO_found_27 (by decide) ?_
          refine zz_iret rfl d_MO_found_40 ?_
          rw [hQ]; exact ⟨_, rfl, hfr, hlen, hsl, h80, (by exact Or.inr ⟨fun t => by omega, rfl⟩)⟩
set_option maxRecDepth 100000 in
set_option maxHeartbeats 4000000 in
theorem z_MO_piece {X : ab_X} {d : Nat} {o : Nat → Nat} {G : ab_G} {m_thrown : Int} {m_taped : Int} {m_length : Int} {m_out : Int} {m_wide : Int} {m_gathered : Int} {m_sets : Int} {m_ranges : Int} {m_nodes : Int} {m_at : Int} {m_flags : Int} {m_fault : Int} {m_place : Int} {m_numbered : Int} {m_depth : Int} {m_value : Int} {m_isNot : Int} {m_least0 : Int} {m_most0 : Int} {m_slot : Int} {m_work : Int} {m_got : Int} {m_rowMany : Int} {m_charAt : Int} {m_charWide : Int} {m_trail : Int} {m_isMatch : Int} {m_matchGroups : Int} {m_allFrom : Int} {m_allBefore : Int} {m_founds : Int} {m_pieces : Int} {m_writtenMany : Int} {m_templateWide : Int} {m_tooMuch : Int} {A_pieceAt : Int → Int} {x : Int} {y : Int} (h80 : cc o G 80 280 (ab_ob 12 (mof m_thrown m_taped m_length m_out m_wide m_gathered m_sets m_ranges m_nodes m_at m_flags m_fault m_place m_numbered m_depth m_value m_isNot m_least0 m_most0 m_slot m_work m_got m_rowMany m_charAt m_charWide m_trail m_isMatch m_matchGroups m_allFrom m_allBefore m_founds m_pieces m_writtenMany m_templateWide m_tooMuch))) (h146 : cc o G 146 346 (za 4100 A_pieceAt)) (n18 : ab_n0 = 18) (cr : -2147483648 ≤ x ∧ x ≤ 2147483647 ∧ -2147483648 ≤ y ∧ y ≤ 2147483647) (co : 0 ≤ m_pieces ∧ m_pieces ≤ 2050) : ab_F X d y_MO_piece (.code y_MO_piece b_MO_piece 3 (some (.int))) [vR 80, vz x, vz y] G (fun oc G2 => ∃ v : Int, oc = .returned (some (vz v)) ∧ fx o o [280] G G2 ∧ G2.length = G.length ∧ ab_slots G2 = ab_slots G ∧ cc o G2 80 280 (ab_ob 12 (mof 0 m_taped m_length m_out m_wide m_gathered m_sets m_ranges m_nodes m_at m_flags m_fault m_place m_numbered m_depth m_value m_isNot m_least0 m_most0 m_slot m_work m_got m_rowMany m_charAt m_charWide m_trail m_isMatch m_matchGroups m_allFrom m_allBefore m_founds m_pieces m_writtenMany m_templateWide m_tooMuch)) ∧ (paR A_pieceAt m_pieces x y v)) := by
  refine ab_F_of (by decide +kernel) (Nat.le_of_ble_eq_true rfl) ?_
  obtain ⟨Q, hQ⟩ : ∃ z : Outcome → ab_G → Prop, z = (fun oc G2 => ∃ v : Int, oc = .returned (some (vz v)) ∧ fx o o [280] G G2 ∧ G2.length = G.length ∧ ab_slots G2 = ab_slots G ∧ cc o G2 80 280 (ab_ob 12 (mof 0 m_taped m_length m_out m_wide m_gathered m_sets m_ranges m_nodes m_at m_flags m_fault m_place m_numbered m_depth m_value m_isNot m_least0 m_most0 m_slot m_work m_got m_rowMany m_charAt m_charWide m_trail m_isMatch m_matchGroups m_allFrom m_allBefore m_founds m_pieces m_writtenMany m_templateWide m_tooMuch)) ∧ (paR A_pieceAt m_pieces x y v)) := ⟨_, rfl⟩
  rw [← hQ]
  change ab_W X (ab_pl y_MO_piece b_MO_piece 3 (some (.int))) d G 0 [some (vR 80), some (vz x), some (vz y)] [] Q
  have hfr : fx o o [280] G G := fx.rf
  have hlen : G.length = G.length := rfl
  have hsl : ab_slots G = ab_slots G := rfl
  refine ab_aload_n d_MO_piece_0 rfl ?_
  refine zz_iconst d_MO_piece_1 ?_
  refine ab_putf (fs := mof m_thrown m_taped m_length m_out m_wide m_gathered m_sets m_ranges m_nodes m_at m_flags m_fault m_place m_numbered m_depth m_value m_isNot m_least0 m_most0 m_slot m_work m_got m_rowMany m_charAt m_charWide m_trail m_isMatch m_matchGroups m_allFrom m_allBefore m_founds m_pieces m_writtenMany m_templateWide m_tooMuch) f_MO_220 (Or.inl rfl) d_MO_piece_2 h80.2.2 (Nat.le_of_ble_eq_true rfl) (fun _ => ⟨rfl, rfl⟩) (h80.2.1 (by decide)) ?_
  obtain ⟨G1, eG1⟩ : ∃ z : ab_G, z = List.set G 80 (ab_ob 12 (mof 0 m_taped m_length m_out m_wide m_gathered m_sets m_ranges m_nodes m_at m_flags m_fault m_place m_numbered m_depth m_value m_isNot m_least0 m_most0 m_slot m_work m_got m_rowMany m_charAt m_charWide m_trail m_isMatch m_matchGroups m_allFrom m_allBefore m_founds m_pieces m_writtenMany m_templateWide m_tooMuch)) := ⟨_, rfl⟩
  have h146 := h146.keep h80 eG1 (by decide)
  have hlen := (z_len eG1).trans hlen
  have hsl := (z_sl h80 eG1 rfl).trans hsl
  have hfr := hfr.wr h80 eG1 (by decide)
  have h80 := h80.kept eG1
  change ab_W _ _ _ (List.set G 80 (ab_ob 12 (mof 0 m_taped m_length m_out m_wide m_gathered m_sets m_ranges m_nodes m_at m_flags m_fault m_place m_numbered m_depth m_value m_isNot m_least0 m_most0 m_slot m_work m_got m_rowMany m_charAt m_charWide m_trail m_isMatch m_matchGroups m_allFrom m_allBefore m_founds m_pieces m_writtenMany m_templateWide m_tooMuch))) 5 [some (vR 80), some (vz x), some (vz y)] [] _
  rw [← eG1]
  refine ab_iload_n d_MO_piece_5 rfl ?_
  refine zz_if_lt (tgt := 26) d_MO_piece_6 (by decide) (by omega) (fun c2 => ?_) (fun c2 => ?_)
  · refine zz_iconst d_MO_piece_26 ?_
    refine ab_goto (tgt := 40) d_MO_piece_27 (by decide) ?_
    refine zz_iret rfl d_MO_piece_40 ?_
    rw [hQ]; exact ⟨_, rfl, hfr, hlen, hsl, h80, (by exact Or.inr ⟨fun t => by omega, rfl⟩)⟩
  · refine ab_iload_n d_MO_piece_9 rfl ?_
    refine ab_aload_n d_MO_piece_10 rfl ?_
    refine ab_getf (fs := mof 0 m_taped m_length m_out m_wide m_gathered m_sets m_ranges m_nodes m_at m_flags m_fault m_place m_numbered m_depth m_value m_isNot m_least0 m_most0 m_slot m_work m_got m_rowMany m_charAt m_charWide m_trail m_isMatch m_matchGroups m_allFrom m_allBefore m_founds m_pieces m_writtenMany m_templateWide m_tooMuch) f_MO_588 d_MO_piece_11 h80.2.2 rfl ?_
    refine zz_icmp_ge (tgt := 26) d_MO_piece_14 (by decide) (by omega) (by omega) (fun c3 => ?_) (fun c3 => ?_)
    · refine zz_iconst d_MO_piece_26 ?_
      refine ab_goto (tgt := 40) d_MO_piece_27 (by decide) ?_
      refine zz_iret rfl d_MO_piece_40 ?_
      rw [hQ]; exact ⟨_, rfl, hfr, hlen, hsl, h80, (by exact Or.inr ⟨fun t => by omega, rfl⟩)⟩
    · refine ab_iload_n d_MO_piece_17 rfl ?_
      refine zz_if_lt (tgt := 26) d_MO_piece_18 (by decide) (by omega) (fun c4 => ?_) (fun c4 => ?_)
      · refine zz_iconst d_MO_piece_26 ?_
        refine ab_goto (tgt := 40) d_MO_piece_27 (by decide) ?_
        refine zz_iret rfl d_MO_piece_40 ?_
        rw [hQ]; exact ⟨_, rfl, hfr, hlen, hsl, h80, (by exact Or.inr ⟨fun t => by omega, rfl⟩)⟩
      · refine ab_iload_n d_MO_piece_21 rfl ?_
        refine zz_iconst d_MO_piece_22 ?_
        refine zz_icmp_le (tgt := 30) d_MO_piece_23 (by decide) (by omega) (by decide) (fun c5 => ?_) (fun c5 => ?_)
        · refine ab_aload_n d_MO_piece_30 rfl ?_
          refine ab_getf (fs := mof 0 m_taped m_length m_out m_wide m_gathered m_sets m_ranges m_nodes m_at m_flags m_fault m_place m_numbered m_depth m_value m_isNot m_least0 m_most0 m_slot m_work m_got m_rowMany m_charAt m_charWide m_trail m_isMatch m_matchGroups m_allFrom m_allBefore m_founds m_pieces m_writtenMany m_templateWide m_tooMuch) f_MO_214 d_MO_piece_31 h80.2.2 rfl ?_
          refine zz_iconst d_MO_piece_34 ?_
          refine ab_iload_n d_MO_piece_35 rfl ?_
          refine zz_imul d_MO_piece_36 ?_
          refine ab_iload_n d_MO_piece_37 rfl ?_
          refine zz_iadd d_MO_piece_38 ?_
          refine zz_iald d_MO_piece_39 h146 (by omega) ?_
          refine zz_iret rfl d_MO_piece_40 ?_
          rw [hQ]; exact ⟨_, rfl, hfr, hlen, hsl, h80, (by exact Or.inl ⟨by omega, rfl⟩)⟩
        · refine zz_iconst d_MO_piece_26 ?_
          refine ab_goto (tgt := 40) d_MO_piece_27 (by decide) ?_
          refine zz_iret rfl d_MO_piece_40 ?_
          rw [hQ]; exact ⟨_, rfl, hfr, hlen, hsl, h80, (by exact Or.inr ⟨fun t => by omega, rfl⟩)⟩
set_option maxRecDepth 100000 in
set_option maxHeartbeats 4000000 in
theorem z_MO_group {X : ab_X} {d : Nat} {o : Nat → Nat} {G : ab_G} {m_thrown : Int} {m_taped : Int} {m_length : Int} {m_out : Int} {m_wide : Int} {m_gathered : Int} {m_sets : Int} {m_ranges : Int} {m_nodes : Int} {m_at : Int} {m_flags : Int} {m_fault : Int} {m_place : Int} {m_numbered : Int} {m_depth : Int} {m_value : Int} {m_isNot : Int} {m_least0 : Int} {m_most0 : Int} {m_slot : Int} {m_work : Int} {m_got : Int} {m_rowMany : Int} {m_charAt : Int} {m_charWide : Int} {m_trail : Int} {m_isMatch : Int} {m_matchGroups : Int} {m_allFrom : Int} {m_allBefore : Int} {m_founds : Int} {m_pieces : Int} {m_writtenMany : Int} {m_templateWide : Int} {m_tooMuch : Int} {A_kept : Int → Int} {x : Int} {y : Int} (h80 : cc o G 80 280 (ab_ob 12 (mof m_thrown m_taped m_length m_out m_wide m_gathered m_sets m_ranges m_nodes m_at m_flags m_fault m_place m_numbered m_depth m_value m_isNot m_least0 m_most0 m_slot m_work m_got m_rowMany m_charAt m_charWide m_trail m_isMatch m_matchGroups m_allFrom m_allBefore m_founds m_pieces m_writtenMany m_templateWide m_tooMuch))) (h139 : cc o G 139 339 (za 20 A_kept)) (n18 : ab_n0 = 18) (cr : -2147483648 ≤ x ∧ x ≤ 2147483647 ∧ -2147483648 ≤ y ∧ y ≤ 2147483647) (co : 0 ≤ m_matchGroups ∧ m_matchGroups ≤ 9 ∧ 0 ≤ m_isMatch ∧ m_isMatch ≤ 1) : ab_F X d y_MO_group (.code y_MO_group b_MO_group 3 (some (.int))) [vR 80, vz x, vz y] G (fun oc G2 => ∃ v : Int, oc = .returned (some (vz v)) ∧ fx o o [280] G G2 ∧ G2.length = G.length ∧ ab_slots G2 = ab_slots G ∧ cc o G2 80 280 (ab_ob 12 (mof 0 m_taped m_length m_out m_wide m_gathered m_sets m_ranges m_nodes m_at m_flags m_fault m_place m_numbered m_depth m_value m_isNot m_least0 m_most0 m_slot m_work m_got m_rowMany m_charAt m_charWide m_trail m_isMatch m_matchGroups m_allFrom m_allBefore m_founds m_pieces m_writtenMany m_templateWide m_tooMuch))) := by
  refine ab_F_of (by decide +kernel) (Nat.le_of_ble_eq_true rfl) ?_
  obtain ⟨Q, hQ⟩ : ∃ z : Outcome → ab_G → Prop, z = (fun oc G2 => ∃ v : Int, oc = .returned (some (vz v)) ∧ fx o o [280] G G2 ∧ G2.length = G.length ∧ ab_slots G2 = ab_slots G ∧ cc o G2 80 280 (ab_ob 12 (mof 0 m_taped m_length m_out m_wide m_gathered m_sets m_ranges m_nodes m_at m_flags m_fault m_place m_numbered m_depth m_value m_isNot m_least0 m_most0 m_slot m_work m_got m_rowMany m_charAt m_charWide m_trail m_isMatch m_matchGroups m_allFrom m_allBefore m_founds m_pieces m_writtenMany m_templateWide m_tooMuch))) := ⟨_, rfl⟩
  rw [← hQ]
  change ab_W X (ab_pl y_MO_group b_MO_group 3 (some (.int))) d G 0 [some (vR 80), some (vz x), some (vz y)] [] Q
  have hfr : fx o o [280] G G := fx.rf
  have hlen : G.length = G.length := rfl
  have hsl : ab_slots G = ab_slots G := rfl
  refine ab_aload_n d_MO_group_0 rfl ?_
  refine zz_iconst d_MO_group_1 ?_
  refine ab_putf (fs := mof m_thrown m_taped m_length m_out m_wide m_gathered m_sets m_ranges m_nodes m_at m_flags m_fault m_place m_numbered m_depth m_value m_isNot m_least0 m_most0 m_slot m_work m_got m_rowMany m_charAt m_charWide m_trail m_isMatch m_matchGroups m_allFrom m_allBefore m_founds m_pieces m_writtenMany m_templateWide m_tooMuch) f_MO_220 (Or.inl rfl) d_MO_group_2 h80.2.2 (Nat.le_of_ble_eq_true rfl) (fun _ => ⟨rfl, rfl⟩) (h80.2.1 (by decide)) ?_
  obtain ⟨G1, eG1⟩ : ∃ z : ab_G, z = List.set G 80 (ab_ob 12 (mof 0 m_taped m_length m_out m_wide m_gathered m_sets m_ranges m_nodes m_at m_flags m_fault m_place m_numbered m_depth m_value m_isNot m_least0 m_most0 m_slot m_work m_got m_rowMany m_charAt m_charWide m_trail m_isMatch m_matchGroups m_allFrom m_allBefore m_founds m_pieces m_writtenMany m_templateWide m_tooMuch)) := ⟨_, rfl⟩
  have h139 := h139.keep h80 eG1 (by decide)
  have hlen := (z_len eG1).trans hlen
  have hsl := (z_sl h80 eG1 rfl).trans hsl
  have hfr := hfr.wr h80 eG1 (by decide)
  have h80 := h80.kept eG1
  change ab_W _ _ _ (List.set G 80 (ab_ob 12 (mof 0 m_taped m_length m_out m_wide m_gathered m_sets m_ranges m_nodes m_at m_flags m_fault m_place m_numbered m_depth m_value m_isNot m_least0 m_most0 m_slot m_work m_got m_rowMany m_charAt m_charWide m_trail m_isMatch m_matchGroups m_allFrom m_allBefore m_founds m_pieces m_writtenMany m_templateWide m_tooMuch))) 5 [some (vR 80), some (vz x), some (vz y)] [] _
  rw [← eG1]
  refine ab_aload_n d_MO_group_5 rfl ?_
  refine ab_getf (fs := mof 0 m_taped m_length m_out m_wide m_gathered m_sets m_ranges m_nodes m_at m_flags m_fault m_place m_numbered m_depth m_value m_isNot m_least0 m_most0 m_slot m_work m_got m_rowMany m_charAt m_charWide m_trail m_isMatch m_matchGroups m_allFrom m_allBefore m_founds m_pieces m_writtenMany m_templateWide m_tooMuch) f_MO_563 d_MO_group_6 h80.2.2 rfl ?_
  refine zz_if_eq (tgt := 33) d_MO_group_9 (by decide) (by omega) (fun c2 => ?_) (fun c2 => ?_)
  · refine zz_iconst d_MO_group_33 ?_
    refine ab_goto (tgt := 47) d_MO_group_34 (by decide) ?_
    refine zz_iret rfl d_MO_group_47 ?_
    rw [hQ]; exact ⟨_, rfl, hfr, hlen, hsl, h80⟩
  · refine ab_iload_n d_MO_group_12 rfl ?_
    refine zz_if_lt (tgt := 33) d_MO_group_13 (by decide) (by omega) (fun c3 => ?_) (fun c3 => ?_)
    · refine zz_iconst d_MO_group_33 ?_
      refine ab_goto (tgt := 47) d_MO_group_34 (by decide) ?_
      refine zz_iret rfl d_MO_group_47 ?_
      rw [hQ]; exact ⟨_, rfl, hfr, hlen, hsl, h80⟩
    · refine ab_iload_n d_MO_group_16 rfl ?_
      refine ab_aload_n d_MO_group_17 rfl ?_
      refine ab_getf (fs := mof 0 m_taped m_length m_out m_wide m_gathered m_sets m_ranges m_nodes m_at m_flags m_fault m_place m_numbered m_depth m_value m_isNot m_least0 m_most0 m_slot m_work m_got m_rowMany m_charAt m_charWide m_trail m_isMatch m_matchGroups m_allFrom m_allBefore m_founds m_pieces m_writtenMany m_templateWide m_tooMuch) f_MO_570 d_MO_group_18 h80.2.2 rfl ?_
      refine zz_icmp_gt (tgt := 33) d_MO_group_21 (by decide) (by omega) (by omega) (fun c4 => ?_) (fun c4 => ?_)
      · refine zz_iconst d_MO_group_33 ?_
        refine ab_goto (tgt := 47) d_MO_group_34 (by decide) ?_
        refine zz_iret rfl d_MO_group_47 ?_
        rw [hQ]; exact ⟨_, rfl, hfr, hlen, hsl, h80⟩
      · refine ab_iload_n d_MO_group_24 rfl ?_
        refine zz_if_lt (tgt := 33) d_MO_group_25 (by decide) (by omega) (fun c5 => ?_) (fun c5 => ?_)
        · refine zz_iconst d_MO_group_33 ?_
          refine ab_goto (tgt := 47) d_MO_group_34 (by decide) ?_
          refine zz_iret rfl d_MO_group_47 ?_
          rw [hQ]; exact ⟨_, rfl, hfr, hlen, hsl, h80⟩
        · refine ab_iload_n d_MO_group_28 rfl ?_
          refine zz_iconst d_MO_group_29 ?_
          refine zz_icmp_le (tgt := 37) d_MO_group_30 (by decide) (by omega) (by decide) (fun c6 => ?_) (fun c6 => ?_)
          · refine ab_aload_n d_MO_group_37 rfl ?_
            refine ab_getf (fs := mof 0 m_taped m_length m_out m_wide m_gathered m_sets m_ranges m_nodes m_at m_flags m_fault m_place m_numbered m_depth m_value m_isNot m_least0 m_most0 m_slot m_work m_got m_rowMany m_charAt m_charWide m_trail m_isMatch m_matchGroups m_allFrom m_allBefore m_founds m_pieces m_writtenMany m_templateWide m_tooMuch) f_MO_193 d_MO_group_38 h80.2.2 rfl ?_
            refine zz_iconst d_MO_group_41 ?_
            refine ab_iload_n d_MO_group_42 rfl ?_
            refine zz_imul d_MO_group_43 ?_
            refine ab_iload_n d_MO_group_44 rfl ?_
            refine zz_iadd d_MO_group_45 ?_
            refine zz_iald d_MO_group_46 h139 (by omega) ?_
            refine zz_iret rfl d_MO_group_47 ?_
            rw [hQ]; exact ⟨_, rfl, hfr, hlen, hsl, h80⟩
          · refine zz_iconst d_MO_group_33 ?_
            refine ab_goto (tgt := 47) d_MO_group_34 (by decide) ?_
            refine zz_iret rfl d_MO_group_47 ?_
            rw [hQ]; exact ⟨_, rfl, hfr, hlen, hsl, h80⟩
