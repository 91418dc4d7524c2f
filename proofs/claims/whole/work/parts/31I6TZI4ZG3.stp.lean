set_option maxRecDepth 100000 in
set_option maxHeartbeats 4000000 in
theorem z_MO_addStep {X : ab_X} {d : Nat} {o : Nat → Nat} {G : ab_G} {m_thrown : Int} {m_taped : Int} {m_length : Int} {m_out : Int} {m_wide : Int} {m_gathered : Int} {m_sets : Int} {m_ranges : Int} {m_nodes : Int} {m_at : Int} {m_flags : Int} {m_fault : Int} {m_place : Int} {m_numbered : Int} {m_depth : Int} {m_value : Int} {m_isNot : Int} {m_least0 : Int} {m_most0 : Int} {m_slot : Int} {m_work : Int} {m_got : Int} {m_rowMany : Int} {m_charAt : Int} {m_charWide : Int} {m_trail : Int} {m_isMatch : Int} {m_matchGroups : Int} {m_allFrom : Int} {m_allBefore : Int} {m_founds : Int} {m_pieces : Int} {m_writtenMany : Int} {m_templateWide : Int} {m_tooMuch : Int} {T : Int → Int} {N : Int → Int} {W : Int → Int} {SN : Int → Int} {k : Int} {x : Int} {y : Int} (h80 : cc o G 80 280 (ab_ob 12 (mof m_thrown m_taped m_length m_out m_wide m_gathered m_sets m_ranges m_nodes m_at m_flags m_fault m_place m_numbered m_depth m_value m_isNot m_least0 m_most0 m_slot m_work m_got m_rowMany m_charAt m_charWide m_trail m_isMatch m_matchGroups m_allFrom m_allBefore m_founds m_pieces m_writtenMany m_templateWide m_tooMuch))) (h118 : cc o G 118 318 (za 75000 T)) (h119 : cc o G 119 319 (za 75000 N)) (h120 : cc o G 120 320 (za 75000 W)) (h117 : cc o G 117 317 (za 6 SN)) (n18 : ab_n0 = 18) (csl : 0 ≤ m_slot ∧ m_slot ≤ 5) (cn : 0 ≤ (SN m_slot) ∧ (SN m_slot) < 12500) : ab_F X d y_MO_addStep (.code y_MO_addStep b_MO_addStep 5 (some (.int))) [vR 80, vz k, vz x, vz y] G (fun oc G2 => oc = .returned (some (vz (SN m_slot))) ∧ fx o o [318, 319, 320, 317] G G2 ∧ G2.length = G.length ∧ ab_slots G2 = ab_slots G ∧ cc o G2 118 318 (za 75000 (zu T ((12500 * m_slot) + (SN m_slot)) k)) ∧ cc o G2 119 319 (za 75000 (zu N ((12500 * m_slot) + (SN m_slot)) x)) ∧ cc o G2 120 320 (za 75000 (zu W ((12500 * m_slot) + (SN m_slot)) y)) ∧ cc o G2 117 317 (za 6 (zu SN m_slot ((SN m_slot) + 1)))) := by
  refine ab_F_of (by decide +kernel) (Nat.le_of_ble_eq_true rfl) ?_
  obtain ⟨Q, hQ⟩ : ∃ z : Outcome → ab_G → Prop, z = (fun oc G2 => oc = .returned (some (vz (SN m_slot))) ∧ fx o o [318, 319, 320, 317] G G2 ∧ G2.length = G.length ∧ ab_slots G2 = ab_slots G ∧ cc o G2 118 318 (za 75000 (zu T ((12500 * m_slot) + (SN m_slot)) k)) ∧ cc o G2 119 319 (za 75000 (zu N ((12500 * m_slot) + (SN m_slot)) x)) ∧ cc o G2 120 320 (za 75000 (zu W ((12500 * m_slot) + (SN m_slot)) y)) ∧ cc o G2 117 317 (za 6 (zu SN m_slot ((SN m_slot) + 1)))) := ⟨_, rfl⟩
  rw [← hQ]
  change ab_W X (ab_pl y_MO_addStep b_MO_addStep 5 (some (.int))) d G 0 [some (vR 80), some (vz k), some (vz x), some (vz y), none] [] Q
  have hfr : fx o o [318, 319, 320, 317] G G := fx.rf
  have hlen : G.length = G.length := rfl
  have hsl : ab_slots G = ab_slots G := rfl
  refine zz_sipush d_MO_addStep_0 (by decide) ?_
  refine ab_aload_n d_MO_addStep_3 rfl ?_
  refine ab_getf (fs := mof m_thrown m_taped m_length m_out m_wide m_gathered m_sets m_ranges m_nodes m_at m_flags m_fault m_place m_numbered m_depth m_value m_isNot m_least0 m_most0 m_slot m_work m_got m_rowMany m_charAt m_charWide m_trail m_isMatch m_matchGroups m_allFrom m_allBefore m_founds m_pieces m_writtenMany m_templateWide m_tooMuch) f_MO_438 d_MO_addStep_4 h80.2.2 rfl ?_
  refine zz_imul d_MO_addStep_7 ?_
  refine ab_aload_n d_MO_addStep_8 rfl ?_
  refine ab_getf (fs := mof m_thrown m_taped m_length m_out m_wide m_gathered m_sets m_ranges m_nodes m_at m_flags m_fault m_place m_numbered m_depth m_value m_isNot m_least0 m_most0 m_slot m_work m_got m_rowMany m_charAt m_charWide m_trail m_isMatch m_matchGroups m_allFrom m_allBefore m_founds m_pieces m_writtenMany m_templateWide m_tooMuch) f_MO_124 d_MO_addStep_9 h80.2.2 rfl ?_
  refine ab_aload_n d_MO_addStep_12 rfl ?_
  refine ab_getf (fs := mof m_thrown m_taped m_length m_out m_wide m_gathered m_sets m_ranges m_nodes m_at m_flags m_fault m_place m_numbered m_depth m_value m_isNot m_least0 m_most0 m_slot m_work m_got m_rowMany m_charAt m_charWide m_trail m_isMatch m_matchGroups m_allFrom m_allBefore m_founds m_pieces m_writtenMany m_templateWide m_tooMuch) f_MO_438 d_MO_addStep_13 h80.2.2 rfl ?_
  refine zz_iald d_MO_addStep_16 h117 (by omega) ?_
  refine zz_iadd d_MO_addStep_17 ?_
  refine ab_istore d_MO_addStep_18 (Nat.le_of_ble_eq_true rfl) (Nat.le_of_ble_eq_true rfl) rfl ?_
  change ab_W _ _ _ G 20 [some (vR 80), some (vz k), some (vz x), some (vz y), some (vz ((12500 * m_slot) + (SN m_slot)))] [] _
  refine ab_aload_n d_MO_addStep_20 rfl ?_
  refine ab_getf (fs := mof m_thrown m_taped m_length m_out m_wide m_gathered m_sets m_ranges m_nodes m_at m_flags m_fault m_place m_numbered m_depth m_value m_isNot m_least0 m_most0 m_slot m_work m_got m_rowMany m_charAt m_charWide m_trail m_isMatch m_matchGroups m_allFrom m_allBefore m_founds m_pieces m_writtenMany m_templateWide m_tooMuch) f_MO_128 d_MO_addStep_21 h80.2.2 rfl ?_
  refine ab_iload d_MO_addStep_24 rfl ?_
  refine ab_iload_n d_MO_addStep_26 rfl ?_
  refine zz_iast d_MO_addStep_27 h118 (by omega) (h118.2.1 (by decide)) ?_
  obtain ⟨G1, eG1⟩ : ∃ z : ab_G, z = List.set G 118 (za 75000 (zu T ((12500 * m_slot) + (SN m_slot)) k)) := ⟨_, rfl⟩
  have h80 := h80.keep h118 eG1 (by decide)
  have h119 := h119.keep h118 eG1 (by decide)
  have h120 := h120.keep h118 eG1 (by decide)
  have h117 := h117.keep h118 eG1 (by decide)
  have hlen := (z_len eG1).trans hlen
  have hsl := (z_sl h118 eG1 rfl).trans hsl
  have hfr := hfr.wr h118 eG1 (by decide)
  have h118 := h118.kept eG1
  change ab_W _ _ _ (List.set G 118 (za 75000 (zu T ((12500 * m_slot) + (SN m_slot)) k))) 28 [some (vR 80), some (vz k), some (vz x), some (vz y), some (vz ((12500 * m_slot) + (SN m_slot)))] [] _
  rw [← eG1]
  refine ab_aload_n d_MO_addStep_28 rfl ?_
  refine ab_getf (fs := mof m_thrown m_taped m_length m_out m_wide m_gathered m_sets m_ranges m_nodes m_at m_flags m_fault m_place m_numbered m_depth m_value m_isNot m_least0 m_most0 m_slot m_work m_got m_rowMany m_charAt m_charWide m_trail m_isMatch m_matchGroups m_allFrom m_allBefore m_founds m_pieces m_writtenMany m_templateWide m_tooMuch) f_MO_131 d_MO_addStep_29 h80.2.2 rfl ?_
  refine ab_iload d_MO_addStep_32 rfl ?_
  refine ab_iload_n d_MO_addStep_34 rfl ?_
  refine zz_iast d_MO_addStep_35 h119 (by omega) (h119.2.1 (by decide)) ?_
  obtain ⟨G2, eG2⟩ : ∃ z : ab_G, z = List.set G1 119 (za 75000 (zu N ((12500 * m_slot) + (SN m_slot)) x)) := ⟨_, rfl⟩
  have h80 := h80.keep h119 eG2 (by decide)
  have h118 := h118.keep h119 eG2 (by decide)
  have h120 := h120.keep h119 eG2 (by decide)
  have h117 := h117.keep h119 eG2 (by decide)
  have hlen := (z_len eG2).trans hlen
  have hsl := (z_sl h119 eG2 rfl).trans hsl
  have hfr := hfr.wr h119 eG2 (by decide)
  have h119 := h119.kept eG2
  change ab_W _ _ _ (List.set G1 119 (za 75000 (zu N ((12500 * m_slot) + (SN m_slot)) x))) 36 [some (vR 80), some (vz k), some (vz x), some (vz y), some (vz ((12500 * m_slot) + (SN m_slot)))] [] _
  rw [← eG2]
  refine ab_aload_n d_MO_addStep_36 rfl ?_
  refine ab_getf (fs := mof m_thrown m_taped m_length m_out m_wide m_gathered m_sets m_ranges m_nodes m_at m_flags m_fault m_place m_numbered m_depth m_value m_isNot m_least0 m_most0 m_slot m_work m_got m_rowMany m_charAt m_charWide m_trail m_isMatch m_matchGroups m_allFrom m_allBefore m_founds m_pieces m_writtenMany m_templateWide m_tooMuch) f_MO_134 d_MO_addStep_37 h80.2.2 rfl ?_
  refine ab_iload d_MO_addStep_40 rfl ?_
  refine ab_iload_n d_MO_addStep_42 rfl ?_
  refine zz_iast d_MO_addStep_43 h120 (by omega) (h120.2.1 (by decide)) ?_
  obtain ⟨G3, eG3⟩ : ∃ z : ab_G, z = List.set G2 120 (za 75000 (zu W ((12500 * m_slot) + (SN m_slot)) y)) := ⟨_, rfl⟩
  have h80 := h80.keep h120 eG3 (by decide)
  have h118 := h118.keep h120 eG3 (by decide)
  have h119 := h119.keep h120 eG3 (by decide)
  have h117 := h117.keep h120 eG3 (by decide)
  have hlen := (z_len eG3).trans hlen
  have hsl := (z_sl h120 eG3 rfl).trans hsl
  have hfr := hfr.wr h120 eG3 (by decide)
  have h120 := h120.kept eG3
  change ab_W _ _ _ (List.set G2 120 (za 75000 (zu W ((12500 * m_slot) + (SN m_slot)) y))) 44 [some (vR 80), some (vz k), some (vz x), some (vz y), some (vz ((12500 * m_slot) + (SN m_slot)))] [] _
  rw [← eG3]
  refine ab_aload_n d_MO_addStep_44 rfl ?_
  refine ab_getf (fs := mof m_thrown m_taped m_length m_out m_wide m_gathered m_sets m_ranges m_nodes m_at m_flags m_fault m_place m_numbered m_depth m_value m_isNot m_least0 m_most0 m_slot m_work m_got m_rowMany m_charAt m_charWide m_trail m_isMatch m_matchGroups m_allFrom m_allBefore m_founds m_pieces m_writtenMany m_templateWide m_tooMuch) f_MO_124 d_MO_addStep_45 h80.2.2 rfl ?_
  refine ab_aload_n d_MO_addStep_48 rfl ?_
  refine ab_getf (fs := mof m_thrown m_taped m_length m_out m_wide m_gathered m_sets m_ranges m_nodes m_at m_flags m_fault m_place m_numbered m_depth m_value m_isNot m_least0 m_most0 m_slot m_work m_got m_rowMany m_charAt m_charWide m_trail m_isMatch m_matchGroups m_allFrom m_allBefore m_founds m_pieces m_writtenMany m_templateWide m_tooMuch) f_MO_438 d_MO_addStep_49 h80.2.2 rfl ?_
  refine ab_dup2 d_MO_addStep_52 rfl rfl ?_
  refine zz_iald d_MO_addStep_53 h117 (by omega) ?_
  refine zz_iconst d_MO_addStep_54 ?_
  refine zz_iadd d_MO_addStep_55 ?_
  refine zz_iast d_MO_addStep_56 h117 (by omega) (h117.2.1 (by decide)) ?_
  obtain ⟨G4, eG4⟩ : ∃ z : ab_G, z = List.set G3 117 (za 6 (zu SN m_slot ((SN m_slot) + 1))) := ⟨_, rfl⟩
  have h80 := h80.keep h117 eG4 (by decide)
  have h118 := h118.keep h117 eG4 (by decide)
  have h119 := h119.keep h117 eG4 (by decide)
  have h120 := h120.keep h117 eG4 (by decide)
  have hlen := (z_len eG4).trans hlen
  have hsl := (z_sl h117 eG4 rfl).trans hsl
  have hfr := hfr.wr h117 eG4 (by decide)
  have h117 := h117.kept eG4
  change ab_W _ _ _ (List.set G3 117 (za 6 (zu SN m_slot ((SN m_slot) + 1)))) 57 [some (vR 80), some (vz k), some (vz x), some (vz y), some (vz ((12500 * m_slot) + (SN m_slot)))] [] _
  rw [← eG4]
  refine ab_aload_n d_MO_addStep_57 rfl ?_
  refine ab_getf (fs := mof m_thrown m_taped m_length m_out m_wide m_gathered m_sets m_ranges m_nodes m_at m_flags m_fault m_place m_numbered m_depth m_value m_isNot m_least0 m_most0 m_slot m_work m_got m_rowMany m_charAt m_charWide m_trail m_isMatch m_matchGroups m_allFrom m_allBefore m_founds m_pieces m_writtenMany m_templateWide m_tooMuch) f_MO_124 d_MO_addStep_58 h80.2.2 rfl ?_
  refine ab_aload_n d_MO_addStep_61 rfl ?_
  refine ab_getf (fs := mof m_thrown m_taped m_length m_out m_wide m_gathered m_sets m_ranges m_nodes m_at m_flags m_fault m_place m_numbered m_depth m_value m_isNot m_least0 m_most0 m_slot m_work m_got m_rowMany m_charAt m_charWide m_trail m_isMatch m_matchGroups m_allFrom m_allBefore m_founds m_pieces m_writtenMany m_templateWide m_tooMuch) f_MO_438 d_MO_addStep_62 h80.2.2 rfl ?_
  refine zz_iald d_MO_addStep_65 h117 (by omega) ?_
  refine zz_top (zu_self _ _ _) ?_
  refine zz_iconst d_MO_addStep_66 ?_
  refine zz_isub d_MO_addStep_67 ?_
  refine zz_top (y := (SN m_slot)) (by omega) ?_
  change ab_W _ _ _ G4 68 [some (vR 80), some (vz k), some (vz x), some (vz y), some (vz ((12500 * m_slot) + (SN m_slot)))] [vz (SN m_slot)] _
  refine zz_iret rfl d_MO_addStep_68 ?_
  rw [hQ]; exact ⟨rfl, hfr, hlen, hsl, h118, h119, h120, h117⟩
set_option maxRecDepth 100000 in
set_option maxHeartbeats 4000000 in
theorem z_MO_row {X : ab_X} {d : Nat} {o : Nat → Nat} {G : ab_G} {m_thrown : Int} {m_taped : Int} {m_length : Int} {m_out : Int} {m_wide : Int} {m_gathered : Int} {m_sets : Int} {m_ranges : Int} {m_nodes : Int} {m_at : Int} {m_flags : Int} {m_fault : Int} {m_place : Int} {m_numbered : Int} {m_depth : Int} {m_value : Int} {m_isNot : Int} {m_least0 : Int} {m_most0 : Int} {m_slot : Int} {m_work : Int} {m_got : Int} {m_rowMany : Int} {m_charAt : Int} {m_charWide : Int} {m_trail : Int} {m_isMatch : Int} {m_matchGroups : Int} {m_allFrom : Int} {m_allBefore : Int} {m_founds : Int} {m_pieces : Int} {m_writtenMany : Int} {m_templateWide : Int} {m_tooMuch : Int} (h80 : cc o G 80 280 (ab_ob 12 (mof m_thrown m_taped m_length m_out m_wide m_gathered m_sets m_ranges m_nodes m_at m_flags m_fault m_place m_numbered m_depth m_value m_isNot m_least0 m_most0 m_slot m_work m_got m_rowMany m_charAt m_charWide m_trail m_isMatch m_matchGroups m_allFrom m_allBefore m_founds m_pieces m_writtenMany m_templateWide m_tooMuch))) (n18 : ab_n0 = 18) (cr : 0 ≤ m_rowMany ∧ m_rowMany ≤ 1249) : ab_F X d y_MO_row (.code y_MO_row b_MO_row 1 (some (.int))) [vR 80] G (fun oc G2 => oc = .returned (some (vz (32 * m_rowMany))) ∧ fx o o [280] G G2 ∧ G2.length = G.length ∧ ab_slots G2 = ab_slots G ∧ cc o G2 80 280 (ab_ob 12 (mof m_thrown m_taped m_length m_out m_wide m_gathered m_sets m_ranges m_nodes m_at m_flags m_fault m_place m_numbered m_depth m_value m_isNot m_least0 m_most0 m_slot m_work m_got (m_rowMany + 1) m_charAt m_charWide m_trail m_isMatch m_matchGroups m_allFrom m_allBefore m_founds m_pieces m_writtenMany m_templateWide m_tooMuch))) := by
  refine ab_F_of (by decide +kernel) (Nat.le_of_ble_eq_true rfl) ?_
  obtain ⟨Q, hQ⟩ : ∃ z : Outcome → ab_G → Prop, z = (fun oc G2 => oc = .returned (some (vz (32 * m_rowMany))) ∧ fx o o [280] G G2 ∧ G2.length = G.length ∧ ab_slots G2 = ab_slots G ∧ cc o G2 80 280 (ab_ob 12 (mof m_thrown m_taped m_length m_out m_wide m_gathered m_sets m_ranges m_nodes m_at m_flags m_fault m_place m_numbered m_depth m_value m_isNot m_least0 m_most0 m_slot m_work m_got (m_rowMany + 1) m_charAt m_charWide m_trail m_isMatch m_matchGroups m_allFrom m_allBefore m_founds m_pieces m_writtenMany m_templateWide m_tooMuch))) := ⟨_, rfl⟩
  rw [← hQ]
  change ab_W X (ab_pl y_MO_row b_MO_row 1 (some (.int))) d G 0 [some (vR 80)] [] Q
  have hfr : fx o o [280] G G := fx.rf
  have hlen : G.length = G.length := rfl
  have hsl : ab_slots G = ab_slots G := rfl
  refine ab_aload_n d_MO_row_0 rfl ?_
  refine ab_dup d_MO_row_1 rfl ?_
  refine ab_getf (fs := mof m_thrown m_taped m_length m_out m_wide m_gathered m_sets m_ranges m_nodes m_at m_flags m_fault m_place m_numbered m_depth m_value m_isNot m_least0 m_most0 m_slot m_work m_got m_rowMany m_charAt m_charWide m_trail m_isMatch m_matchGroups m_allFrom m_allBefore m_founds m_pieces m_writtenMany m_templateWide m_tooMuch) f_MO_451 d_MO_row_2 h80.2.2 rfl ?_
  refine zz_iconst d_MO_row_5 ?_
  refine zz_iadd d_MO_row_6 ?_
  refine ab_putf (fs := mof m_thrown m_taped m_length m_out m_wide m_gathered m_sets m_ranges m_nodes m_at m_flags m_fault m_place m_numbered m_depth m_value m_isNot m_least0 m_most0 m_slot m_work m_got m_rowMany m_charAt m_charWide m_trail m_isMatch m_matchGroups m_allFrom m_allBefore m_founds m_pieces m_writtenMany m_templateWide m_tooMuch) f_MO_451 (Or.inl rfl) d_MO_row_7 h80.2.2 (Nat.le_of_ble_eq_true rfl) (fun _ => ⟨rfl, rfl⟩) (h80.2.1 (by decide)) ?_
  obtain ⟨G1, eG1⟩ : ∃ z : ab_G, z = List.set G 80 (ab_ob 12 (mof m_thrown m_taped m_length m_out m_wide m_gathered m_sets m_ranges m_nodes m_at m_flags m_fault m_place m_numbered m_depth m_value m_isNot m_least0 m_most0 m_slot m_work m_got (m_rowMany + 1) m_charAt m_charWide m_trail m_isMatch m_matchGroups m_allFrom m_allBefore m_founds m_pieces m_writtenMany m_templateWide m_tooMuch)) := ⟨_, rfl⟩
  have hlen := (z_len eG1).trans hlen
  have hsl := (z_sl h80 eG1 rfl).trans hsl
  have hfr := hfr.wr h80 eG1 (by decide)
  have h80 := h80.kept eG1
  change ab_W _ _ _ (List.set G 80 (ab_ob 12 (mof m_thrown m_taped m_length m_out m_wide m_gathered m_sets m_ranges m_nodes m_at m_flags m_fault m_place m_numbered m_depth m_value m_isNot m_least0 m_most0 m_slot m_work m_got (m_rowMany + 1) m_charAt m_charWide m_trail m_isMatch m_matchGroups m_allFrom m_allBefore m_founds m_pieces m_writtenMany m_templateWide m_tooMuch))) 10 [some (vR 80)] [] _
  rw [← eG1]
  refine zz_bipush d_MO_row_10 (by decide) ?_
  refine ab_aload_n d_MO_row_12 rfl ?_
  refine ab_getf (fs := mof m_thrown m_taped m_length m_out m_wide m_gathered m_sets m_ranges m_nodes m_at m_flags m_fault m_place m_numbered m_depth m_value m_isNot m_least0 m_most0 m_slot m_work m_got (m_rowMany + 1) m_charAt m_charWide m_trail m_isMatch m_matchGroups m_allFrom m_allBefore m_founds m_pieces m_writtenMany m_templateWide m_tooMuch) f_MO_451 d_MO_row_13 h80.2.2 rfl ?_
  refine zz_iconst d_MO_row_16 ?_
  refine zz_isub d_MO_row_17 ?_
  refine zz_imul d_MO_row_18 ?_
  refine zz_top (y := (32 * m_rowMany)) (by omega) ?_
  change ab_W _ _ _ G1 19 [some (vR 80)] [vz (32 * m_rowMany)] _
  refine zz_iret rfl d_MO_row_19 ?_
  rw [hQ]; exact ⟨rfl, hfr, hlen, hsl, h80⟩
set_option maxRecDepth 100000 in
set_option maxHeartbeats 4000000 in
theorem z_MO_done {X : ab_X} {d : Nat} {o : Nat → Nat} {G : ab_G} {m_thrown : Int} {m_taped : Int} {m_length : Int} {m_out : Int} {m_wide : Int} {m_gathered : Int} {m_sets : Int} {m_ranges : Int} {m_nodes : Int} {m_at : Int} {m_flags : Int} {m_fault : Int} {m_place : Int} {m_numbered : Int} {m_depth : Int} {m_value : Int} {m_isNot : Int} {m_least0 : Int} {m_most0 : Int} {m_slot : Int} {m_work : Int} {m_got : Int} {m_rowMany : Int} {m_charAt : Int} {m_charWide : Int} {m_trail : Int} {m_isMatch : Int} {m_matchGroups : Int} {m_allFrom : Int} {m_allBefore : Int} {m_founds : Int} {m_pieces : Int} {m_writtenMany : Int} {m_templateWide : Int} {m_tooMuch : Int} {x : Int} (h80 : cc o G 80 280 (ab_ob 12 (mof m_thrown m_taped m_length m_out m_wide m_gathered m_sets m_ranges m_nodes m_at m_flags m_fault m_place m_numbered m_depth m_value m_isNot m_least0 m_most0 m_slot m_work m_got m_rowMany m_charAt m_charWide m_trail m_isMatch m_matchGroups m_allFrom m_allBefore m_founds m_pieces m_writtenMany m_templateWide m_tooMuch))) (n18 : ab_n0 = 18) : ab_F X d y_MO_done (.code y_MO_done b_MO_done 2 none) [vR 80, vz x] G (fun oc G2 => oc = .returned none ∧ fx o o [280] G G2 ∧ G2.length = G.length ∧ ab_slots G2 = ab_slots G ∧ cc o G2 80 280 (ab_ob 12 (mof m_thrown m_taped m_length m_out m_wide m_gathered m_sets m_ranges m_nodes m_at m_flags m_fault m_place m_numbered m_depth m_value m_isNot m_least0 m_most0 m_slot (m_work - 1) x m_rowMany m_charAt m_charWide m_trail m_isMatch m_matchGroups m_allFrom m_allBefore m_founds m_pieces m_writtenMany m_templateWide m_tooMuch))) := by
  refine ab_F_of (by decide +kernel) (Nat.le_of_ble_eq_true rfl) ?_
  obtain ⟨Q, hQ⟩ : ∃ z : Outcome → ab_G → Prop, z = (fun oc G2 => oc = .returned none ∧ fx o o [280] G G2 ∧ G2.length = G.length ∧ ab_slots G2 = ab_slots G ∧ cc o G2 80 280 (ab_ob 12 (mof m_thrown m_taped m_length m_out m_wide m_gathered m_sets m_ranges m_nodes m_at m_flags m_fault m_place m_numbered m_depth m_value m_isNot m_least0 m_most0 m_slot (m_work - 1) x m_rowMany m_charAt m_charWide m_trail m_isMatch m_matchGroups m_allFrom m_allBefore m_founds m_pieces m_writtenMany m_templateWide m_tooMuch))) := ⟨_, rfl⟩
  rw [← hQ]
  change ab_W X (ab_pl y_MO_done b_MO_done 2 none) d G 0 [some (vR 80), some (vz x)] [] Q
  have hfr : fx o o [280] G G := fx.rf
  have hlen : G.length = G.length := rfl
  have hsl : ab_slots G = ab_slots G := rfl
  refine ab_aload_n d_MO_done_0 rfl ?_
  refine ab_dup d_MO_done_1 rfl ?_
  refine ab_getf (fs := mof m_thrown m_taped m_length m_out m_wide m_gathered m_sets m_ranges m_nodes m_at m_flags m_fault m_place m_numbered m_depth m_value m_isNot m_least0 m_most0 m_slot m_work m_got m_rowMany m_charAt m_charWide m_trail m_isMatch m_matchGroups m_allFrom m_allBefore m_founds m_pieces m_writtenMany m_templateWide m_tooMuch) f_MO_445 d_MO_done_2 h80.2.2 rfl ?_
  refine zz_iconst d_MO_done_5 ?_
  refine zz_isub d_MO_done_6 ?_
  refine ab_putf (fs := mof m_thrown m_taped m_length m_out m_wide m_gathered m_sets m_ranges m_nodes m_at m_flags m_fault m_place m_numbered m_depth m_value m_isNot m_least0 m_most0 m_slot m_work m_got m_rowMany m_charAt m_charWide m_trail m_isMatch m_matchGroups m_allFrom m_allBefore m_founds m_pieces m_writtenMany m_templateWide m_tooMuch) f_MO_445 (Or.inl rfl) d_MO_done_7 h80.2.2 (Nat.le_of_ble_eq_true rfl) (fun _ => ⟨rfl, rfl⟩) (h80.2.1 (by decide)) ?_
  obtain ⟨G1, eG1⟩ : ∃ z : ab_G, z = List.set G 80 (ab_ob 12 (mof m_thrown m_taped m_length m_out m_wide m_gathered m_sets m_ranges m_nodes m_at m_flags m_fault m_place m_numbered m_depth m_value m_isNot m_least0 m_most0 m_slot (m_work - 1) m_got m_rowMany m_charAt m_charWide m_trail m_isMatch m_matchGroups m_allFrom m_allBefore m_founds m_pieces m_writtenMany m_templateWide m_tooMuch)) := ⟨_, rfl⟩
  have hlen := (z_len eG1).trans hlen
  have hsl := (z_sl h80 eG1 rfl).trans hsl
  have hfr := hfr.wr h80 eG1 (by decide)
  have h80 := h80.kept eG1
  change ab_W _ _ _ (List.set G 80 (ab_ob 12 (mof m_thrown m_taped m_length m_out m_wide m_gathered m_sets m_ranges m_nodes m_at m_flags m_fault m_place m_numbered m_depth m_value m_isNot m_least0 m_most0 m_slot (m_work - 1) m_got m_rowMany m_charAt m_charWide m_trail m_isMatch m_matchGroups m_allFrom m_allBefore m_founds m_pieces m_writtenMany m_templateWide m_tooMuch))) 10 [some (vR 80), some (vz x)] [] _
  rw [← eG1]
  refine ab_aload_n d_MO_done_10 rfl ?_
  refine ab_iload_n d_MO_done_11 rfl ?_
  refine ab_putf (fs := mof m_thrown m_taped m_length m_out m_wide m_gathered m_sets m_ranges m_nodes m_at m_flags m_fault m_place m_numbered m_depth m_value m_isNot m_least0 m_most0 m_slot (m_work - 1) m_got m_rowMany m_charAt m_charWide m_trail m_isMatch m_matchGroups m_allFrom m_allBefore m_founds m_pieces m_writtenMany m_templateWide m_tooMuch) f_MO_448 (Or.inl rfl) d_MO_done_12 h80.2.2 (Nat.le_of_ble_eq_true rfl) (fun _ => ⟨rfl, rfl⟩) (h80.2.1 (by decide)) ?_
  obtain ⟨G2, eG2⟩ : ∃ z : ab_G, z = List.set G1 80 (ab_ob 12 (mof m_thrown m_taped m_length m_out m_wide m_gathered m_sets m_ranges m_nodes m_at m_flags m_fault m_place m_numbered m_depth m_value m_isNot m_least0 m_most0 m_slot (m_work - 1) x m_rowMany m_charAt m_charWide m_trail m_isMatch m_matchGroups m_allFrom m_allBefore m_founds m_pieces m_writtenMany m_templateWide m_tooMuch)) := ⟨_, rfl⟩
  have hlen := (z_len eG2).trans hlen
  have hsl := (z_sl h80 eG2 rfl).trans hsl
  have hfr := hfr.wr h80 eG2 (by decide)
  have h80 := h80.kept eG2
  change ab_W _ _ _ (List.set G1 80 (ab_ob 12 (mof m_thrown m_taped m_length m_out m_wide m_gathered m_sets m_ranges m_nodes m_at m_flags m_fault m_place m_numbered m_depth m_value m_isNot m_least0 m_most0 m_slot (m_work - 1) x m_rowMany m_charAt m_charWide m_trail m_isMatch m_matchGroups m_allFrom m_allBefore m_founds m_pieces m_writtenMany m_templateWide m_tooMuch))) 15 [some (vR 80), some (vz x)] [] _
  rw [← eG2]
  refine ab_vret rfl d_MO_done_15 ?_
  rw [hQ]; exact ⟨rfl, hfr, hlen, hsl, h80⟩
set_option maxRecDepth 100000 in
set_option maxHeartbeats 4000000 in
theorem z_MO_open {X : ab_X} {d : Nat} {o : Nat → Nat} {G : ab_G} {m_thrown : Int} {m_taped : Int} {m_length : Int} {m_out : Int} {m_wide : Int} {m_gathered : Int} {m_sets : Int} {m_ranges : Int} {m_nodes : Int} {m_at : Int} {m_flags : Int} {m_fault : Int} {m_place : Int} {m_numbered : Int} {m_depth : Int} {m_value : Int} {m_isNot : Int} {m_least0 : Int} {m_most0 : Int} {m_slot : Int} {m_work : Int} {m_got : Int} {m_rowMany : Int} {m_charAt : Int} {m_charWide : Int} {m_trail : Int} {m_isMatch : Int} {m_matchGroups : Int} {m_allFrom : Int} {m_allBefore : Int} {m_founds : Int} {m_pieces : Int} {m_writtenMany : Int} {m_templateWide : Int} {m_tooMuch : Int} {WP : Int → Int} {WD : Int → Int} {WT : Int → Int} {WG : Int → Int} {WS : Int → Int} {to : Int} {x : Int} {y : Int} (h80 : cc o G 80 280 (ab_ob 12 (mof m_thrown m_taped m_length m_out m_wide m_gathered m_sets m_ranges m_nodes m_at m_flags m_fault m_place m_numbered m_depth m_value m_isNot m_least0 m_most0 m_slot m_work m_got m_rowMany m_charAt m_charWide m_trail m_isMatch m_matchGroups m_allFrom m_allBefore m_founds m_pieces m_writtenMany m_templateWide m_tooMuch))) (h128 : cc o G 128 328 (za 300 WP)) (h129 : cc o G 129 329 (za 300 WD)) (h130 : cc o G 130 330 (za 300 WT)) (h131 : cc o G 131 331 (za 300 WG)) (h132 : cc o G 132 332 (za 300 WS)) (n18 : ab_n0 = 18) (cw : 0 ≤ m_work ∧ m_work < 300) : ab_F X d y_MO_open (.code y_MO_open b_MO_open 4 none) [vR 80, vz x, vz y, vz to] G (fun oc G2 => oc = .returned none ∧ fx o o [280, 328, 329, 330, 331, 332] G G2 ∧ G2.length = G.length ∧ ab_slots G2 = ab_slots G ∧ cc o G2 80 280 (ab_ob 12 (mof m_thrown m_taped m_length m_out m_wide m_gathered m_sets m_ranges m_nodes m_at m_flags m_fault m_place m_numbered m_depth m_value m_isNot m_least0 m_most0 m_slot (m_work + 1) m_got m_rowMany m_charAt m_charWide m_trail m_isMatch m_matchGroups m_allFrom m_allBefore m_founds m_pieces m_writtenMany m_templateWide m_tooMuch)) ∧ cc o G2 128 328 (za 300 (zu WP m_work x)) ∧ cc o G2 129 329 (za 300 (zu WD m_work y)) ∧ cc o G2 130 330 (za 300 (zu WT m_work to)) ∧ cc o G2 131 331 (za 300 (zu WG m_work to)) ∧ cc o G2 132 332 (za 300 (zu WS m_work 0))) := by
  refine ab_F_of (by decide +kernel) (Nat.le_of_ble_eq_true rfl) ?_
  obtain ⟨Q, hQ⟩ : ∃ z : Outcome → ab_G → Prop, z = (fun oc G2 => oc = .returned none ∧ fx o o [280, 328, 329, 330, 331, 332] G G2 ∧ G2.length = G.length ∧ ab_slots G2 = ab_slots G ∧ cc o G2 80 280 (ab_ob 12 (mof m_thrown m_taped m_length m_out m_wide m_gathered m_sets m_ranges m_nodes m_at m_flags m_fault m_place m_numbered m_depth m_value m_isNot m_least0 m_most0 m_slot (m_work + 1) m_got m_rowMany m_charAt m_charWide m_trail m_isMatch m_matchGroups m_allFrom m_allBefore m_founds m_pieces m_writtenMany m_templateWide m_tooMuch)) ∧ cc o G2 128 328 (za 300 (zu WP m_work x)) ∧ cc o G2 129 329 (za 300 (zu WD m_work y)) ∧ cc o G2 130 330 (za 300 (zu WT m_work to)) ∧ cc o G2 131 331 (za 300 (zu WG m_work to)) ∧ cc o G2 132 332 (za 300 (zu WS m_work 0))) := ⟨_, rfl⟩
  rw [← hQ]
  change ab_W X (ab_pl y_MO_open b_MO_open 4 none) d G 0 [some (vR 80), some (vz x), some (vz y), some (vz to)] [] Q
  have hfr : fx o o [280, 328, 329, 330, 331, 332] G G := fx.rf
  have hlen : G.length = G.length := rfl
  have hsl : ab_slots G = ab_slots G := rfl
  refine ab_aload_n d_MO_open_0 rfl ?_
  refine ab_getf (fs := mof m_thrown m_taped m_length m_out m_wide m_gathered m_sets m_ranges m_nodes m_at m_flags m_fault m_place m_numbered m_depth m_value m_isNot m_least0 m_most0 m_slot m_work m_got m_rowMany m_charAt m_charWide m_trail m_isMatch m_matchGroups m_allFrom m_allBefore m_founds m_pieces m_writtenMany m_templateWide m_tooMuch) f_MO_158 d_MO_open_1 h80.2.2 rfl ?_
  refine ab_aload_n d_MO_open_4 rfl ?_
  refine ab_getf (fs := mof m_thrown m_taped m_length m_out m_wide m_gathered m_sets m_ranges m_nodes m_at m_flags m_fault m_place m_numbered m_depth m_value m_isNot m_least0 m_most0 m_slot m_work m_got m_rowMany m_charAt m_charWide m_trail m_isMatch m_matchGroups m_allFrom m_allBefore m_founds m_pieces m_writtenMany m_templateWide m_tooMuch) f_MO_445 d_MO_open_5 h80.2.2 rfl ?_
  refine ab_iload_n d_MO_open_8 rfl ?_
  refine zz_iast d_MO_open_9 h128 (by omega) (h128.2.1 (by decide)) ?_
  obtain ⟨G1, eG1⟩ : ∃ z : ab_G, z = List.set G 128 (za 300 (zu WP m_work x)) := ⟨_, rfl⟩
  have h80 := h80.keep h128 eG1 (by decide)
  have h129 := h129.keep h128 eG1 (by decide)
  have h130 := h130.keep h128 eG1 (by decide)
  have h131 := h131.keep h128 eG1 (by decide)
  have h132 := h132.keep h128 eG1 (by decide)
  have hlen := (z_len eG1).trans hlen
  have hsl := (z_sl h128 eG1 rfl).trans hsl
  have hfr := hfr.wr h128 eG1 (by decide)
  have h128 := h128.kept eG1
  change ab_W _ _ _ (List.set G 128 (za 300 (zu WP m_work x))) 10 [some (vR 80), some (vz x), some (vz y), some (vz to)] [] _
  rw [← eG1]
  refine ab_aload_n d_MO_open_10 rfl ?_
  refine ab_getf (fs := mof m_thrown m_taped m_length m_out m_wide m_gathered m_sets m_ranges m_nodes m_at m_flags m_fault m_place m_numbered m_depth m_value m_isNot m_least0 m_most0 m_slot m_work m_got m_rowMany m_charAt m_charWide m_trail m_isMatch m_matchGroups m_allFrom m_allBefore m_founds m_pieces m_writtenMany m_templateWide m_tooMuch) f_MO_161 d_MO_open_11 h80.2.2 rfl ?_
  refine ab_aload_n d_MO_open_14 rfl ?_
  refine ab_getf (fs := mof m_thrown m_taped m_length m_out m_wide m_gathered m_sets m_ranges m_nodes m_at m_flags m_fault m_place m_numbered m_depth m_value m_isNot m_least0 m_most0 m_slot m_work m_got m_rowMany m_charAt m_charWide m_trail m_isMatch m_matchGroups m_allFrom m_allBefore m_founds m_pieces m_writtenMany m_templateWide m_tooMuch) f_MO_445 d_MO_open_15 h80.2.2 rfl ?_
  refine ab_iload_n d_MO_open_18 rfl ?_
  refine zz_iast d_MO_open_19 h129 (by omega) (h129.2.1 (by decide)) ?_
  obtain ⟨G2, eG2⟩ : ∃ z : ab_G, z = List.set G1 129 (za 300 (zu WD m_work y)) := ⟨_, rfl⟩
  have h80 := h80.keep h129 eG2 (by decide)
  have h128 := h128.keep h129 eG2 (by decide)
  have h130 := h130.keep h129 eG2 (by decide)
  have h131 := h131.keep h129 eG2 (by decide)
  have h132 := h132.keep h129 eG2 (by decide)
  have hlen := (z_len eG2).trans hlen
  have hsl := (z_sl h129 eG2 rfl).trans hsl
  have hfr := hfr.wr h129 eG2 (by decide)
  have h129 := h129.kept eG2
  change ab_W _ _ _ (List.set G1 129 (za 300 (zu WD m_work y))) 20 [some (vR 80), some (vz x), some (vz y), some (vz to)] [] _
  rw [← eG2]
  refine ab_aload_n d_MO_open_20 rfl ?_
  refine ab_getf (fs := mof m_thrown m_taped m_length m_out m_wide m_gathered m_sets m_ranges m_nodes m_at m_flags m_fault m_place m_numbered m_depth m_value m_isNot m_least0 m_most0 m_slot m_work m_got m_rowMany m_charAt m_charWide m_trail m_isMatch m_matchGroups m_allFrom m_allBefore m_founds m_pieces m_writtenMany m_templateWide m_tooMuch) f_MO_164 d_MO_open_21 h80.2.2 rfl ?_
  refine ab_aload_n d_MO_open_24 rfl ?_
  refine ab_getf (fs := mof m_thrown m_taped m_length m_out m_wide m_gathered m_sets m_ranges m_nodes m_at m_flags m_fault m_place m_numbered m_depth m_value m_isNot m_least0 m_most0 m_slot m_work m_got m_rowMany m_charAt m_charWide m_trail m_isMatch m_matchGroups m_allFrom m_allBefore m_founds m_pieces m_writtenMany m_templateWide m_tooMuch) f_MO_445 d_MO_open_25 h80.2.2 rfl ?_
  refine ab_iload_n d_MO_open_28 rfl ?_
  refine zz_iast d_MO_open_29 h130 (by omega) (h130.2.1 (by decide)) ?_
  obtain ⟨G3, eG3⟩ : ∃ z : ab_G, z = List.set G2 130 (za 300 (zu WT m_work to)) := ⟨_, rfl⟩
  have h80 := h80.keep h130 eG3 (by decide)
  have h128 := h128.keep h130 eG3 (by decide)
  have h129 := h129.keep h130 eG3 (by decide)
  have h131 := h131.keep h130 eG3 (by decide)
  have h132 := h132.keep h130 eG3 (by decide)
  have hlen := (z_len eG3).trans hlen
  have hsl := (z_sl h130 eG3 rfl).trans hsl
  have hfr := hfr.wr h130 eG3 (by decide)
  have h130 := h130.kept eG3
  change ab_W _ _ _ (List.set G2 130 (za 300 (zu WT m_work to))) 30 [some (vR 80), some (vz x), some (vz y), some (vz to)] [] _
  rw [← eG3]
  refine ab_aload_n d_MO_open_30 rfl ?_
  refine ab_getf (fs := mof m_thrown m_taped m_length m_out m_wide m_gathered m_sets m_ranges m_nodes m_at m_flags m_fault m_place m_numbered m_depth m_value m_isNot m_least0 m_most0 m_slot m_work m_got m_rowMany m_charAt m_charWide m_trail m_isMatch m_matchGroups m_allFrom m_allBefore m_founds m_pieces m_writtenMany m_templateWide m_tooMuch) f_MO_167 d_MO_open_31 h80.2.2 rfl ?_
  refine ab_aload_n d_MO_open_34 rfl ?_
  refine ab_getf (fs := mof m_thrown m_taped m_length m_out m_wide m_gathered m_sets m_ranges m_nodes m_at m_flags m_fault m_place m_numbered m_depth m_value m_isNot m_least0 m_most0 m_slot m_work m_got m_rowMany m_charAt m_charWide m_trail m_isMatch m_matchGroups m_allFrom m_allBefore m_founds m_pieces m_writtenMany m_templateWide m_tooMuch) f_MO_445 d_MO_open_35 h80.2.2 rfl ?_
  refine ab_iload_n d_MO_open_38 rfl ?_
  refine zz_iast d_MO_open_39 h131 (by omega) (h131.2.1 (by decide)) ?_
  obtain ⟨G4, eG4⟩ : ∃ z : ab_G, z = List.set G3 131 (za 300 (zu WG m_work to)) := ⟨_, rfl⟩
  have h80 := h80.keep h131 eG4 (by decide)
  have h128 := h128.keep h131 eG4 (by decide)
  have h129 := h129.keep h131 eG4 (by decide)
  have h130 := h130.keep h131 eG4 (by decide)
  have h132 := h132.keep h131 eG4 (by decide)
  have hlen := (z_len eG4).trans hlen
  have hsl := (z_sl h131 eG4 rfl).trans hsl
  have hfr := hfr.wr h131 eG4 (by decide)
  have h131 := h131.kept eG4
  change ab_W _ _ _ (List.set G3 131 (za 300 (zu WG m_work to))) 40 [some (vR 80), some (vz x), some (vz y), some (vz to)] [] _
  rw [← eG4]
  refine ab_aload_n d_MO_open_40 rfl ?_
  refine ab_getf (fs := mof m_thrown m_taped m_length m_out m_wide m_gathered m_sets m_ranges m_nodes m_at m_flags m_fault m_place m_numbered m_depth m_value m_isNot m_least0 m_most0 m_slot m_work m_got m_rowMany m_charAt m_charWide m_trail m_isMatch m_matchGroups m_allFrom m_allBefore m_founds m_pieces m_writtenMany m_templateWide m_tooMuch) f_MO_170 d_MO_open_41 h80.2.2 rfl ?_
  refine ab_aload_n d_MO_open_44 rfl ?_
  refine ab_getf (fs := mof m_thrown m_taped m_length m_out m_wide m_gathered m_sets m_ranges m_nodes m_at m_flags m_fault m_place m_numbered m_depth m_value m_isNot m_least0 m_most0 m_slot m_work m_got m_rowMany m_charAt m_charWide m_trail m_isMatch m_matchGroups m_allFrom m_allBefore m_founds m_pieces m_writtenMany m_templateWide m_tooMuch) f_MO_445 d_MO_open_45 h80.2.2 rfl ?_
  refine zz_iconst d_MO_open_48 ?_
  refine zz_iast d_MO_open_49 h132 (by omega) (h132.2.1 (by decide)) ?_
  obtain ⟨G5, eG5⟩ : ∃ z : ab_G, z = List.set G4 132 (za 300 (zu WS m_work 0)) := ⟨_, rfl⟩
  have h80 := h80.keep h132 eG5 (by decide)
  have h128 := h128.keep h132 eG5 (by decide)
  have h129 := h129.keep h132 eG5 (by decide)
  have h130 := h130.keep h132 eG5 (by decide)
  have h131 := h131.keep h132 eG5 (by decide)
  have hlen := (z_len eG5).trans hlen
  have hsl := (z_sl h132 eG5 rfl).trans hsl
  have hfr := hfr.wr h132 eG5 (by decide)
  have h132 := h132.kept eG5
  change ab_W _ _ _ (List.set G4 132 (za 300 (zu WS m_work 0))) 50 [some (vR 80), some (vz x), some (vz y), some (vz to)] [] _
  rw [← eG5]
  refine ab_aload_n d_MO_open_50 rfl ?_
  refine ab_dup d_MO_open_51 rfl ?_
  refine ab_getf (fs := mof m_thrown m_taped m_length m_out m_wide m_gathered m_sets m_ranges m_nodes m_at m_flags m_fault m_place m_numbered m_depth m_value m_isNot m_least0 m_most0 m_slot m_work m_got m_rowMany m_charAt m_charWide m_trail m_isMatch m_matchGroups m_allFrom m_allBefore m_founds m_pieces m_writtenMany m_templateWide m_tooMuch) f_MO_445 d_MO_open_52 h80.2.2 rfl ?_
  refine zz_iconst d_MO_open_55 ?_
  refine zz_iadd d_MO_open_56 ?_
  refine ab_putf (fs := mof m_thrown m_taped m_length m_out m_wide m_gathered m_sets m_ranges m_nodes m_at m_flags m_fault m_place m_numbered m_depth m_value m_isNot m_least0 m_most0 m_slot m_work m_got m_rowMany m_charAt m_charWide m_trail m_isMatch m_matchGroups m_allFrom m_allBefore m_founds m_pieces m_writtenMany m_templateWide m_tooMuch) f_MO_445 (Or.inl rfl) d_MO_open_57 h80.2.2 (Nat.le_of_ble_eq_true rfl) (fun _ => ⟨rfl, rfl⟩) (h80.2.1 (by decide)) ?_
  obtain ⟨G6, eG6⟩ : ∃ z : ab_G, z = List.set G5 80 (ab_ob 12 (mof m_thrown m_taped m_length m_out m_wide m_gathered m_sets m_ranges m_nodes m_at m_flags m_fault m_place m_numbered m_depth m_value m_isNot m_least0 m_most0 m_slot (m_work + 1) m_got m_rowMany m_charAt m_charWide m_trail m_isMatch m_matchGroups m_allFrom m_allBefore m_founds m_pieces m_writtenMany m_templateWide m_tooMuch)) := ⟨_, rfl⟩
  have h128 := h128.keep h80 eG6 (by decide)
  have h129 := h129.keep h80 eG6 (by decide)
  have h130 := h130.keep h80 eG6 (by decide)
  have h131 := h131.keep h80 eG6 (by decide)
  have h132 := h132.keep h80 eG6 (by decide)
  have hlen := (z_len eG6).trans hlen
  have hsl := (z_sl h80 eG6 rfl).trans hsl
  have hfr := hfr.wr h80 eG6 (by decide)
  have h80 := h80.kept eG6
  change ab_W _ _ _ (List.set G5 80 (ab_ob 12 (mof m_thrown m_taped m_length m_out m_wide m_gathered m_sets m_ranges m_nodes m_at m_flags m_fault m_place m_numbered m_depth m_value m_isNot m_least0 m_most0 m_slot (m_work + 1) m_got m_rowMany m_charAt m_charWide m_trail m_isMatch m_matchGroups m_allFrom m_allBefore m_founds m_pieces m_writtenMany m_templateWide m_tooMuch))) 60 [some (vR 80), some (vz x), some (vz y), some (vz to)] [] _
  rw [← eG6]
  refine ab_vret rfl d_MO_open_60 ?_
  rw [hQ]; exact ⟨rfl, hfr, hlen, hsl, h80, h128, h129, h130, h131, h132⟩
set_option maxRecDepth 100000 in
set_option maxHeartbeats 4000000 in
theorem y_MO_same_8 {X : ab_X} {d : Nat} {Q : Outcome → ab_G → Prop} {o : Nat → Nat} {G0 : ab_G} {m_thrown : Int} {m_taped : Int} {m_length : Int} {m_out : Int} {m_wide : Int} {m_gathered : Int} {m_sets : Int} {m_ranges : Int} {m_nodes : Int} {m_at : Int} {m_flags : Int} {m_fault : Int} {m_place : Int} {m_numbered : Int} {m_depth : Int} {m_value : Int} {m_isNot : Int} {m_least0 : Int} {m_most0 : Int} {m_slot : Int} {m_work : Int} {m_got : Int} {m_rowMany : Int} {m_charAt : Int} {m_charWide : Int} {m_trail : Int} {m_isMatch : Int} {m_matchGroups : Int} {m_allFrom : Int} {m_allBefore : Int} {m_founds : Int} {m_pieces : Int} {m_writtenMany : Int} {m_templateWide : Int} {m_tooMuch : Int} {RO0 : Int → Int} {dp : Int} {r : Int} {x : Int} {nn : Int} (n18 : ab_n0 = 18) (ch : 0 ≤ dp ∧ dp ≤ 31 ∧ 0 ≤ r ∧ r + 32 ≤ 40000 ∧ 0 ≤ x ∧ x < nn ∧ nn ≤ 12500) (hd : 1 ≤ d) : ∀ (mz : Nat) {G : ab_G} {i_ : Int} {RO : Int → Int}, (cc o G 80 280 (ab_ob 12 (mof m_thrown m_taped m_length m_out m_wide m_gathered m_sets m_ranges m_nodes m_at m_flags m_fault m_place m_numbered m_depth m_value m_isNot m_least0 m_most0 m_slot m_work m_got m_rowMany m_charAt m_charWide m_trail m_isMatch m_matchGroups m_allFrom m_allBefore m_founds m_pieces m_writtenMany m_templateWide m_tooMuch))) → (cc o G 133 333 (za 40000 RO)) → (0 ≤ i_ ∧ i_ ≤ dp + 1) → (rgs RO 40000 0 12499) → (rokk RO r i_ nn) → (rsm RO0 RO r) → (rAl RO r i_ x) → (fx o o [333] G0 G) → (G.length = G0.length) → (ab_slots G = ab_slots G0) → (Int.toNat (dp + 1 - i_) < mz) → (∀ (G2 : ab_G) (RO2 : Int → Int), (cc o G2 133 333 (za 40000 RO2)) → (rgs RO2 40000 0 12499) → (rokk RO2 r (dp + 1) nn) → (rsm RO0 RO2 r) → (rAl RO2 r (dp + 1) x) → (fx o o [333] G0 G2) → (G2.length = G0.length) → (ab_slots G2 = ab_slots G0) → ab_W X (ab_pl y_MO_same b_MO_same 5 (some (.int))) d G2 30 [some (vR 80), none, none, some (vz r), none] [] Q) → ab_W X (ab_pl y_MO_same b_MO_same 5 (some (.int))) d G 8 [some (vR 80), some (vz x), some (vz dp), some (vz r), some (vz i_)] [] Q := by
  intro mz
  induction mz with
  | zero => intro G i_ RO h80 h133 ci gro jr js ja hfr hlen hsl hm hk0; exact absurd hm (Nat.not_lt_zero _)
  | succ mz ih =>
    intro G i_ RO h80 h133 ci gro jr js ja hfr hlen hsl hm hk0
    refine ab_iload d_MO_same_8 rfl ?_
    refine ab_iload_n d_MO_same_10 rfl ?_
    refine zz_icmp_gt (tgt := 30) d_MO_same_11 (by decide) (by omega) (by omega) (fun c1 => ?_) (fun c1 => ?_)
    · refine ab_less (L' := [some (vR 80), none, none, some (vz r), none]) (fun i v h => by rcases i with _ | _ | _ | _ | _ | i <;> first | exact h | (simp at h)) ?_
      exact hk0 _ _ h133 (by first | exact gro | exact rgs_w gro (by omega)) (by exact (show i_ = dp + 1 by omega) ▸ jr) (by exact js) (by exact (show i_ = dp + 1 by omega) ▸ ja) hfr hlen hsl
    · refine ab_aload_n d_MO_same_14 rfl ?_
      refine ab_getf (fs := mof m_thrown m_taped m_length m_out m_wide m_gathered m_sets m_ranges m_nodes m_at m_flags m_fault m_place m_numbered m_depth m_value m_isNot m_least0 m_most0 m_slot m_work m_got m_rowMany m_charAt m_charWide m_trail m_isMatch m_matchGroups m_allFrom m_allBefore m_founds m_pieces m_writtenMany m_templateWide m_tooMuch) f_MO_174 d_MO_same_15 h80.2.2 rfl ?_
      refine ab_iload_n d_MO_same_18 rfl ?_
      refine ab_iload d_MO_same_19 rfl ?_
      refine zz_iadd d_MO_same_21 ?_
      refine ab_iload_n d_MO_same_22 rfl ?_
      refine zz_iast d_MO_same_23 h133 (by omega) (h133.2.1 (by decide)) ?_
      obtain ⟨G2, eG2⟩ : ∃ z : ab_G, z = List.set G 133 (za 40000 (zu RO (r + i_) x)) := ⟨_, rfl⟩
      have h80 := h80.keep h133 eG2 (by decide)
      have hlen := (z_len eG2).trans hlen
      have hsl := (z_sl h133 eG2 rfl).trans hsl
      have hfr := hfr.wr h133 eG2 (by decide)
      have h133 := h133.kept eG2
      change ab_W _ _ _ (List.set G 133 (za 40000 (zu RO (r + i_) x))) 24 [some (vR 80), some (vz x), some (vz dp), some (vz r), some (vz i_)] [] _
      rw [← eG2]
      refine zz_iinc d_MO_same_24 rfl (Nat.le_of_ble_eq_true rfl) (Nat.le_of_ble_eq_true rfl) rfl ?_
      change ab_W _ _ _ G2 27 [some (vR 80), some (vz x), some (vz dp), some (vz r), some (vz (i_ + 1))] [] _
      refine ab_goto (tgt := 8) d_MO_same_27 (by decide) ?_
      exact ih (i_ := (i_ + 1)) (RO := (zu RO (r + i_) x)) h80 h133 (by omega) (rgs_zu gro (by omega)) (rokk_s jr (by omega) (by omega)) (rsm_wr js (by omega)) (rAl_s ja (by omega) rfl) hfr hlen hsl (by omega) hk0
set_option maxRecDepth 100000 in
set_option maxHeartbeats 4000000 in
theorem z_MO_same {X : ab_X} {d : Nat} {o : Nat → Nat} {G : ab_G} {m_thrown : Int} {m_taped : Int} {m_length : Int} {m_out : Int} {m_wide : Int} {m_gathered : Int} {m_sets : Int} {m_ranges : Int} {m_nodes : Int} {m_at : Int} {m_flags : Int} {m_fault : Int} {m_place : Int} {m_numbered : Int} {m_depth : Int} {m_value : Int} {m_isNot : Int} {m_least0 : Int} {m_most0 : Int} {m_slot : Int} {m_work : Int} {m_got : Int} {m_rowMany : Int} {m_charAt : Int} {m_charWide : Int} {m_trail : Int} {m_isMatch : Int} {m_matchGroups : Int} {m_allFrom : Int} {m_allBefore : Int} {m_founds : Int} {m_pieces : Int} {m_writtenMany : Int} {m_templateWide : Int} {m_tooMuch : Int} {RO : Int → Int} {dp : Int} {x : Int} {nn : Int} (h80 : cc o G 80 280 (ab_ob 12 (mof m_thrown m_taped m_length m_out m_wide m_gathered m_sets m_ranges m_nodes m_at m_flags m_fault m_place m_numbered m_depth m_value m_isNot m_least0 m_most0 m_slot m_work m_got m_rowMany m_charAt m_charWide m_trail m_isMatch m_matchGroups m_allFrom m_allBefore m_founds m_pieces m_writtenMany m_templateWide m_tooMuch))) (h133 : cc o G 133 333 (za 40000 RO)) (n18 : ab_n0 = 18) (cr : 0 ≤ m_rowMany ∧ m_rowMany ≤ 1249) (gro : rgs RO 40000 0 12499) (ch : 0 ≤ dp ∧ dp ≤ 31 ∧ 0 ≤ x ∧ x < nn ∧ nn ≤ 12500) (hd : 2 ≤ d) : ab_F X d y_MO_same (.code y_MO_same b_MO_same 5 (some (.int))) [vR 80, vz x, vz dp] G (fun oc G2 => ∃ RO2 : Int → Int, oc = .returned (some (vz (32 * m_rowMany))) ∧ fx o o [280, 333] G G2 ∧ G2.length = G.length ∧ ab_slots G2 = ab_slots G ∧ cc o G2 80 280 (ab_ob 12 (mof m_thrown m_taped m_length m_out m_wide m_gathered m_sets m_ranges m_nodes m_at m_flags m_fault m_place m_numbered m_depth m_value m_isNot m_least0 m_most0 m_slot m_work m_got (m_rowMany + 1) m_charAt m_charWide m_trail m_isMatch m_matchGroups m_allFrom m_allBefore m_founds m_pieces m_writtenMany m_templateWide m_tooMuch)) ∧ cc o G2 133 333 (za 40000 RO2) ∧ (rgs RO2 40000 0 12499) ∧ (rokk RO2 (32 * m_rowMany) (dp + 1) nn) ∧ (rsm RO RO2 (32 * m_rowMany)) ∧ (rAl RO2 (32 * m_rowMany) (dp + 1) x)) := by
  refine ab_F_of (by decide +kernel) (Nat.le_of_ble_eq_true rfl) ?_
  obtain ⟨Q, hQ⟩ : ∃ z : Outcome → ab_G → Prop, z = (fun oc G2 => ∃ RO2 : Int → Int, oc = .returned (some (vz (32 * m_rowMany))) ∧ fx o o [280, 333] G G2 ∧ G2.length = G.length ∧ ab_slots G2 = ab_slots G ∧ cc o G2 80 280 (ab_ob 12 (mof m_thrown m_taped m_length m_out m_wide m_gathered m_sets m_ranges m_nodes m_at m_flags m_fault m_place m_numbered m_depth m_value m_isNot m_least0 m_most0 m_slot m_work m_got (m_rowMany + 1) m_charAt m_charWide m_trail m_isMatch m_matchGroups m_allFrom m_allBefore m_founds m_pieces m_writtenMany m_templateWide m_tooMuch)) ∧ cc o G2 133 333 (za 40000 RO2) ∧ (rgs RO2 40000 0 12499) ∧ (rokk RO2 (32 * m_rowMany) (dp + 1) nn) ∧ (rsm RO RO2 (32 * m_rowMany)) ∧ (rAl RO2 (32 * m_rowMany) (dp + 1) x)) := ⟨_, rfl⟩
  rw [← hQ]
  change ab_W X (ab_pl y_MO_same b_MO_same 5 (some (.int))) d G 0 [some (vR 80), some (vz x), some (vz dp), none, none] [] Q
  have hfr : fx o o [280, 333] G G := fx.rf
  have hlen : G.length = G.length := rfl
  have hsl : ab_slots G = ab_slots G := rfl
  refine ab_aload_n d_MO_same_0 rfl ?_
  refine ab_callV (d' := d - 1) (as := []) (st := []) (r := _) (z_MO_row (o := o) (m_thrown := m_thrown) (m_taped := m_taped) (m_length := m_length) (m_out := m_out) (m_wide := m_wide) (m_gathered := m_gathered) (m_sets := m_sets) (m_ranges := m_ranges) (m_nodes := m_nodes) (m_at := m_at) (m_flags := m_flags) (m_fault := m_fault) (m_place := m_place) (m_numbered := m_numbered) (m_depth := m_depth) (m_value := m_value) (m_isNot := m_isNot) (m_least0 := m_least0) (m_most0 := m_most0) (m_slot := m_slot) (m_work := m_work) (m_got := m_got) (m_rowMany := m_rowMany) (m_charAt := m_charAt) (m_charWide := m_charWide) (m_trail := m_trail) (m_isMatch := m_isMatch) (m_matchGroups := m_matchGroups) (m_allFrom := m_allFrom) (m_allBefore := m_allBefore) (m_founds := m_founds) (m_pieces := m_pieces) (m_writtenMany := m_writtenMany) (m_templateWide := m_templateWide) (m_tooMuch := m_tooMuch) h80 (by omega) (by omega)) (fun oc G2 h => by rcases h with ⟨h, _⟩ <;> exact ⟨_, h⟩) (by omega) m_MO_row ml_MO_454 im_MO_row se_MO_row c_MO h80.2.2 (Nat.le_of_ble_eq_true rfl) d_MO_same_1 rfl ?_
  intro v G1 hq
  rcases hq with ⟨hv, hfk, hlk, hsk, hN80⟩
  cases hv
  have h133 := hfk.get h133 (by decide)
  have hfr := hfr.tr hfk (by decide)
  have hlen := hlk.trans hlen
  have hsl := hsk.trans hsl
  have h80 := hN80
  change ab_W _ _ _ G1 4 [some (vR 80), some (vz x), some (vz dp), none, none] [vz (32 * m_rowMany)] _
  refine ab_istore_n d_MO_same_4 (Nat.le_of_ble_eq_true rfl) (Nat.le_of_ble_eq_true rfl) rfl ?_
  change ab_W _ _ _ G1 5 [some (vR 80), some (vz x), some (vz dp), some (vz (32 * m_rowMany)), none] [] _
  refine zz_iconst d_MO_same_5 ?_
  refine ab_istore d_MO_same_6 (Nat.le_of_ble_eq_true rfl) (Nat.le_of_ble_eq_true rfl) rfl ?_
  change ab_W _ _ _ G1 8 [some (vR 80), some (vz x), some (vz dp), some (vz (32 * m_rowMany)), some (vz 0)] [] _
  refine y_MO_same_8 (m_thrown := m_thrown) (m_taped := m_taped) (m_length := m_length) (m_out := m_out) (m_wide := m_wide) (m_gathered := m_gathered) (m_sets := m_sets) (m_ranges := m_ranges) (m_nodes := m_nodes) (m_at := m_at) (m_flags := m_flags) (m_fault := m_fault) (m_place := m_place) (m_numbered := m_numbered) (m_depth := m_depth) (m_value := m_value) (m_isNot := m_isNot) (m_least0 := m_least0) (m_most0 := m_most0) (m_slot := m_slot) (m_work := m_work) (m_got := m_got) (m_rowMany := (m_rowMany + 1)) (m_charAt := m_charAt) (m_charWide := m_charWide) (m_trail := m_trail) (m_isMatch := m_isMatch) (m_matchGroups := m_matchGroups) (m_allFrom := m_allFrom) (m_allBefore := m_allBefore) (m_founds := m_founds) (m_pieces := m_pieces) (m_writtenMany := m_writtenMany) (m_templateWide := m_templateWide) (m_tooMuch := m_tooMuch) (RO0 := RO) (dp := dp) (r := (32 * m_rowMany)) (x := x) (nn := nn) (G0 := G1) (i_ := 0) (RO := RO) (by omega) (by omega) (by omega) (Int.toNat (dp + 1 - 0) + 1) h80 h133 (by omega) gro rokk_0 rsm_rf rAl_0 fx.rf rfl rfl (by omega) (fun G2 RO23 hN133 hq4 hq5 hq6 hq7 hfk hlk hsk => ?_)
  · have h80 := hfk.get h80 (by decide)
    have hfr := hfr.tr hfk (by decide)
    have hlen := hlk.trans hlen
    have hsl := hsk.trans hsl
    have h133 := hN133
    change ab_W _ _ _ G2 30 [some (vR 80), none, none, some (vz (32 * m_rowMany)), none] [] _
    refine ab_iload_n d_MO_same_30 rfl ?_
    refine zz_iret rfl d_MO_same_31 ?_
    rw [hQ]; exact ⟨_, rfl, hfr, hlen, hsl, h80, h133, (by first | exact hq4 | exact rgs_w hq4 (by omega)), (by exact hq5), (by exact hq6), (by exact hq7)⟩
set_option maxRecDepth 100000 in
set_option maxHeartbeats 4000000 in
theorem y_MO_each_9 {X : ab_X} {d : Nat} {Q : Outcome → ab_G → Prop} {o : Nat → Nat} {G0 : ab_G} {m_thrown : Int} {m_taped : Int} {m_length : Int} {m_out : Int} {m_wide : Int} {m_gathered : Int} {m_sets : Int} {m_ranges : Int} {m_nodes : Int} {m_at : Int} {m_flags : Int} {m_fault : Int} {m_place : Int} {m_numbered : Int} {m_depth : Int} {m_value : Int} {m_isNot : Int} {m_least0 : Int} {m_most0 : Int} {m_slot : Int} {m_work : Int} {m_got : Int} {m_rowMany : Int} {m_charAt : Int} {m_charWide : Int} {m_trail : Int} {m_isMatch : Int} {m_matchGroups : Int} {m_allFrom : Int} {m_allBefore : Int} {m_founds : Int} {m_pieces : Int} {m_writtenMany : Int} {m_templateWide : Int} {m_tooMuch : Int} {CA : Int → Int} {CM : Int → Int} {CL : Int → Int} {CH : Int → Int} {T0 : Int → Int} {N0 : Int → Int} {W0 : Int → Int} {SN0 : Int → Int} {RO0 : Int → Int} {SM : Int → Int} {SA : Int → Int} {RL : Int → Int} {RH : Int → Int} {k : Int} {to : Int} {be : Int} {dp : Int} {r : Int} {n0 : Int} {ns : Int} {cl : Int} (n18 : ab_n0 = 18) (csl : 0 ≤ m_slot ∧ m_slot ≤ 5) (ch : 0 ≤ dp ∧ dp ≤ 31 ∧ 0 ≤ r ∧ r + 32 ≤ 40000 ∧ 0 ≤ n0 ∧ n0 + dp + 1 ≤ 12500 ∧ 0 ≤ to ∧ to + 32 ≤ r) (ckb : (k = 4 ∧ 0 ≤ be ∧ be < 20) ∨ (k = 5 ∧ 0 ≤ be ∧ be ≤ 5)) (jf_to : rokk RO0 to (dp + 1) n0) (hd : 2 ≤ d) : ∀ (mz : Nat) {G : ab_G} {i_ : Int} {RO : Int → Int} {T : Int → Int} {N : Int → Int} {W : Int → Int} {SN : Int → Int}, (cc o G 80 280 (ab_ob 12 (mof m_thrown m_taped m_length m_out m_wide m_gathered m_sets m_ranges m_nodes m_at m_flags m_fault m_place m_numbered m_depth m_value m_isNot m_least0 m_most0 m_slot m_work m_got m_rowMany m_charAt m_charWide m_trail m_isMatch m_matchGroups m_allFrom m_allBefore m_founds m_pieces m_writtenMany m_templateWide m_tooMuch))) → (cc o G 133 333 (za 40000 RO)) → (cc o G 118 318 (za 75000 T)) → (cc o G 119 319 (za 75000 N)) → (cc o G 120 320 (za 75000 W)) → (cc o G 117 317 (za 6 SN)) → (0 ≤ i_ ∧ i_ ≤ dp + 1 ∧ n0 ≤ (SN m_slot) ∧ (SN m_slot) ≤ n0 + i_) → (rgs RO 40000 0 12499) → (rgs T 75000 0 6) → (rgs N 75000 (-1) 12499) → (rgs W 75000 (-1) 12499) → (rgs SN 6 0 12500) → (rokk RO r i_ (SN m_slot)) → (rsm RO0 RO r) → (sgn T N W (12500 * m_slot) n0 (SN m_slot)) → (stx T0 N0 W0 CA CM T N W CA CM (12500 * m_slot) n0) → (sno SN0 SN m_slot) → (tka T W CA CM SM SA RL RH CL CH (12500 * m_slot) (SN m_slot) m_slot cl ns) → (rE T N W RO m_slot n0 (SN m_slot) r i_ k (fun i => RO0 (to + i)) (fun _ => be)) → (fx o o [333, 318, 319, 320, 317] G0 G) → (G.length = G0.length) → (ab_slots G = ab_slots G0) → (Int.toNat (dp + 1 - i_) < mz) → (∀ (G2 : ab_G) (RO2 : Int → Int) (T2 : Int → Int) (N2 : Int → Int) (W2 : Int → Int) (SN2 : Int → Int), (cc o G2 133 333 (za 40000 RO2)) → (cc o G2 118 318 (za 75000 T2)) → (cc o G2 119 319 (za 75000 N2)) → (cc o G2 120 320 (za 75000 W2)) → (cc o G2 117 317 (za 6 SN2)) → (rgs RO2 40000 0 12499) → (rgs T2 75000 0 6) → (rgs N2 75000 (-1) 12499) → (rgs W2 75000 (-1) 12499) → (rgs SN2 6 0 12500) → (n0 ≤ SN2 m_slot ∧ SN2 m_slot ≤ n0 + dp + 1) → (rokk RO2 r (dp + 1) (SN2 m_slot)) → (rsm RO0 RO2 r) → (sgn T2 N2 W2 (12500 * m_slot) n0 (SN2 m_slot)) → (stx T0 N0 W0 CA CM T2 N2 W2 CA CM (12500 * m_slot) n0) → (sno SN0 SN2 m_slot) → (tka T2 W2 CA CM SM SA RL RH CL CH (12500 * m_slot) (SN2 m_slot) m_slot cl ns) → (rE T2 N2 W2 RO2 m_slot n0 (SN2 m_slot) r (dp + 1) k (fun i => RO0 (to + i)) (fun _ => be)) → (fx o o [333, 318, 319, 320, 317] G0 G2) → (G2.length = G0.length) → (ab_slots G2 = ab_slots G0) → ab_W X (ab_pl y_MO_each b_MO_each 7 (some (.int))) d G2 90 [some (vR 80), none, none, none, none, some (vz r), none] [] Q) → ab_W X (ab_pl y_MO_each b_MO_each 7 (some (.int))) d G 9 [some (vR 80), some (vz k), some (vz to), some (vz be), some (vz dp), some (vz r), some (vz i_)] [] Q := by
  intro mz
  induction mz with
  | zero => intro G i_ RO T N W SN h80 h133 h118 h119 h120 h117 ci gro gt gn gw gsn jr js jg jx jo jk jE hfr hlen hsl hm hk0; exact absurd hm (Nat.not_lt_zero _)
  | succ mz ih =>
    intro G i_ RO T N W SN h80 h133 h118 h119 h120 h117 ci gro gt gn gw gsn jr js jg jx jo jk jE hfr hlen hsl hm hk0
    refine ab_iload d_MO_each_9 rfl ?_
    refine ab_iload d_MO_each_11 rfl ?_
    refine zz_icmp_gt (tgt := 90) d_MO_each_13 (by decide) (by omega) (by omega) (fun c1 => ?_) (fun c1 => ?_)
    · refine ab_less (L' := [some (vR 80), none, none, none, none, some (vz r), none]) (fun i v h => by rcases i with _ | _ | _ | _ | _ | _ | _ | i <;> first | exact h | (simp at h)) ?_
      exact hk0 _ _ _ _ _ _ h133 h118 h119 h120 h117 (by first | exact gro | exact rgs_w gro (by omega)) (by first | exact gt | exact rgs_w gt (by omega)) (by first | exact gn | exact rgs_w gn (by omega)) (by first | exact gw | exact rgs_w gw (by omega)) (by first | exact gsn | exact rgs_w gsn (by omega)) (by omega) (by exact (show i_ = dp + 1 by omega) ▸ jr) (by exact js) (by exact jg) (by exact jx) (by exact jo) (by exact jk) (by exact (show i_ = dp + 1 by omega) ▸ jE) hfr hlen hsl
    · have hs0_ := (rokk_o jf_to js (by omega)) i_ (by omega) (by omega)
      refine ab_aload_n d_MO_each_16 rfl ?_
      refine ab_getf (fs := mof m_thrown m_taped m_length m_out m_wide m_gathered m_sets m_ranges m_nodes m_at m_flags m_fault m_place m_numbered m_depth m_value m_isNot m_least0 m_most0 m_slot m_work m_got m_rowMany m_charAt m_charWide m_trail m_isMatch m_matchGroups m_allFrom m_allBefore m_founds m_pieces m_writtenMany m_templateWide m_tooMuch) f_MO_174 d_MO_each_17 h80.2.2 rfl ?_
      refine ab_iload d_MO_each_20 rfl ?_
      refine ab_iload d_MO_each_22 rfl ?_
      refine zz_iadd d_MO_each_24 ?_
      refine ab_iload d_MO_each_25 rfl ?_
      refine zz_if_le (tgt := 68) d_MO_each_27 (by decide) (by omega) (fun c2 => ?_) (fun c2 => ?_)
      · refine ab_aload_n d_MO_each_68 rfl ?_
        refine ab_iload_n d_MO_each_69 rfl ?_
        refine ab_aload_n d_MO_each_70 rfl ?_
        refine ab_getf (fs := mof m_thrown m_taped m_length m_out m_wide m_gathered m_sets m_ranges m_nodes m_at m_flags m_fault m_place m_numbered m_depth m_value m_isNot m_least0 m_most0 m_slot m_work m_got m_rowMany m_charAt m_charWide m_trail m_isMatch m_matchGroups m_allFrom m_allBefore m_founds m_pieces m_writtenMany m_templateWide m_tooMuch) f_MO_174 d_MO_each_71 h80.2.2 rfl ?_
        refine ab_iload_n d_MO_each_74 rfl ?_
        refine ab_iload d_MO_each_75 rfl ?_
        refine zz_iadd d_MO_each_77 ?_
        refine zz_iald d_MO_each_78 h133 (by omega) ?_
        refine ab_iload_n d_MO_each_79 rfl ?_
        refine ab_callV (d' := d - 1) (as := [vz k, vz (RO (to + i_)), vz be]) (st := [vz (r + i_), vR 133]) (r := _) (z_MO_addStep (o := o) (m_thrown := m_thrown) (m_taped := m_taped) (m_length := m_length) (m_out := m_out) (m_wide := m_wide) (m_gathered := m_gathered) (m_sets := m_sets) (m_ranges := m_ranges) (m_nodes := m_nodes) (m_at := m_at) (m_flags := m_flags) (m_fault := m_fault) (m_place := m_place) (m_numbered := m_numbered) (m_depth := m_depth) (m_value := m_value) (m_isNot := m_isNot) (m_least0 := m_least0) (m_most0 := m_most0) (m_slot := m_slot) (m_work := m_work) (m_got := m_got) (m_rowMany := m_rowMany) (m_charAt := m_charAt) (m_charWide := m_charWide) (m_trail := m_trail) (m_isMatch := m_isMatch) (m_matchGroups := m_matchGroups) (m_allFrom := m_allFrom) (m_allBefore := m_allBefore) (m_founds := m_founds) (m_pieces := m_pieces) (m_writtenMany := m_writtenMany) (m_templateWide := m_templateWide) (m_tooMuch := m_tooMuch) (T := T) (N := N) (W := W) (SN := SN) (k := k) (x := (RO (to + i_))) (y := be) h80 h118 h119 h120 h117 (by omega) (by omega) (by omega)) (fun oc G2 h => by rcases h with ⟨h, _⟩ <;> exact ⟨_, h⟩) (by omega) m_MO_addStep ml_MO_441 im_MO_addStep se_MO_addStep c_MO h80.2.2 (Nat.le_of_ble_eq_true rfl) d_MO_each_80 rfl ?_
        intro v G3 hq
        rcases hq with ⟨hv, hfk, hlk, hsk, hN118, hN119, hN120, hN117⟩
        cases hv
        have h80 := hfk.get h80 (by decide)
        have h133 := hfk.get h133 (by decide)
        have hfr := hfr.tr hfk (by decide)
        have hlen := hlk.trans hlen
        have hsl := hsk.trans hsl
        have h118 := hN118
        have h119 := hN119
        have h120 := hN120
        have h117 := hN117
        change ab_W _ _ _ G3 83 [some (vR 80), some (vz k), some (vz to), some (vz be), some (vz dp), some (vz r), some (vz i_)] [vz (SN m_slot), vz (r + i_), vR 133] _
        have hsn_ : zu SN m_slot ((SN m_slot) + 1) m_slot = (SN m_slot) + 1 := zu_self _ _ _
        refine zz_iast d_MO_each_83 h133 (by omega) (h133.2.1 (by decide)) ?_
        obtain ⟨G4, eG4⟩ : ∃ z : ab_G, z = List.set G3 133 (za 40000 (zu RO (r + i_) (SN m_slot))) := ⟨_, rfl⟩
        have h80 := h80.keep h133 eG4 (by decide)
        have h118 := h118.keep h133 eG4 (by decide)
        have h119 := h119.keep h133 eG4 (by decide)
        have h120 := h120.keep h133 eG4 (by decide)
        have h117 := h117.keep h133 eG4 (by decide)
        have hlen := (z_len eG4).trans hlen
        have hsl := (z_sl h133 eG4 rfl).trans hsl
        have hfr := hfr.wr h133 eG4 (by decide)
        have h133 := h133.kept eG4
        change ab_W _ _ _ (List.set G3 133 (za 40000 (zu RO (r + i_) (SN m_slot)))) 84 [some (vR 80), some (vz k), some (vz to), some (vz be), some (vz dp), some (vz r), some (vz i_)] [] _
        rw [← eG4]
        refine zz_iinc d_MO_each_84 rfl (Nat.le_of_ble_eq_true rfl) (Nat.le_of_ble_eq_true rfl) rfl ?_
        change ab_W _ _ _ G4 87 [some (vR 80), some (vz k), some (vz to), some (vz be), some (vz dp), some (vz r), some (vz (i_ + 1))] [] _
        refine ab_goto (tgt := 9) d_MO_each_87 (by decide) ?_
        exact ih (i_ := (i_ + 1)) (RO := (zu RO (r + i_) (SN m_slot))) (T := (zu T ((12500 * m_slot) + (SN m_slot)) k)) (N := (zu N ((12500 * m_slot) + (SN m_slot)) (RO (to + i_)))) (W := (zu W ((12500 * m_slot) + (SN m_slot)) be)) (SN := (zu SN m_slot ((SN m_slot) + 1))) h80 h133 h118 h119 h120 h117 (by omega) (rgs_zu gro (by omega)) (rgs_zu gt (by omega)) (rgs_zu gn (by omega)) (rgs_zu gw (by omega)) (rgs_zu gsn (by omega)) (by rw [hsn_]; exact rokk_s (rokk_w jr (Int.le_refl _) (by omega)) (by omega) (by omega)) (rsm_wr js (by omega)) (by rw [hsn_]; exact sgn_add jg (by omega) (by omega) (by omega) (by omega) (by omega)) (stx_add jx (by omega)) (sno_wr jo) (by rw [hsn_]; exact tka_add (k2 := 0) jk (by omega)) (by rw [hsn_]; exact rE_add jE (by omega) (js (to + i_) (by omega)) rfl (by omega)) hfr hlen hsl (by omega) hk0
      · have hp0_ := (rokk_o jf_to js (by omega)) (i_ - 1) (by omega) (by omega)
        rw [show to + (i_ - 1) = to + i_ - 1 by omega] at hp0_
        have hpr_ := jr (i_ - 1) (by omega) (by omega)
        rw [show r + (i_ - 1) = r + i_ - 1 by omega] at hpr_
        refine ab_aload_n d_MO_each_30 rfl ?_
        refine ab_getf (fs := mof m_thrown m_taped m_length m_out m_wide m_gathered m_sets m_ranges m_nodes m_at m_flags m_fault m_place m_numbered m_depth m_value m_isNot m_least0 m_most0 m_slot m_work m_got m_rowMany m_charAt m_charWide m_trail m_isMatch m_matchGroups m_allFrom m_allBefore m_founds m_pieces m_writtenMany m_templateWide m_tooMuch) f_MO_174 d_MO_each_31 h80.2.2 rfl ?_
        refine ab_iload_n d_MO_each_34 rfl ?_
        refine ab_iload d_MO_each_35 rfl ?_
        refine zz_iadd d_MO_each_37 ?_
        refine zz_iald d_MO_each_38 h133 (by omega) ?_
        refine ab_aload_n d_MO_each_39 rfl ?_
        refine ab_getf (fs := mof m_thrown m_taped m_length m_out m_wide m_gathered m_sets m_ranges m_nodes m_at m_flags m_fault m_place m_numbered m_depth m_value m_isNot m_least0 m_most0 m_slot m_work m_got m_rowMany m_charAt m_charWide m_trail m_isMatch m_matchGroups m_allFrom m_allBefore m_founds m_pieces m_writtenMany m_templateWide m_tooMuch) f_MO_174 d_MO_each_40 h80.2.2 rfl ?_
        refine ab_iload_n d_MO_each_43 rfl ?_
        refine ab_iload d_MO_each_44 rfl ?_
        refine zz_iadd d_MO_each_46 ?_
        refine zz_iconst d_MO_each_47 ?_
        refine zz_isub d_MO_each_48 ?_
        refine zz_iald d_MO_each_49 h133 (by omega) ?_
        refine zz_icmp_ne (tgt := 68) d_MO_each_50 (by decide) (by omega) (by omega) (fun c5 => ?_) (fun c5 => ?_)
        · refine ab_aload_n d_MO_each_68 rfl ?_
          refine ab_iload_n d_MO_each_69 rfl ?_
          refine ab_aload_n d_MO_each_70 rfl ?_
          refine ab_getf (fs := mof m_thrown m_taped m_length m_out m_wide m_gathered m_sets m_ranges m_nodes m_at m_flags m_fault m_place m_numbered m_depth m_value m_isNot m_least0 m_most0 m_slot m_work m_got m_rowMany m_charAt m_charWide m_trail m_isMatch m_matchGroups m_allFrom m_allBefore m_founds m_pieces m_writtenMany m_templateWide m_tooMuch) f_MO_174 d_MO_each_71 h80.2.2 rfl ?_
          refine ab_iload_n d_MO_each_74 rfl ?_
          refine ab_iload d_MO_each_75 rfl ?_
          refine zz_iadd d_MO_each_77 ?_
          refine zz_iald d_MO_each_78 h133 (by omega) ?_
          refine ab_iload_n d_MO_each_79 rfl ?_
          refine ab_callV (d' := d - 1) (as := [vz k, vz (RO (to + i_)), vz be]) (st := [vz (r + i_), vR 133]) (r := _) (z_MO_addStep (o := o) (m_thrown := m_thrown) (m_taped := m_taped) (m_length := m_length) (m_out := m_out) (m_wide := m_wide) (m_gathered := m_gathered) (m_sets := m_sets) (m_ranges := m_ranges) (m_nodes := m_nodes) (m_at := m_at) (m_flags := m_flags) (m_fault := m_fault) (m_place := m_place) (m_numbered := m_numbered) (m_depth := m_depth) (m_value := m_value) (m_isNot := m_isNot) (m_least0 := m_least0) (m_most0 := m_most0) (m_slot := m_slot) (m_work := m_work) (m_got := m_got) (m_rowMany := m_rowMany) (m_charAt := m_charAt) (m_charWide := m_charWide) (m_trail := m_trail) (m_isMatch := m_isMatch) (m_matchGroups := m_matchGroups) (m_allFrom := m_allFrom) (m_allBefore := m_allBefore) (m_founds := m_founds) (m_pieces := m_pieces) (m_writtenMany := m_writtenMany) (m_templateWide := m_templateWide) (m_tooMuch := m_tooMuch) (T := T) (N := N) (W := W) (SN := SN) (k := k) (x := (RO (to + i_))) (y := be) h80 h118 h119 h120 h117 (by omega) (by omega) (by omega)) (fun oc G2 h => by rcases h with ⟨h, _⟩ <;> exact ⟨_, h⟩) (by omega) m_MO_addStep ml_MO_441 im_MO_addStep se_MO_addStep c_MO h80.2.2 (Nat.le_of_ble_eq_true rfl) d_MO_each_80 rfl ?_
          intro v G6 hq
          rcases hq with ⟨hv, hfk, hlk, hsk, hN118, hN119, hN120, hN117⟩
          cases hv
          have h80 := hfk.get h80 (by decide)
          have h133 := hfk.get h133 (by decide)
          have hfr := hfr.tr hfk (by decide)
          have hlen := hlk.trans hlen
          have hsl := hsk.trans hsl
          have h118 := hN118
          have h119 := hN119
          have h120 := hN120
          have h117 := hN117
          change ab_W _ _ _ G6 83 [some (vR 80), some (vz k), some (vz to), some (vz be), some (vz dp), some (vz r), some (vz i_)] [vz (SN m_slot), vz (r + i_), vR 133] _
          have hsn_ : zu SN m_slot ((SN m_slot) + 1) m_slot = (SN m_slot) + 1 := zu_self _ _ _
          refine zz_iast d_MO_each_83 h133 (by omega) (h133.2.1 (by decide)) ?_
          obtain ⟨G7, eG7⟩ : ∃ z : ab_G, z = List.set G6 133 (za 40000 (zu RO (r + i_) (SN m_slot))) := ⟨_, rfl⟩
          have h80 := h80.keep h133 eG7 (by decide)
          have h118 := h118.keep h133 eG7 (by decide)
          have h119 := h119.keep h133 eG7 (by decide)
          have h120 := h120.keep h133 eG7 (by decide)
          have h117 := h117.keep h133 eG7 (by decide)
          have hlen := (z_len eG7).trans hlen
          have hsl := (z_sl h133 eG7 rfl).trans hsl
          have hfr := hfr.wr h133 eG7 (by decide)
          have h133 := h133.kept eG7
          change ab_W _ _ _ (List.set G6 133 (za 40000 (zu RO (r + i_) (SN m_slot)))) 84 [some (vR 80), some (vz k), some (vz to), some (vz be), some (vz dp), some (vz r), some (vz i_)] [] _
          rw [← eG7]
          refine zz_iinc d_MO_each_84 rfl (Nat.le_of_ble_eq_true rfl) (Nat.le_of_ble_eq_true rfl) rfl ?_
          change ab_W _ _ _ G7 87 [some (vR 80), some (vz k), some (vz to), some (vz be), some (vz dp), some (vz r), some (vz (i_ + 1))] [] _
          refine ab_goto (tgt := 9) d_MO_each_87 (by decide) ?_
          exact ih (i_ := (i_ + 1)) (RO := (zu RO (r + i_) (SN m_slot))) (T := (zu T ((12500 * m_slot) + (SN m_slot)) k)) (N := (zu N ((12500 * m_slot) + (SN m_slot)) (RO (to + i_)))) (W := (zu W ((12500 * m_slot) + (SN m_slot)) be)) (SN := (zu SN m_slot ((SN m_slot) + 1))) h80 h133 h118 h119 h120 h117 (by omega) (rgs_zu gro (by omega)) (rgs_zu gt (by omega)) (rgs_zu gn (by omega)) (rgs_zu gw (by omega)) (rgs_zu gsn (by omega)) (by rw [hsn_]; exact rokk_s (rokk_w jr (Int.le_refl _) (by omega)) (by omega) (by omega)) (rsm_wr js (by omega)) (by rw [hsn_]; exact sgn_add jg (by omega) (by omega) (by omega) (by omega) (by omega)) (stx_add jx (by omega)) (sno_wr jo) (by rw [hsn_]; exact tka_add (k2 := 0) jk (by omega)) (by rw [hsn_]; exact rE_add jE (by omega) (js (to + i_) (by omega)) rfl (by omega)) hfr hlen hsl (by omega) hk0
        · refine ab_aload_n d_MO_each_53 rfl ?_
          refine ab_getf (fs := mof m_thrown m_taped m_length m_out m_wide m_gathered m_sets m_ranges m_nodes m_at m_flags m_fault m_place m_numbered m_depth m_value m_isNot m_least0 m_most0 m_slot m_work m_got m_rowMany m_charAt m_charWide m_trail m_isMatch m_matchGroups m_allFrom m_allBefore m_founds m_pieces m_writtenMany m_templateWide m_tooMuch) f_MO_174 d_MO_each_54 h80.2.2 rfl ?_
          refine ab_iload d_MO_each_57 rfl ?_
          refine ab_iload d_MO_each_59 rfl ?_
          refine zz_iadd d_MO_each_61 ?_
          refine zz_iconst d_MO_each_62 ?_
          refine zz_isub d_MO_each_63 ?_
          refine zz_iald d_MO_each_64 h133 (by omega) ?_
          refine ab_goto (tgt := 83) d_MO_each_65 (by decide) ?_
          have hsn_ : zu SN m_slot ((SN m_slot) + 1) m_slot = (SN m_slot) + 1 := zu_self _ _ _
          refine zz_iast d_MO_each_83 h133 (by omega) (h133.2.1 (by decide)) ?_
          obtain ⟨G8, eG8⟩ : ∃ z : ab_G, z = List.set G 133 (za 40000 (zu RO (r + i_) (RO ((r + i_) - 1)))) := ⟨_, rfl⟩
          have h80 := h80.keep h133 eG8 (by decide)
          have h118 := h118.keep h133 eG8 (by decide)
          have h119 := h119.keep h133 eG8 (by decide)
          have h120 := h120.keep h133 eG8 (by decide)
          have h117 := h117.keep h133 eG8 (by decide)
          have hlen := (z_len eG8).trans hlen
          have hsl := (z_sl h133 eG8 rfl).trans hsl
          have hfr := hfr.wr h133 eG8 (by decide)
          have h133 := h133.kept eG8
          change ab_W _ _ _ (List.set G 133 (za 40000 (zu RO (r + i_) (RO ((r + i_) - 1))))) 84 [some (vR 80), some (vz k), some (vz to), some (vz be), some (vz dp), some (vz r), some (vz i_)] [] _
          rw [← eG8]
          refine zz_iinc d_MO_each_84 rfl (Nat.le_of_ble_eq_true rfl) (Nat.le_of_ble_eq_true rfl) rfl ?_
          change ab_W _ _ _ G8 87 [some (vR 80), some (vz k), some (vz to), some (vz be), some (vz dp), some (vz r), some (vz (i_ + 1))] [] _
          refine ab_goto (tgt := 9) d_MO_each_87 (by decide) ?_
          exact ih (i_ := (i_ + 1)) (RO := (zu RO (r + i_) (RO ((r + i_) - 1)))) (T := T) (N := N) (W := W) (SN := SN) h80 h133 h118 h119 h120 h117 (by omega) (rgs_zu gro (by omega)) gt gn gw gsn (rokk_s jr (by omega) (by omega)) (rsm_wr js (by omega)) jg jx jo jk (rE_same jE (by omega) rfl (by have a_ := js (to + i_) (by omega); have b_ := js (to + i_ - 1) (by omega); show RO0 (to + i_) = RO0 (to + (i_ - 1)); rw [show to + (i_ - 1) = to + i_ - 1 by omega]; omega) rfl) hfr hlen hsl (by omega) hk0
set_option maxRecDepth 100000 in
set_option maxHeartbeats 4000000 in
theorem z_MO_each {X : ab_X} {d : Nat} {o : Nat → Nat} {G : ab_G} {m_thrown : Int} {m_taped : Int} {m_length : Int} {m_out : Int} {m_wide : Int} {m_gathered : Int} {m_sets : Int} {m_ranges : Int} {m_nodes : Int} {m_at : Int} {m_flags : Int} {m_fault : Int} {m_place : Int} {m_numbered : Int} {m_depth : Int} {m_value : Int} {m_isNot : Int} {m_least0 : Int} {m_most0 : Int} {m_slot : Int} {m_work : Int} {m_got : Int} {m_rowMany : Int} {m_charAt : Int} {m_charWide : Int} {m_trail : Int} {m_isMatch : Int} {m_matchGroups : Int} {m_allFrom : Int} {m_allBefore : Int} {m_founds : Int} {m_pieces : Int} {m_writtenMany : Int} {m_templateWide : Int} {m_tooMuch : Int} {T : Int → Int} {N : Int → Int} {W : Int → Int} {CA : Int → Int} {CM : Int → Int} {CL : Int → Int} {CH : Int → Int} {SN : Int → Int} {RO : Int → Int} {SM : Int → Int} {SA : Int → Int} {RL : Int → Int} {RH : Int → Int} {k : Int} {to : Int} {be : Int} {dp : Int} {ns : Int} {cl : Int} (h80 : cc o G 80 280 (ab_ob 12 (mof m_thrown m_taped m_length m_out m_wide m_gathered m_sets m_ranges m_nodes m_at m_flags m_fault m_place m_numbered m_depth m_value m_isNot m_least0 m_most0 m_slot m_work m_got m_rowMany m_charAt m_charWide m_trail m_isMatch m_matchGroups m_allFrom m_allBefore m_founds m_pieces m_writtenMany m_templateWide m_tooMuch))) (h133 : cc o G 133 333 (za 40000 RO)) (h118 : cc o G 118 318 (za 75000 T)) (h119 : cc o G 119 319 (za 75000 N)) (h120 : cc o G 120 320 (za 75000 W)) (h117 : cc o G 117 317 (za 6 SN)) (n18 : ab_n0 = 18) (csl : 0 ≤ m_slot ∧ m_slot ≤ 5) (cr : 0 ≤ m_rowMany ∧ m_rowMany ≤ 1249) (gro : rgs RO 40000 0 12499) (gt : rgs T 75000 0 6) (gn : rgs N 75000 (-1) 12499) (gw : rgs W 75000 (-1) 12499) (gsn : rgs SN 6 0 12500) (ch : 0 ≤ dp ∧ dp ≤ 31 ∧ 0 ≤ (SN m_slot) ∧ (SN m_slot) + dp + 1 ≤ 12500 ∧ 0 ≤ to ∧ to + 32 ≤ (32 * m_rowMany)) (ckb : (k = 4 ∧ 0 ≤ be ∧ be < 20) ∨ (k = 5 ∧ 0 ≤ be ∧ be ≤ 5)) (jf_to : rokk RO to (dp + 1) (SN m_slot)) (jk : tka T W CA CM SM SA RL RH CL CH (12500 * m_slot) (SN m_slot) m_slot cl ns) (hd : 3 ≤ d) : ab_F X d y_MO_each (.code y_MO_each b_MO_each 7 (some (.int))) [vR 80, vz k, vz to, vz be, vz dp] G (fun oc G2 => ∃ RO2 : Int → Int, ∃ T2 : Int → Int, ∃ N2 : Int → Int, ∃ W2 : Int → Int, ∃ SN2 : Int → Int, oc = .returned (some (vz (32 * m_rowMany))) ∧ fx o o [280, 333, 318, 319, 320, 317] G G2 ∧ G2.length = G.length ∧ ab_slots G2 = ab_slots G ∧ cc o G2 80 280 (ab_ob 12 (mof m_thrown m_taped m_length m_out m_wide m_gathered m_sets m_ranges m_nodes m_at m_flags m_fault m_place m_numbered m_depth m_value m_isNot m_least0 m_most0 m_slot m_work m_got (m_rowMany + 1) m_charAt m_charWide m_trail m_isMatch m_matchGroups m_allFrom m_allBefore m_founds m_pieces m_writtenMany m_templateWide m_tooMuch)) ∧ cc o G2 133 333 (za 40000 RO2) ∧ cc o G2 118 318 (za 75000 T2) ∧ cc o G2 119 319 (za 75000 N2) ∧ cc o G2 120 320 (za 75000 W2) ∧ cc o G2 117 317 (za 6 SN2) ∧ (rgs RO2 40000 0 12499) ∧ (rgs T2 75000 0 6) ∧ (rgs N2 75000 (-1) 12499) ∧ (rgs W2 75000 (-1) 12499) ∧ (rgs SN2 6 0 12500) ∧ ((SN m_slot) ≤ SN2 m_slot ∧ SN2 m_slot ≤ (SN m_slot) + dp + 1) ∧ (rokk RO2 (32 * m_rowMany) (dp + 1) (SN2 m_slot)) ∧ (rsm RO RO2 (32 * m_rowMany)) ∧ (sgn T2 N2 W2 (12500 * m_slot) (SN m_slot) (SN2 m_slot)) ∧ (stx T N W CA CM T2 N2 W2 CA CM (12500 * m_slot) (SN m_slot)) ∧ (sno SN SN2 m_slot) ∧ (tka T2 W2 CA CM SM SA RL RH CL CH (12500 * m_slot) (SN2 m_slot) m_slot cl ns) ∧ (rE T2 N2 W2 RO2 m_slot (SN m_slot) (SN2 m_slot) (32 * m_rowMany) (dp + 1) k (fun i => RO (to + i)) (fun _ => be))) := by
  refine ab_F_of (by decide +kernel) (Nat.le_of_ble_eq_true rfl) ?_
  obtain ⟨Q, hQ⟩ : ∃ z : Outcome → ab_G → Prop, z = (fun oc G2 => ∃ RO2 : Int → Int, ∃ T2 : Int → Int, ∃ N2 : Int → Int, ∃ W2 : Int → Int, ∃ SN2 : Int → Int, oc = .returned (some (vz (32 * m_rowMany))) ∧ fx o o [280, 333, 318, 319, 320, 317] G G2 ∧ G2.length = G.length ∧ ab_slots G2 = ab_slots G ∧ cc o G2 80 280 (ab_ob 12 (mof m_thrown m_taped m_length m_out m_wide m_gathered m_sets m_ranges m_nodes m_at m_flags m_fault m_place m_numbered m_depth m_value m_isNot m_least0 m_most0 m_slot m_work m_got (m_rowMany + 1) m_charAt m_charWide m_trail m_isMatch m_matchGroups m_allFrom m_allBefore m_founds m_pieces m_writtenMany m_templateWide m_tooMuch)) ∧ cc o G2 133 333 (za 40000 RO2) ∧ cc o G2 118 318 (za 75000 T2) ∧ cc o G2 119 319 (za 75000 N2) ∧ cc o G2 120 320 (za 75000 W2) ∧ cc o G2 117 317 (za 6 SN2) ∧ (rgs RO2 40000 0 12499) ∧ (rgs T2 75000 0 6) ∧ (rgs N2 75000 (-1) 12499) ∧ (rgs W2 75000 (-1) 12499) ∧ (rgs SN2 6 0 12500) ∧ ((SN m_slot) ≤ SN2 m_slot ∧ SN2 m_slot ≤ (SN m_slot) + dp + 1) ∧ (rokk RO2 (32 * m_rowMany) (dp + 1) (SN2 m_slot)) ∧ (rsm RO RO2 (32 * m_rowMany)) ∧ (sgn T2 N2 W2 (12500 * m_slot) (SN m_slot) (SN2 m_slot)) ∧ (stx T N W CA CM T2 N2 W2 CA CM (12500 * m_slot) (SN m_slot)) ∧ (sno SN SN2 m_slot) ∧ (tka T2 W2 CA CM SM SA RL RH CL CH (12500 * m_slot) (SN2 m_slot) m_slot cl ns) ∧ (rE T2 N2 W2 RO2 m_slot (SN m_slot) (SN2 m_slot) (32 * m_rowMany) (dp + 1) k (fun i => RO (to + i)) (fun _ => be))) := ⟨_, rfl⟩
  rw [← hQ]
  change ab_W X (ab_pl y_MO_each b_MO_each 7 (some (.int))) d G 0 [some (vR 80), some (vz k), some (vz to), some (vz be), some (vz dp), none, none] [] Q
  have hfr : fx o o [280, 333, 318, 319, 320, 317] G G := fx.rf
  have hlen : G.length = G.length := rfl
  have hsl : ab_slots G = ab_slots G := rfl
  refine ab_aload_n d_MO_each_0 rfl ?_
  refine ab_callV (d' := d - 1) (as := []) (st := []) (r := _) (z_MO_row (o := o) (m_thrown := m_thrown) (m_taped := m_taped) (m_length := m_length) (m_out := m_out) (m_wide := m_wide) (m_gathered := m_gathered) (m_sets := m_sets) (m_ranges := m_ranges) (m_nodes := m_nodes) (m_at := m_at) (m_flags := m_flags) (m_fault := m_fault) (m_place := m_place) (m_numbered := m_numbered) (m_depth := m_depth) (m_value := m_value) (m_isNot := m_isNot) (m_least0 := m_least0) (m_most0 := m_most0) (m_slot := m_slot) (m_work := m_work) (m_got := m_got) (m_rowMany := m_rowMany) (m_charAt := m_charAt) (m_charWide := m_charWide) (m_trail := m_trail) (m_isMatch := m_isMatch) (m_matchGroups := m_matchGroups) (m_allFrom := m_allFrom) (m_allBefore := m_allBefore) (m_founds := m_founds) (m_pieces := m_pieces) (m_writtenMany := m_writtenMany) (m_templateWide := m_templateWide) (m_tooMuch := m_tooMuch) h80 (by omega) (by omega)) (fun oc G2 h => by rcases h with ⟨h, _⟩ <;> exact ⟨_, h⟩) (by omega) m_MO_row ml_MO_454 im_MO_row se_MO_row c_MO h80.2.2 (Nat.le_of_ble_eq_true rfl) d_MO_each_1 rfl ?_
  intro v G1 hq
  rcases hq with ⟨hv, hfk, hlk, hsk, hN80⟩
  cases hv
  have h133 := hfk.get h133 (by decide)
  have h118 := hfk.get h118 (by decide)
  have h119 := hfk.get h119 (by decide)
  have h120 := hfk.get h120 (by decide)
  have h117 := hfk.get h117 (by decide)
  have hfr := hfr.tr hfk (by decide)
  have hlen := hlk.trans hlen
  have hsl := hsk.trans hsl
  have h80 := hN80
  change ab_W _ _ _ G1 4 [some (vR 80), some (vz k), some (vz to), some (vz be), some (vz dp), none, none] [vz (32 * m_rowMany)] _
  refine ab_istore d_MO_each_4 (Nat.le_of_ble_eq_true rfl) (Nat.le_of_ble_eq_true rfl) rfl ?_
  change ab_W _ _ _ G1 6 [some (vR 80), some (vz k), some (vz to), some (vz be), some (vz dp), some (vz (32 * m_rowMany)), none] [] _
  refine zz_iconst d_MO_each_6 ?_
  refine ab_istore d_MO_each_7 (Nat.le_of_ble_eq_true rfl) (Nat.le_of_ble_eq_true rfl) rfl ?_
  change ab_W _ _ _ G1 9 [some (vR 80), some (vz k), some (vz to), some (vz be), some (vz dp), some (vz (32 * m_rowMany)), some (vz 0)] [] _
  refine y_MO_each_9 (m_thrown := m_thrown) (m_taped := m_taped) (m_length := m_length) (m_out := m_out) (m_wide := m_wide) (m_gathered := m_gathered) (m_sets := m_sets) (m_ranges := m_ranges) (m_nodes := m_nodes) (m_at := m_at) (m_flags := m_flags) (m_fault := m_fault) (m_place := m_place) (m_numbered := m_numbered) (m_depth := m_depth) (m_value := m_value) (m_isNot := m_isNot) (m_least0 := m_least0) (m_most0 := m_most0) (m_slot := m_slot) (m_work := m_work) (m_got := m_got) (m_rowMany := (m_rowMany + 1)) (m_charAt := m_charAt) (m_charWide := m_charWide) (m_trail := m_trail) (m_isMatch := m_isMatch) (m_matchGroups := m_matchGroups) (m_allFrom := m_allFrom) (m_allBefore := m_allBefore) (m_founds := m_founds) (m_pieces := m_pieces) (m_writtenMany := m_writtenMany) (m_templateWide := m_templateWide) (m_tooMuch := m_tooMuch) (CA := CA) (CM := CM) (CL := CL) (CH := CH) (T0 := T) (N0 := N) (W0 := W) (SN0 := SN) (RO0 := RO) (SM := SM) (SA := SA) (RL := RL) (RH := RH) (k := k) (to := to) (be := be) (dp := dp) (r := (32 * m_rowMany)) (n0 := (SN m_slot)) (ns := ns) (cl := cl) (G0 := G1) (i_ := 0) (RO := RO) (T := T) (N := N) (W := W) (SN := SN) (by omega) (by omega) (by omega) (by omega) jf_to (by omega) (Int.toNat (dp + 1 - 0) + 1) h80 h133 h118 h119 h120 h117 (by omega) gro gt gn gw gsn rokk_0 rsm_rf sgn_0 stx_rf sno_rf jk rE_0 fx.rf rfl rfl (by omega) (fun G2 RO23 T24 N25 W26 SN27 hN133 hN118 hN119 hN120 hN117 hq8 hq9 hq10 hq11 hq12 hq13 hq14 hq15 hq16 hq17 hq18 hq19 hq20 hfk hlk hsk => ?_)
  · have h80 := hfk.get h80 (by decide)
    have hfr := hfr.tr hfk (by decide)
    have hlen := hlk.trans hlen
    have hsl := hsk.trans hsl
    have h133 := hN133
    have h118 := hN118
    have h119 := hN119
    have h120 := hN120
    have h117 := hN117
    change ab_W _ _ _ G2 90 [some (vR 80), none, none, none, none, some (vz (32 * m_rowMany)), none] [] _
    refine ab_iload d_MO_each_90 rfl ?_
    refine zz_iret rfl d_MO_each_92 ?_
    rw [hQ]; exact ⟨_, _, _, _, _, rfl, hfr, hlen, hsl, h80, h133, h118, h119, h120, h117, (by first | exact hq8 | exact rgs_w hq8 (by omega)), (by first | exact hq9 | exact rgs_w hq9 (by omega)), (by first | exact hq10 | exact rgs_w hq10 (by omega)), (by first | exact hq11 | exact rgs_w hq11 (by omega)), (by first | exact hq12 | exact rgs_w hq12 (by omega)), (by omega), (by exact hq14), (by exact hq15), (by exact hq16), (by exact hq17), (by exact hq18), (by exact hq19), (by exact hq20)⟩
set_option maxRecDepth 100000 in
set_option maxHeartbeats 4000000 in
theorem y_MO_eachOf_9 {X : ab_X} {d : Nat} {Q : Outcome → ab_G → Prop} {o : Nat → Nat} {G0 : ab_G} {m_thrown : Int} {m_taped : Int} {m_length : Int} {m_out : Int} {m_wide : Int} {m_gathered : Int} {m_sets : Int} {m_ranges : Int} {m_nodes : Int} {m_at : Int} {m_flags : Int} {m_fault : Int} {m_place : Int} {m_numbered : Int} {m_depth : Int} {m_value : Int} {m_isNot : Int} {m_least0 : Int} {m_most0 : Int} {m_slot : Int} {m_work : Int} {m_got : Int} {m_rowMany : Int} {m_charAt : Int} {m_charWide : Int} {m_trail : Int} {m_isMatch : Int} {m_matchGroups : Int} {m_allFrom : Int} {m_allBefore : Int} {m_founds : Int} {m_pieces : Int} {m_writtenMany : Int} {m_templateWide : Int} {m_tooMuch : Int} {CA : Int → Int} {CM : Int → Int} {CL : Int → Int} {CH : Int → Int} {T0 : Int → Int} {N0 : Int → Int} {W0 : Int → Int} {SN0 : Int → Int} {RO0 : Int → Int} {SM : Int → Int} {SA : Int → Int} {RL : Int → Int} {RH : Int → Int} {dp : Int} {r : Int} {n0 : Int} {x : Int} {y : Int} {ns : Int} {cl : Int} (n18 : ab_n0 = 18) (csl : 0 ≤ m_slot ∧ m_slot ≤ 5) (ch : 0 ≤ dp ∧ dp ≤ 31 ∧ 0 ≤ r ∧ r + 32 ≤ 40000 ∧ 0 ≤ n0 ∧ n0 + dp + 1 ≤ 12500 ∧ 0 ≤ x ∧ x + 32 ≤ r ∧ 0 ≤ y ∧ y + 32 ≤ r) (jf_x : rokk RO0 x (dp + 1) n0) (jf_y : rokk RO0 y (dp + 1) n0) (hd : 2 ≤ d) : ∀ (mz : Nat) {G : ab_G} {i_ : Int} {RO : Int → Int} {T : Int → Int} {N : Int → Int} {W : Int → Int} {SN : Int → Int}, (cc o G 80 280 (ab_ob 12 (mof m_thrown m_taped m_length m_out m_wide m_gathered m_sets m_ranges m_nodes m_at m_flags m_fault m_place m_numbered m_depth m_value m_isNot m_least0 m_most0 m_slot m_work m_got m_rowMany m_charAt m_charWide m_trail m_isMatch m_matchGroups m_allFrom m_allBefore m_founds m_pieces m_writtenMany m_templateWide m_tooMuch))) → (cc o G 133 333 (za 40000 RO)) → (cc o G 118 318 (za 75000 T)) → (cc o G 119 319 (za 75000 N)) → (cc o G 120 320 (za 75000 W)) → (cc o G 117 317 (za 6 SN)) → (0 ≤ i_ ∧ i_ ≤ dp + 1 ∧ n0 ≤ (SN m_slot) ∧ (SN m_slot) ≤ n0 + i_) → (rgs RO 40000 0 12499) → (rgs T 75000 0 6) → (rgs N 75000 (-1) 12499) → (rgs W 75000 (-1) 12499) → (rgs SN 6 0 12500) → (rokk RO r i_ (SN m_slot)) → (rsm RO0 RO r) → (sgn T N W (12500 * m_slot) n0 (SN m_slot)) → (stx T0 N0 W0 CA CM T N W CA CM (12500 * m_slot) n0) → (sno SN0 SN m_slot) → (tka T W CA CM SM SA RL RH CL CH (12500 * m_slot) (SN m_slot) m_slot cl ns) → (rE T N W RO m_slot n0 (SN m_slot) r i_ 3 (fun i => RO0 (x + i)) (fun i => RO0 (y + i))) → (fx o o [333, 318, 319, 320, 317] G0 G) → (G.length = G0.length) → (ab_slots G = ab_slots G0) → (Int.toNat (dp + 1 - i_) < mz) → (∀ (G2 : ab_G) (RO2 : Int → Int) (T2 : Int → Int) (N2 : Int → Int) (W2 : Int → Int) (SN2 : Int → Int), (cc o G2 133 333 (za 40000 RO2)) → (cc o G2 118 318 (za 75000 T2)) → (cc o G2 119 319 (za 75000 N2)) → (cc o G2 120 320 (za 75000 W2)) → (cc o G2 117 317 (za 6 SN2)) → (rgs RO2 40000 0 12499) → (rgs T2 75000 0 6) → (rgs N2 75000 (-1) 12499) → (rgs W2 75000 (-1) 12499) → (rgs SN2 6 0 12500) → (n0 ≤ SN2 m_slot ∧ SN2 m_slot ≤ n0 + dp + 1) → (rokk RO2 r (dp + 1) (SN2 m_slot)) → (rsm RO0 RO2 r) → (sgn T2 N2 W2 (12500 * m_slot) n0 (SN2 m_slot)) → (stx T0 N0 W0 CA CM T2 N2 W2 CA CM (12500 * m_slot) n0) → (sno SN0 SN2 m_slot) → (tka T2 W2 CA CM SM SA RL RH CL CH (12500 * m_slot) (SN2 m_slot) m_slot cl ns) → (rE T2 N2 W2 RO2 m_slot n0 (SN2 m_slot) r (dp + 1) 3 (fun i => RO0 (x + i)) (fun i => RO0 (y + i))) → (fx o o [333, 318, 319, 320, 317] G0 G2) → (G2.length = G0.length) → (ab_slots G2 = ab_slots G0) → ab_W X (ab_pl y_MO_eachOf b_MO_eachOf 6 (some (.int))) d G2 120 [some (vR 80), none, none, none, some (vz r), none] [] Q) → ab_W X (ab_pl y_MO_eachOf b_MO_eachOf 6 (some (.int))) d G 9 [some (vR 80), some (vz x), some (vz y), some (vz dp), some (vz r), some (vz i_)] [] Q := by
  intro mz
  induction mz with
  | zero => intro G i_ RO T N W SN h80 h133 h118 h119 h120 h117 ci gro gt gn gw gsn jr js jg jx jo jk jE hfr hlen hsl hm hk0; exact absurd hm (Nat.not_lt_zero _)
  | succ mz ih =>
    intro G i_ RO T N W SN h80 h133 h118 h119 h120 h117 ci gro gt gn gw gsn jr js jg jx jo jk jE hfr hlen hsl hm hk0
    refine ab_iload d_MO_eachOf_9 rfl ?_
    refine ab_iload_n d_MO_eachOf_11 rfl ?_
    refine zz_icmp_gt (tgt := 120) d_MO_eachOf_12 (by decide) (by omega) (by omega) (fun c1 => ?_) (fun c1 => ?_)
    · refine ab_less (L' := [some (vR 80), none, none, none, some (vz r), none]) (fun i v h => by rcases i with _ | _ | _ | _ | _ | _ | i <;> first | exact h | (simp at h)) ?_
      exact hk0 _ _ _ _ _ _ h133 h118 h119 h120 h117 (by first | exact gro | exact rgs_w gro (by omega)) (by first | exact gt | exact rgs_w gt (by omega)) (by first | exact gn | exact rgs_w gn (by omega)) (by first | exact gw | exact rgs_w gw (by omega)) (by first | exact gsn | exact rgs_w gsn (by omega)) (by omega) (by exact (show i_ = dp + 1 by omega) ▸ jr) (by exact js) (by exact jg) (by exact jx) (by exact jo) (by exact jk) (by exact (show i_ = dp + 1 by omega) ▸ jE) hfr hlen hsl
    · have hs0_ := (rokk_o jf_x js (by omega)) i_ (by omega) (by omega)
      have hs1_ := (rokk_o jf_y js (by omega)) i_ (by omega) (by omega)
      refine ab_aload_n d_MO_eachOf_15 rfl ?_
      refine ab_getf (fs := mof m_thrown m_taped m_length m_out m_wide m_gathered m_sets m_ranges m_nodes m_at m_flags m_fault m_place m_numbered m_depth m_value m_isNot m_least0 m_most0 m_slot m_work m_got m_rowMany m_charAt m_charWide m_trail m_isMatch m_matchGroups m_allFrom m_allBefore m_founds m_pieces m_writtenMany m_templateWide m_tooMuch) f_MO_174 d_MO_eachOf_16 h80.2.2 rfl ?_
      refine ab_iload d_MO_eachOf_19 rfl ?_
      refine ab_iload d_MO_eachOf_21 rfl ?_
      refine zz_iadd d_MO_eachOf_23 ?_
      refine ab_iload d_MO_eachOf_24 rfl ?_
      refine zz_if_le (tgt := 90) d_MO_eachOf_26 (by decide) (by omega) (fun c2 => ?_) (fun c2 => ?_)
      · refine ab_aload_n d_MO_eachOf_90 rfl ?_
        refine zz_iconst d_MO_eachOf_91 ?_
        refine ab_aload_n d_MO_eachOf_92 rfl ?_
        refine ab_getf (fs := mof m_thrown m_taped m_length m_out m_wide m_gathered m_sets m_ranges m_nodes m_at m_flags m_fault m_place m_numbered m_depth m_value m_isNot m_least0 m_most0 m_slot m_work m_got m_rowMany m_charAt m_charWide m_trail m_isMatch m_matchGroups m_allFrom m_allBefore m_founds m_pieces m_writtenMany m_templateWide m_tooMuch) f_MO_174 d_MO_eachOf_93 h80.2.2 rfl ?_
        refine ab_iload_n d_MO_eachOf_96 rfl ?_
        refine ab_iload d_MO_eachOf_97 rfl ?_
        refine zz_iadd d_MO_eachOf_99 ?_
        refine zz_iald d_MO_eachOf_100 h133 (by omega) ?_
        refine ab_aload_n d_MO_eachOf_101 rfl ?_
        refine ab_getf (fs := mof m_thrown m_taped m_length m_out m_wide m_gathered m_sets m_ranges m_nodes m_at m_flags m_fault m_place m_numbered m_depth m_value m_isNot m_least0 m_most0 m_slot m_work m_got m_rowMany m_charAt m_charWide m_trail m_isMatch m_matchGroups m_allFrom m_allBefore m_founds m_pieces m_writtenMany m_templateWide m_tooMuch) f_MO_174 d_MO_eachOf_102 h80.2.2 rfl ?_
        refine ab_iload_n d_MO_eachOf_105 rfl ?_
        refine ab_iload d_MO_eachOf_106 rfl ?_
        refine zz_iadd d_MO_eachOf_108 ?_
        refine zz_iald d_MO_eachOf_109 h133 (by omega) ?_
        refine ab_callV (d' := d - 1) (as := [vz 3, vz (RO (x + i_)), vz (RO (y + i_))]) (st := [vz (r + i_), vR 133]) (r := _) (z_MO_addStep (o := o) (m_thrown := m_thrown) (m_taped := m_taped) (m_length := m_length) (m_out := m_out) (m_wide := m_wide) (m_gathered := m_gathered) (m_sets := m_sets) (m_ranges := m_ranges) (m_nodes := m_nodes) (m_at := m_at) (m_flags := m_flags) (m_fault := m_fault) (m_place := m_place) (m_numbered := m_numbered) (m_depth := m_depth) (m_value := m_value) (m_isNot := m_isNot) (m_least0 := m_least0) (m_most0 := m_most0) (m_slot := m_slot) (m_work := m_work) (m_got := m_got) (m_rowMany := m_rowMany) (m_charAt := m_charAt) (m_charWide := m_charWide) (m_trail := m_trail) (m_isMatch := m_isMatch) (m_matchGroups := m_matchGroups) (m_allFrom := m_allFrom) (m_allBefore := m_allBefore) (m_founds := m_founds) (m_pieces := m_pieces) (m_writtenMany := m_writtenMany) (m_templateWide := m_templateWide) (m_tooMuch := m_tooMuch) (T := T) (N := N) (W := W) (SN := SN) (k := 3) (x := (RO (x + i_))) (y := (RO (y + i_))) h80 h118 h119 h120 h117 (by omega) (by omega) (by omega)) (fun oc G2 h => by rcases h with ⟨h, _⟩ <;> exact ⟨_, h⟩) (by omega) m_MO_addStep ml_MO_441 im_MO_addStep se_MO_addStep c_MO h80.2.2 (Nat.le_of_ble_eq_true rfl) d_MO_eachOf_110 rfl ?_
        intro v G3 hq
        rcases hq with ⟨hv, hfk, hlk, hsk, hN118, hN119, hN120, hN117⟩
        cases hv
        have h80 := hfk.get h80 (by decide)
        have h133 := hfk.get h133 (by decide)
        have hfr := hfr.tr hfk (by decide)
        have hlen := hlk.trans hlen
        have hsl := hsk.trans hsl
        have h118 := hN118
        have h119 := hN119
        have h120 := hN120
        have h117 := hN117
        change ab_W _ _ _ G3 113 [some (vR 80), some (vz x), some (vz y), some (vz dp), some (vz r), some (vz i_)] [vz (SN m_slot), vz (r + i_), vR 133] _
        have hsn_ : zu SN m_slot ((SN m_slot) + 1) m_slot = (SN m_slot) + 1 := zu_self _ _ _
        refine zz_iast d_MO_eachOf_113 h133 (by omega) (h133.2.1 (by decide)) ?_
        obtain ⟨G4, eG4⟩ : ∃ z : ab_G, z = List.set G3 133 (za 40000 (zu RO (r + i_) (SN m_slot))) := ⟨_, rfl⟩
        have h80 := h80.keep h133 eG4 (by decide)
        have h118 := h118.keep h133 eG4 (by decide)
        have h119 := h119.keep h133 eG4 (by decide)
        have h120 := h120.keep h133 eG4 (by decide)
        have h117 := h117.keep h133 eG4 (by decide)
        have hlen := (z_len eG4).trans hlen
        have hsl := (z_sl h133 eG4 rfl).trans hsl
        have hfr := hfr.wr h133 eG4 (by decide)
        have h133 := h133.kept eG4
        change ab_W _ _ _ (List.set G3 133 (za 40000 (zu RO (r + i_) (SN m_slot)))) 114 [some (vR 80), some (vz x), some (vz y), some (vz dp), some (vz r), some (vz i_)] [] _
        rw [← eG4]
        refine zz_iinc d_MO_eachOf_114 rfl (Nat.le_of_ble_eq_true rfl) (Nat.le_of_ble_eq_true rfl) rfl ?_
        change ab_W _ _ _ G4 117 [some (vR 80), some (vz x), some (vz y), some (vz dp), some (vz r), some (vz (i_ + 1))] [] _
        refine ab_goto (tgt := 9) d_MO_eachOf_117 (by decide) ?_
        exact ih (i_ := (i_ + 1)) (RO := (zu RO (r + i_) (SN m_slot))) (T := (zu T ((12500 * m_slot) + (SN m_slot)) 3)) (N := (zu N ((12500 * m_slot) + (SN m_slot)) (RO (x + i_)))) (W := (zu W ((12500 * m_slot) + (SN m_slot)) (RO (y + i_)))) (SN := (zu SN m_slot ((SN m_slot) + 1))) h80 h133 h118 h119 h120 h117 (by omega) (rgs_zu gro (by omega)) (rgs_zu gt (by omega)) (rgs_zu gn (by omega)) (rgs_zu gw (by omega)) (rgs_zu gsn (by omega)) (by rw [hsn_]; exact rokk_s (rokk_w jr (Int.le_refl _) (by omega)) (by omega) (by omega)) (rsm_wr js (by omega)) (by rw [hsn_]; exact sgn_add jg (by omega) (by omega) (by omega) (by omega) (by omega)) (stx_add jx (by omega)) (sno_wr jo) (by rw [hsn_]; exact tka_add (k2 := 0) jk (by omega)) (by rw [hsn_]; exact rE_add jE (by omega) (js (x + i_) (by omega)) (js (y + i_) (by omega)) (by omega)) hfr hlen hsl (by omega) hk0
      · have hp0_ := (rokk_o jf_x js (by omega)) (i_ - 1) (by omega) (by omega)
        rw [show x + (i_ - 1) = x + i_ - 1 by omega] at hp0_
        have hp1_ := (rokk_o jf_y js (by omega)) (i_ - 1) (by omega) (by omega)
        rw [show y + (i_ - 1) = y + i_ - 1 by omega] at hp1_
        have hpr_ := jr (i_ - 1) (by omega) (by omega)
        rw [show r + (i_ - 1) = r + i_ - 1 by omega] at hpr_
        refine ab_aload_n d_MO_eachOf_29 rfl ?_
        refine ab_getf (fs := mof m_thrown m_taped m_length m_out m_wide m_gathered m_sets m_ranges m_nodes m_at m_flags m_fault m_place m_numbered m_depth m_value m_isNot m_least0 m_most0 m_slot m_work m_got m_rowMany m_charAt m_charWide m_trail m_isMatch m_matchGroups m_allFrom m_allBefore m_founds m_pieces m_writtenMany m_templateWide m_tooMuch) f_MO_174 d_MO_eachOf_30 h80.2.2 rfl ?_
        refine ab_iload_n d_MO_eachOf_33 rfl ?_
        refine ab_iload d_MO_eachOf_34 rfl ?_
        refine zz_iadd d_MO_eachOf_36 ?_
        refine zz_iald d_MO_eachOf_37 h133 (by omega) ?_
        refine ab_aload_n d_MO_eachOf_38 rfl ?_
        refine ab_getf (fs := mof m_thrown m_taped m_length m_out m_wide m_gathered m_sets m_ranges m_nodes m_at m_flags m_fault m_place m_numbered m_depth m_value m_isNot m_least0 m_most0 m_slot m_work m_got m_rowMany m_charAt m_charWide m_trail m_isMatch m_matchGroups m_allFrom m_allBefore m_founds m_pieces m_writtenMany m_templateWide m_tooMuch) f_MO_174 d_MO_eachOf_39 h80.2.2 rfl ?_
        refine ab_iload_n d_MO_eachOf_42 rfl ?_
        refine ab_iload d_MO_eachOf_43 rfl ?_
        refine zz_iadd d_MO_eachOf_45 ?_
        refine zz_iconst d_MO_eachOf_46 ?_
        refine zz_isub d_MO_eachOf_47 ?_
        refine zz_iald d_MO_eachOf_48 h133 (by omega) ?_
        refine zz_icmp_ne (tgt := 90) d_MO_eachOf_49 (by decide) (by omega) (by omega) (fun c5 => ?_) (fun c5 => ?_)
        · refine ab_aload_n d_MO_eachOf_90 rfl ?_
          refine zz_iconst d_MO_eachOf_91 ?_
          refine ab_aload_n d_MO_eachOf_92 rfl ?_
          refine ab_getf (fs := mof m_thrown m_taped m_length m_out m_wide m_gathered m_sets m_ranges m_nodes m_at m_flags m_fault m_place m_numbered m_depth m_value m_isNot m_least0 m_most0 m_slot m_work m_got m_rowMany m_charAt m_charWide m_trail m_isMatch m_matchGroups m_allFrom m_allBefore m_founds m_pieces m_writtenMany m_templateWide m_tooMuch) f_MO_174 d_MO_eachOf_93 h80.2.2 rfl ?_
          refine ab_iload_n d_MO_eachOf_96 rfl ?_
          refine ab_iload d_MO_eachOf_97 rfl ?_
          refine zz_iadd d_MO_eachOf_99 ?_
          refine zz_iald d_MO_eachOf_100 h133 (by omega) ?_
          refine ab_aload_n d_MO_eachOf_101 rfl ?_
          refine ab_getf (fs := mof m_thrown m_taped m_length m_out m_wide m_gathered m_sets m_ranges m_nodes m_at m_flags m_fault m_place m_numbered m_depth m_value m_isNot m_least0 m_most0 m_slot m_work m_got m_rowMany m_charAt m_charWide m_trail m_isMatch m_matchGroups m_allFrom m_allBefore m_founds m_pieces m_writtenMany m_templateWide m_tooMuch) f_MO_174 d_MO_eachOf_102 h80.2.2 rfl ?_
          refine ab_iload_n d_MO_eachOf_105 rfl ?_
          refine ab_iload d_MO_eachOf_106 rfl ?_
          refine zz_iadd d_MO_eachOf_108 ?_
          refine zz_iald d_MO_eachOf_109 h133 (by omega) ?_
          refine ab_callV (d' := d - 1) (as := [vz 3, vz (RO (x + i_)), vz (RO (y + i_))]) (st := [vz (r + i_), vR 133]) (r := _) (z_MO_addStep (o := o) (m_thrown := m_thrown) (m_taped := m_taped) (m_length := m_length) (m_out := m_out) (m_wide := m_wide) (m_gathered := m_gathered) (m_sets := m_sets) (m_ranges := m_ranges) (m_nodes := m_nodes) (m_at := m_at) (m_flags := m_flags) (m_fault := m_fault) (m_place := m_place) (m_numbered := m_numbered) (m_depth := m_depth) (m_value := m_value) (m_isNot := m_isNot) (m_least0 := m_least0) (m_most0 := m_most0) (m_slot := m_slot) (m_work := m_work) (m_got := m_got) (m_rowMany := m_rowMany) (m_charAt := m_charAt) (m_charWide := m_charWide) (m_trail := m_trail) (m_isMatch := m_isMatch) (m_matchGroups := m_matchGroups) (m_allFrom := m_allFrom) (m_allBefore := m_allBefore) (m_founds := m_founds) (m_pieces := m_pieces) (m_writtenMany := m_writtenMany) (m_templateWide := m_templateWide) (m_tooMuch := m_tooMuch) (T := T) (N := N) (W := W) (SN := SN) (k := 3) (x := (RO (x + i_))) (y := (RO (y + i_))) h80 h118 h119 h120 h117 (by omega) (by omega) (by omega)) (fun oc G2 h => by rcases h with ⟨h, _⟩ <;> exact ⟨_, h⟩) (by omega) m_MO_addStep ml_MO_441 im_MO_addStep se_MO_addStep c_MO h80.2.2 (Nat.le_of_ble_eq_true rfl) d_MO_eachOf_110 rfl ?_
          intro v G6 hq
          rcases hq with ⟨hv, hfk, hlk, hsk, hN118, hN119, hN120, hN117⟩
          cases hv
          have h80 := hfk.get h80 (by decide)
          have h133 := hfk.get h133 (by decide)
          have hfr := hfr.tr hfk (by decide)
          have hlen := hlk.trans hlen
          have hsl := hsk.trans hsl
          have h118 := hN118
          have h119 := hN119
          have h120 := hN120
          have h117 := hN117
          change ab_W _ _ _ G6 113 [some (vR 80), some (vz x), some (vz y), some (vz dp), some (vz r), some (vz i_)] [vz (SN m_slot), vz (r + i_), vR 133] _
          have hsn_ : zu SN m_slot ((SN m_slot) + 1) m_slot = (SN m_slot) + 1 := zu_self _ _ _
          refine zz_iast d_MO_eachOf_113 h133 (by omega) (h133.2.1 (by decide)) ?_
          obtain ⟨G7, eG7⟩ : ∃ z : ab_G, z = List.set G6 133 (za 40000 (zu RO (r + i_) (SN m_slot))) := ⟨_, rfl⟩
          have h80 := h80.keep h133 eG7 (by decide)
          have h118 := h118.keep h133 eG7 (by decide)
          have h119 := h119.keep h133 eG7 (by decide)
          have h120 := h120.keep h133 eG7 (by decide)
          have h117 := h117.keep h133 eG7 (by decide)
          have hlen := (z_len eG7).trans hlen
          have hsl := (z_sl h133 eG7 rfl).trans hsl
          have hfr := hfr.wr h133 eG7 (by decide)
          have h133 := h133.kept eG7
          change ab_W _ _ _ (List.set G6 133 (za 40000 (zu RO (r + i_) (SN m_slot)))) 114 [some (vR 80), some (vz x), some (vz y), some (vz dp), some (vz r), some (vz i_)] [] _
          rw [← eG7]
          refine zz_iinc d_MO_eachOf_114 rfl (Nat.le_of_ble_eq_true rfl) (Nat.le_of_ble_eq_true rfl) rfl ?_
          change ab_W _ _ _ G7 117 [some (vR 80), some (vz x), some (vz y), some (vz dp), some (vz r), some (vz (i_ + 1))] [] _
          refine ab_goto (tgt := 9) d_MO_eachOf_117 (by decide) ?_
          exact ih (i_ := (i_ + 1)) (RO := (zu RO (r + i_) (SN m_slot))) (T := (zu T ((12500 * m_slot) + (SN m_slot)) 3)) (N := (zu N ((12500 * m_slot) + (SN m_slot)) (RO (x + i_)))) (W := (zu W ((12500 * m_slot) + (SN m_slot)) (RO (y + i_)))) (SN := (zu SN m_slot ((SN m_slot) + 1))) h80 h133 h118 h119 h120 h117 (by omega) (rgs_zu gro (by omega)) (rgs_zu gt (by omega)) (rgs_zu gn (by omega)) (rgs_zu gw (by omega)) (rgs_zu gsn (by omega)) (by rw [hsn_]; exact rokk_s (rokk_w jr (Int.le_refl _) (by omega)) (by omega) (by omega)) (rsm_wr js (by omega)) (by rw [hsn_]; exact sgn_add jg (by omega) (by omega) (by omega) (by omega) (by omega)) (stx_add jx (by omega)) (sno_wr jo) (by rw [hsn_]; exact tka_add (k2 := 0) jk (by omega)) (by rw [hsn_]; exact rE_add jE (by omega) (js (x + i_) (by omega)) (js (y + i_) (by omega)) (by omega)) hfr hlen hsl (by omega) hk0
        · refine ab_aload_n d_MO_eachOf_52 rfl ?_
          refine ab_getf (fs := mof m_thrown m_taped m_length m_out m_wide m_gathered m_sets m_ranges m_nodes m_at m_flags m_fault m_place m_numbered m_depth m_value m_isNot m_least0 m_most0 m_slot m_work m_got m_rowMany m_charAt m_charWide m_trail m_isMatch m_matchGroups m_allFrom m_allBefore m_founds m_pieces m_writtenMany m_templateWide m_tooMuch) f_MO_174 d_MO_eachOf_53 h80.2.2 rfl ?_
          refine ab_iload_n d_MO_eachOf_56 rfl ?_
          refine ab_iload d_MO_eachOf_57 rfl ?_
          refine zz_iadd d_MO_eachOf_59 ?_
          refine zz_iald d_MO_eachOf_60 h133 (by omega) ?_
          refine ab_aload_n d_MO_eachOf_61 rfl ?_
          refine ab_getf (fs := mof m_thrown m_taped m_length m_out m_wide m_gathered m_sets m_ranges m_nodes m_at m_flags m_fault m_place m_numbered m_depth m_value m_isNot m_least0 m_most0 m_slot m_work m_got m_rowMany m_charAt m_charWide m_trail m_isMatch m_matchGroups m_allFrom m_allBefore m_founds m_pieces m_writtenMany m_templateWide m_tooMuch) f_MO_174 d_MO_eachOf_62 h80.2.2 rfl ?_
          refine ab_iload_n d_MO_eachOf_65 rfl ?_
          refine ab_iload d_MO_eachOf_66 rfl ?_
          refine zz_iadd d_MO_eachOf_68 ?_
          refine zz_iconst d_MO_eachOf_69 ?_
          refine zz_isub d_MO_eachOf_70 ?_
          refine zz_iald d_MO_eachOf_71 h133 (by omega) ?_
          refine zz_icmp_ne (tgt := 90) d_MO_eachOf_72 (by decide) (by omega) (by omega) (fun c8 => ?_) (fun c8 => ?_)
          · refine ab_aload_n d_MO_eachOf_90 rfl ?_
            refine zz_iconst d_MO_eachOf_91 ?_
            refine ab_aload_n d_MO_eachOf_92 rfl ?_
            refine ab_getf (fs := mof m_thrown m_taped m_length m_out m_wide m_gathered m_sets m_ranges m_nodes m_at m_flags m_fault m_place m_numbered m_depth m_value m_isNot m_least0 m_most0 m_slot m_work m_got m_rowMany m_charAt m_charWide m_trail m_isMatch m_matchGroups m_allFrom m_allBefore m_founds m_pieces m_writtenMany m_templateWide m_tooMuch) f_MO_174 d_MO_eachOf_93 h80.2.2 rfl ?_
            refine ab_iload_n d_MO_eachOf_96 rfl ?_
            refine ab_iload d_MO_eachOf_97 rfl ?_
            refine zz_iadd d_MO_eachOf_99 ?_
            refine zz_iald d_MO_eachOf_100 h133 (by omega) ?_
            refine ab_aload_n d_MO_eachOf_101 rfl ?_
            refine ab_getf (fs := mof m_thrown m_taped m_length m_out m_wide m_gathered m_sets m_ranges m_nodes m_at m_flags m_fault m_place m_numbered m_depth m_value m_isNot m_least0 m_most0 m_slot m_work m_got m_rowMany m_charAt m_charWide m_trail m_isMatch m_matchGroups m_allFrom m_allBefore m_founds m_pieces m_writtenMany m_templateWide m_tooMuch) f_MO_174 d_MO_eachOf_102 h80.2.2 rfl ?_
            refine ab_iload_n d_MO_eachOf_105 rfl ?_
            refine ab_iload d_MO_eachOf_106 rfl ?_
            refine zz_iadd d_MO_eachOf_108 ?_
            refine zz_iald d_MO_eachOf_109 h133 (by omega) ?_
            refine ab_callV (d' := d - 1) (as := [vz 3, vz (RO (x + i_)), vz (RO (y + i_))]) (st := [vz (r + i_), vR 133]) (r := _) (z_MO_addStep (o := o) (m_thrown := m_thrown) (m_taped := m_taped) (m_length := m_length) (m_out := m_out) (m_wide := m_wide) (m_gathered := m_gathered) (m_sets := m_sets) (m_ranges := m_ranges) (m_nodes := m_nodes) (m_at := m_at) (m_flags := m_flags) (m_fault := m_fault) (m_place := m_place) (m_numbered := m_numbered) (m_depth := m_depth) (m_value := m_value) (m_isNot := m_isNot) (m_least0 := m_least0) (m_most0 := m_most0) (m_slot := m_slot) (m_work := m_work) (m_got := m_got) (m_rowMany := m_rowMany) (m_charAt := m_charAt) (m_charWide := m_charWide) (m_trail := m_trail) (m_isMatch := m_isMatch) (m_matchGroups := m_matchGroups) (m_allFrom := m_allFrom) (m_allBefore := m_allBefore) (m_founds := m_founds) (m_pieces := m_pieces) (m_writtenMany := m_writtenMany) (m_templateWide := m_templateWide) (m_tooMuch := m_tooMuch) (T := T) (N := N) (W := W) (SN := SN) (k := 3) (x := (RO (x + i_))) (y := (RO (y + i_))) h80 h118 h119 h120 h117 (by omega) (by omega) (by omega)) (fun oc G2 h => by rcases h with ⟨h, _⟩ <;> exact ⟨_, h⟩) (by omega) m_MO_addStep ml_MO_441 im_MO_addStep se_MO_addStep c_MO h80.2.2 (Nat.le_of_ble_eq_true rfl) d_MO_eachOf_110 rfl ?_
            intro v G9 hq
            rcases hq with ⟨hv, hfk, hlk, hsk, hN118, hN119, hN120, hN117⟩
            cases hv
            have h80 := hfk.get h80 (by decide)
            have h133 := hfk.get h133 (by decide)
            have hfr := hfr.tr hfk (by decide)
            have hlen := hlk.trans hlen
            have hsl := hsk.trans hsl
            have h118 := hN118
            have h119 := hN119
            have h120 := hN120
            have h117 := hN117
            change ab_W _ _ _ G9 113 [some (vR 80), some (vz x), some (vz y), some (vz dp), some (vz r), some (vz i_)] [vz (SN m_slot), vz (r + i_), vR 133] _
            have hsn_ : zu SN m_slot ((SN m_slot) + 1) m_slot = (SN m_slot) + 1 := zu_self _ _ _
            refine zz_iast d_MO_eachOf_113 h133 (by omega) (h133.2.1 (by decide)) ?_
            obtain ⟨G10, eG10⟩ : ∃ z : ab_G, z = List.set G9 133 (za 40000 (zu RO (r + i_) (SN m_slot))) := ⟨_, rfl⟩
            have h80 := h80.keep h133 eG10 (by decide)
            have h118 := h118.keep h133 eG10 (by decide)
            have h119 := h119.keep h133 eG10 (by decide)
            have h120 := h120.keep h133 eG10 (by decide)
            have h117 := h117.keep h133 eG10 (by decide)
            have hlen := (z_len eG10).trans hlen
            have hsl := (z_sl h133 eG10 rfl).trans hsl
            have hfr := hfr.wr h133 eG10 (by decide)
            have h133 := h133.kept eG10
            change ab_W _ _ _ (List.set G9 133 (za 40000 (zu RO (r + i_) (SN m_slot)))) 114 [some (vR 80), some (vz x), some (vz y), some (vz dp), some (vz r), some (vz i_)] [] _
            rw [← eG10]
            refine zz_iinc d_MO_eachOf_114 rfl (Nat.le_of_ble_eq_true rfl) (Nat.le_of_ble_eq_true rfl) rfl ?_
            change ab_W _ _ _ G10 117 [some (vR 80), some (vz x), some (vz y), some (vz dp), some (vz r), some (vz (i_ + 1))] [] _
            refine ab_goto (tgt := 9) d_MO_eachOf_117 (by decide) ?_
            exact ih (i_ := (i_ + 1)) (RO := (zu RO (r + i_) (SN m_slot))) (T := (zu T ((12500 * m_slot) + (SN m_slot)) 3)) (N := (zu N ((12500 * m_slot) + (SN m_slot)) (RO (x + i_)))) (W := (zu W ((12500 * m_slot) + (SN m_slot)) (RO (y + i_)))) (SN := (zu SN m_slot ((SN m_slot) + 1))) h80 h133 h118 h119 h120 h117 (by omega) (rgs_zu gro (by omega)) (rgs_zu gt (by omega)) (rgs_zu gn (by omega)) (rgs_zu gw (by omega)) (rgs_zu gsn (by omega)) (by rw [hsn_]; exact rokk_s (rokk_w jr (Int.le_refl _) (by omega)) (by omega) (by omega)) (rsm_wr js (by omega)) (by rw [hsn_]; exact sgn_add jg (by omega) (by omega) (by omega) (by omega) (by omega)) (stx_add jx (by omega)) (sno_wr jo) (by rw [hsn_]; exact tka_add (k2 := 0) jk (by omega)) (by rw [hsn_]; exact rE_add jE (by omega) (js (x + i_) (by omega)) (js (y + i_) (by omega)) (by omega)) hfr hlen hsl (by omega) hk0
          · refine ab_aload_n d_MO_eachOf_75 rfl ?_
            refine ab_getf (fs := mof m_thrown m_taped m_length m_out m_wide m_gathered m_sets m_ranges m_nodes m_at m_flags m_fault m_place m_numbered m_depth m_value m_isNot m_least0 m_most0 m_slot m_work m_got m_rowMany m_charAt m_charWide m_trail m_isMatch m_matchGroups m_allFrom m_allBefore m_founds m_pieces m_writtenMany m_templateWide m_tooMuch) f_MO_174 d_MO_eachOf_76 h80.2.2 rfl ?_
            refine ab_iload d_MO_eachOf_79 rfl ?_
            refine ab_iload d_MO_eachOf_81 rfl ?_
            refine zz_iadd d_MO_eachOf_83 ?_
            refine zz_iconst d_MO_eachOf_84 ?_
            refine zz_isub d_MO_eachOf_85 ?_
            refine zz_iald d_MO_eachOf_86 h133 (by omega) ?_
            refine ab_goto (tgt := 113) d_MO_eachOf_87 (by decide) ?_
            have hsn_ : zu SN m_slot ((SN m_slot) + 1) m_slot = (SN m_slot) + 1 := zu_self _ _ _
            refine zz_iast d_MO_eachOf_113 h133 (by omega) (h133.2.1 (by decide)) ?_
            obtain ⟨G11, eG11⟩ : ∃ z : ab_G, z = List.set G 133 (za 40000 (zu RO (r + i_) (RO ((r + i_) - 1)))) := ⟨_, rfl⟩
            have h80 := h80.keep h133 eG11 (by decide)
            have h118 := h118.keep h133 eG11 (by decide)
            have h119 := h119.keep h133 eG11 (by decide)
            have h120 := h120.keep h133 eG11 (by decide)
            have h117 := h117.keep h133 eG11 (by decide)
            have hlen := (z_len eG11).trans hlen
            have hsl := (z_sl h133 eG11 rfl).trans hsl
            have hfr := hfr.wr h133 eG11 (by decide)
            have h133 := h133.kept eG11
            change ab_W _ _ _ (List.set G 133 (za 40000 (zu RO (r + i_) (RO ((r + i_) - 1))))) 114 [some (vR 80), some (vz x), some (vz y), some (vz dp), some (vz r), some (vz i_)] [] _
            rw [← eG11]
            refine zz_iinc d_MO_eachOf_114 rfl (Nat.le_of_ble_eq_true rfl) (Nat.le_of_ble_eq_true rfl) rfl ?_
            change ab_W _ _ _ G11 117 [some (vR 80), some (vz x), some (vz y), some (vz dp), some (vz r), some (vz (i_ + 1))] [] _
            refine ab_goto (tgt := 9) d_MO_eachOf_117 (by decide) ?_
            exact ih (i_ := (i_ + 1)) (RO := (zu RO (r + i_) (RO ((r + i_) - 1)))) (T := T) (N := N) (W := W) (SN := SN) h80 h133 h118 h119 h120 h117 (by omega) (rgs_zu gro (by omega)) gt gn gw gsn (rokk_s jr (by omega) (by omega)) (rsm_wr js (by omega)) jg jx jo jk (rE_same jE (by omega) rfl (by have a_ := js (x + i_) (by omega); have b_ := js (x + i_ - 1) (by omega); show RO0 (x + i_) = RO0 (x + (i_ - 1)); rw [show x + (i_ - 1) = x + i_ - 1 by omega]; omega) (by have a_ := js (y + i_) (by omega); have b_ := js (y + i_ - 1) (by omega); show RO0 (y + i_) = RO0 (y + (i_ - 1)); rw [show y + (i_ - 1) = y + i_ - 1 by omega]; omega)) hfr hlen hsl (by omega) hk0
set_option maxRecDepth 100000 in
set_option maxHeartbeats 4000000 in
theorem z_MO_eachOf {X : ab_X} {d : Nat} {o : Nat → Nat} {G : ab_G} {m_thrown : Int} {m_taped : Int} {m_length : Int} {m_out : Int} {m_wide : Int} {m_gathered : Int} {m_sets : Int} {m_ranges : Int} {m_nodes : Int} {m_at : Int} {m_flags : Int} {m_fault : Int} {m_place : Int} {m_numbered : Int} {m_depth : Int} {m_value : Int} {m_isNot : Int} {m_least0 : Int} {m_most0 : Int} {m_slot : Int} {m_work : Int} {m_got : Int} {m_rowMany : Int} {m_charAt : Int} {m_charWide : Int} {m_trail : Int} {m_isMatch : Int} {m_matchGroups : Int} {m_allFrom : Int} {m_allBefore : Int} {m_founds : Int} {m_pieces : Int} {m_writtenMany : Int} {m_templateWide : Int} {m_tooMuch : Int} {T : Int → Int} {N : Int → Int} {W : Int → Int} {CA : Int → Int} {CM : Int → Int} {CL : Int → Int} {CH : Int → Int} {SN : Int → Int} {RO : Int → Int} {SM : Int → Int} {SA : Int → Int} {RL : Int → Int} {RH : Int → Int} {dp : Int} {x : Int} {y : Int} {ns : Int} {cl : Int} (h80 : cc o G 80 280 (ab_ob 12 (mof m_thrown m_taped m_length m_out m_wide m_gathered m_sets m_ranges m_nodes m_at m_flags m_fault m_place m_numbered m_depth m_value m_isNot m_least0 m_most0 m_slot m_work m_got m_rowMany m_charAt m_charWide m_trail m_isMatch m_matchGroups m_allFrom m_allBefore m_founds m_pieces m_writtenMany m_templateWide m_tooMuch))) (h133 : cc o G 133 333 (za 40000 RO)) (h118 : cc o G 118 318 (za 75000 T)) (h119 : cc o G 119 319 (za 75000 N)) (h120 : cc o G 120 320 (za 75000 W)) (h117 : cc o G 117 317 (za 6 SN)) (n18 : ab_n0 = 18) (csl : 0 ≤ m_slot ∧ m_slot ≤ 5) (cr : 0 ≤ m_rowMany ∧ m_rowMany ≤ 1249) (gro : rgs RO 40000 0 12499) (gt : rgs T 75000 0 6) (gn : rgs N 75000 (-1) 12499) (gw : rgs W 75000 (-1) 12499) (gsn : rgs SN 6 0 12500) (ch : 0 ≤ dp ∧ dp ≤ 31 ∧ 0 ≤ (SN m_slot) ∧ (SN m_slot) + dp + 1 ≤ 12500 ∧ 0 ≤ x ∧ x + 32 ≤ (32 * m_rowMany) ∧ 0 ≤ y ∧ y + 32 ≤ (32 * m_rowMany)) (jf_x : rokk RO x (dp + 1) (SN m_slot)) (jf_y : rokk RO y (dp + 1) (SN m_slot)) (jk : tka T W CA CM SM SA RL RH CL CH (12500 * m_slot) (SN m_slot) m_slot cl ns) (hd : 3 ≤ d) : ab_F X d y_MO_eachOf (.code y_MO_eachOf b_MO_eachOf 6 (some (.int))) [vR 80, vz x, vz y, vz dp] G (fun oc G2 => ∃ RO2 : Int → Int, ∃ T2 : Int → Int, ∃ N2 : Int → Int, ∃ W2 : Int → Int, ∃ SN2 : Int → Int, oc = .returned (some (vz (32 * m_rowMany))) ∧ fx o o [280, 333, 318, 319, 320, 317] G G2 ∧ G2.length = G.length ∧ ab_slots G2 = ab_slots G ∧ cc o G2 80 280 (ab_ob 12 (mof m_thrown m_taped m_length m_out m_wide m_gathered m_sets m_ranges m_nodes m_at m_flags m_fault m_place m_numbered m_depth m_value m_isNot m_least0 m_most0 m_slot m_work m_got (m_rowMany + 1) m_charAt m_charWide m_trail m_isMatch m_matchGroups m_allFrom m_allBefore m_founds m_pieces m_writtenMany m_templateWide m_tooMuch)) ∧ cc o G2 133 333 (za 40000 RO2) ∧ cc o G2 118 318 (za 75000 T2) ∧ cc o G2 119 319 (za 75000 N2) ∧ cc o G2 120 320 (za 75000 W2) ∧ cc o G2 117 317 (za 6 SN2) ∧ (rgs RO2 40000 0 12499) ∧ (rgs T2 75000 0 6) ∧ (rgs N2 75000 (-1) 12499) ∧ (rgs W2 75000 (-1) 12499) ∧ (rgs SN2 6 0 12500) ∧ ((SN m_slot) ≤ SN2 m_slot ∧ SN2 m_slot ≤ (SN m_slot) + dp + 1) ∧ (rokk RO2 (32 * m_rowMany) (dp + 1) (SN2 m_slot)) ∧ (rsm RO RO2 (32 * m_rowMany)) ∧ (sgn T2 N2 W2 (12500 * m_slot) (SN m_slot) (SN2 m_slot)) ∧ (stx T N W CA CM T2 N2 W2 CA CM (12500 * m_slot) (SN m_slot)) ∧ (sno SN SN2 m_slot) ∧ (tka T2 W2 CA CM SM SA RL RH CL CH (12500 * m_slot) (SN2 m_slot) m_slot cl ns) ∧ (rE T2 N2 W2 RO2 m_slot (SN m_slot) (SN2 m_slot) (32 * m_rowMany) (dp + 1) 3 (fun i => RO (x + i)) (fun i => RO (y + i)))) := by
  refine ab_F_of (by decide +kernel) (Nat.le_of_ble_eq_true rfl) ?_
  obtain ⟨Q, hQ⟩ : ∃ z : Outcome → ab_G → Prop, z = (fun oc G2 => ∃ RO2 : Int → Int, ∃ T2 : Int → Int, ∃ N2 : Int → Int, ∃ W2 : Int → Int, ∃ SN2 : Int → Int, oc = .returned (some (vz (32 * m_rowMany))) ∧ fx o o [280, 333, 318, 319, 320, 317] G G2 ∧ G2.length = G.length ∧ ab_slots G2 = ab_slots G ∧ cc o G2 80 280 (ab_ob 12 (mof m_thrown m_taped m_length m_out m_wide m_gathered m_sets m_ranges m_nodes m_at m_flags m_fault m_place m_numbered m_depth m_value m_isNot m_least0 m_most0 m_slot m_work m_got (m_rowMany + 1) m_charAt m_charWide m_trail m_isMatch m_matchGroups m_allFrom m_allBefore m_founds m_pieces m_writtenMany m_templateWide m_tooMuch)) ∧ cc o G2 133 333 (za 40000 RO2) ∧ cc o G2 118 318 (za 75000 T2) ∧ cc o G2 119 319 (za 75000 N2) ∧ cc o G2 120 320 (za 75000 W2) ∧ cc o G2 117 317 (za 6 SN2) ∧ (rgs RO2 40000 0 12499) ∧ (rgs T2 75000 0 6) ∧ (rgs N2 75000 (-1) 12499) ∧ (rgs W2 75000 (-1) 12499) ∧ (rgs SN2 6 0 12500) ∧ ((SN m_slot) ≤ SN2 m_slot ∧ SN2 m_slot ≤ (SN m_slot) + dp + 1) ∧ (rokk RO2 (32 * m_rowMany) (dp + 1) (SN2 m_slot)) ∧ (rsm RO RO2 (32 * m_rowMany)) ∧ (sgn T2 N2 W2 (12500 * m_slot) (SN m_slot) (SN2 m_slot)) ∧ (stx T N W CA CM T2 N2 W2 CA CM (12500 * m_slot) (SN m_slot)) ∧ (sno SN SN2 m_slot) ∧ (tka T2 W2 CA CM SM SA RL RH CL CH (12500 * m_slot) (SN2 m_slot) m_slot cl ns) ∧ (rE T2 N2 W2 RO2 m_slot (SN m_slot) (SN2 m_slot) (32 * m_rowMany) (dp + 1) 3 (fun i => RO (x + i)) (fun i => RO (y + i)))) := ⟨_, rfl⟩
  rw [← hQ]
  change ab_W X (ab_pl y_MO_eachOf b_MO_eachOf 6 (some (.int))) d G 0 [some (vR 80), some (vz x), some (vz y), some (vz dp), none, none] [] Q
  have hfr : fx o o [280, 333, 318, 319, 320, 317] G G := fx.rf
  have hlen : G.length = G.length := rfl
  have hsl : ab_slots G = ab_slots G := rfl
  refine ab_aload_n d_MO_eachOf_0 rfl ?_
  refine ab_callV (d' := d - 1) (as := []) (st := []) (r := _) (z_MO_row (o := o) (m_thrown := m_thrown) (m_taped := m_taped) (m_length := m_length) (m_out := m_out) (m_wide := m_wide) (m_gathered := m_gathered) (m_sets := m_sets) (m_ranges := m_ranges) (m_nodes := m_nodes) (m_at := m_at) (m_flags := m_flags) (m_fault := m_fault) (m_place := m_place) (m_numbered := m_numbered) (m_depth := m_depth) (m_value := m_value) (m_isNot := m_isNot) (m_least0 := m_least0) (m_most0 := m_most0) (m_slot := m_slot) (m_work := m_work) (m_got := m_got) (m_rowMany := m_rowMany) (m_charAt := m_charAt) (m_charWide := m_charWide) (m_trail := m_trail) (m_isMatch := m_isMatch) (m_matchGroups := m_matchGroups) (m_allFrom := m_allFrom) (m_allBefore := m_allBefore) (m_founds := m_founds) (m_pieces := m_pieces) (m_writtenMany := m_writtenMany) (m_templateWide := m_templateWide) (m_tooMuch := m_tooMuch) h80 (by omega) (by omega)) (fun oc G2 h => by rcases h with ⟨h, _⟩ <;> exact ⟨_, h⟩) (by omega) m_MO_row ml_MO_454 im_MO_row se_MO_row c_MO h80.2.2 (Nat.le_of_ble_eq_true rfl) d_MO_eachOf_1 rfl ?_
  intro v G1 hq
  rcases hq with ⟨hv, hfk, hlk, hsk, hN80⟩
  cases hv
  have h133 := hfk.get h133 (by decide)
  have h118 := hfk.get h118 (by decide)
  have h119 := hfk.get h119 (by decide)
  have h120 := hfk.get h120 (by decide)
  have h117 := hfk.get h117 (by decide)
  have hfr := hfr.tr hfk (by decide)
  have hlen := hlk.trans hlen
  have hsl := hsk.trans hsl
  have h80 := hN80
  change ab_W _ _ _ G1 4 [some (vR 80), some (vz x), some (vz y), some (vz dp), none, none] [vz (32 * m_rowMany)] _
  refine ab_istore d_MO_eachOf_4 (Nat.le_of_ble_eq_true rfl) (Nat.le_of_ble_eq_true rfl) rfl ?_
  change ab_W _ _ _ G1 6 [some (vR 80), some (vz x), some (vz y), some (vz dp), some (vz (32 * m_rowMany)), none] [] _
  refine zz_iconst d_MO_eachOf_6 ?_
  refine ab_istore d_MO_eachOf_7 (Nat.le_of_ble_eq_true rfl) (Nat.le_of_ble_eq_true rfl) rfl ?_
  change ab_W _ _ _ G1 9 [some (vR 80), some (vz x), some (vz y), some (vz dp), some (vz (32 * m_rowMany)), some (vz 0)] [] _
  refine y_MO_eachOf_9 (m_thrown := m_thrown) (m_taped := m_taped) (m_length := m_length) (m_out := m_out) (m_wide := m_wide) (m_gathered := m_gathered) (m_sets := m_sets) (m_ranges := m_ranges) (m_nodes := m_nodes) (m_at := m_at) (m_flags := m_flags) (m_fault := m_fault) (m_place := m_place) (m_numbered := m_numbered) (m_depth := m_depth) (m_value := m_value) (m_isNot := m_isNot) (m_least0 := m_least0) (m_most0 := m_most0) (m_slot := m_slot) (m_work := m_work) (m_got := m_got) (m_rowMany := (m_rowMany + 1)) (m_charAt := m_charAt) (m_charWide := m_charWide) (m_trail := m_trail) (m_isMatch := m_isMatch) (m_matchGroups := m_matchGroups) (m_allFrom := m_allFrom) (m_allBefore := m_allBefore) (m_founds := m_founds) (m_pieces := m_pieces) (m_writtenMany := m_writtenMany) (m_templateWide := m_templateWide) (m_tooMuch := m_tooMuch) (CA := CA) (CM := CM) (CL := CL) (CH := CH) (T0 := T) (N0 := N) (W0 := W) (SN0 := SN) (RO0 := RO) (SM := SM) (SA := SA) (RL := RL) (RH := RH) (dp := dp) (r := (32 * m_rowMany)) (n0 := (SN m_slot)) (x := x) (y := y) (ns := ns) (cl := cl) (G0 := G1) (i_ := 0) (RO := RO) (T := T) (N := N) (W := W) (SN := SN) (by omega) (by omega) (by omega) jf_x jf_y (by omega) (Int.toNat (dp + 1 - 0) + 1) h80 h133 h118 h119 h120 h117 (by omega) gro gt gn gw gsn rokk_0 rsm_rf sgn_0 stx_rf sno_rf jk rE_0 fx.rf rfl rfl (by omega) (fun G2 RO23 T24 N25 W26 SN27 hN133 hN118 hN119 hN120 hN117 hq8 hq9 hq10 hq11 hq12 hq13 hq14 hq15 hq16 hq17 hq18 hq19 hq20 hfk hlk hsk => ?_)
  · have h80 := hfk.get h80 (by decide)
    have hfr := hfr.tr hfk (by decide)
    have hlen := hlk.trans hlen
    have hsl := hsk.trans hsl
    have h133 := hN133
    have h118 := hN118
    have h119 := hN119
    have h120 := hN120
    have h117 := hN117
    change ab_W _ _ _ G2 120 [some (vR 80), none, none, none, some (vz (32 * m_rowMany)), none] [] _
    refine ab_iload d_MO_eachOf_120 rfl ?_
    refine zz_iret rfl d_MO_eachOf_122 ?_
    rw [hQ]; exact ⟨_, _, _, _, _, rfl, hfr, hlen, hsl, h80, h133, h118, h119, h120, h117, (by first | exact hq8 | exact rgs_w hq8 (by omega)), (by first | exact hq9 | exact rgs_w hq9 (by omega)), (by first | exact hq10 | exact rgs_w hq10 (by omega)), (by first | exact hq11 | exact rgs_w hq11 (by omega)), (by first | exact hq12 | exact rgs_w hq12 (by omega)), (by omega), (by exact hq14), (by exact hq15), (by exact hq16), (by exact hq17), (by exact hq18), (by exact hq19), (by exact hq20)⟩
set_option maxRecDepth 100000 in
set_option maxHeartbeats 4000000 in
theorem y_MO_takeStep_43 {X : ab_X} {d : Nat} {Q : Outcome → ab_G → Prop} {o : Nat → Nat} {G0 : ab_G} {m_thrown : Int} {m_taped : Int} {m_length : Int} {m_out : Int} {m_wide : Int} {m_gathered : Int} {m_sets : Int} {m_ranges : Int} {m_nodes : Int} {m_at : Int} {m_flags : Int} {m_fault : Int} {m_place : Int} {m_numbered : Int} {m_depth : Int} {m_value : Int} {m_isNot : Int} {m_least0 : Int} {m_most0 : Int} {m_slot : Int} {m_work : Int} {m_got : Int} {m_rowMany : Int} {m_charAt : Int} {m_charWide : Int} {m_trail : Int} {m_isMatch : Int} {m_matchGroups : Int} {m_allFrom : Int} {m_allBefore : Int} {m_founds : Int} {m_pieces : Int} {m_writtenMany : Int} {m_templateWide : Int} {m_tooMuch : Int} {T : Int → Int} {W : Int → Int} {CA : Int → Int} {CM : Int → Int} {CL : Int → Int} {CH : Int → Int} {SM : Int → Int} {SA : Int → Int} {RL : Int → Int} {RH : Int → Int} {s_ : Int} {nn : Int} {kk : Int} {ns : Int} {cl : Int} (csl : 0 ≤ m_slot ∧ m_slot ≤ 5) (gt : rgs T 75000 0 6) (gw : rgs W 75000 (-1) 12499) (gca : rgs CA 75000 0 3600) (jk : tka T W CA CM SM SA RL RH CL CH (12500 * m_slot) nn m_slot cl ns) (cnn : 0 ≤ nn ∧ nn < 12500 ∧ 0 ≤ cl ∧ cl ≤ 600 ∧ 0 ≤ s_ ∧ s_ < 2100 ∧ 0 ≤ SM s_ ∧ SM s_ ≤ 24000) (hd : 1 ≤ d) : ∀ (mz : Nat) {G : ab_G} {j : Int} {fm : Int}, (cc o G 80 280 (ab_ob 12 (mof m_thrown m_taped m_length m_out m_wide m_gathered m_sets m_ranges m_nodes m_at m_flags m_fault m_place m_numbered m_depth m_value m_isNot m_least0 m_most0 m_slot m_work m_got m_rowMany m_charAt m_charWide m_trail m_isMatch m_matchGroups m_allFrom m_allBefore m_founds m_pieces m_writtenMany m_templateWide m_tooMuch))) → (cc o G 118 318 (za 75000 T)) → (cc o G 120 320 (za 75000 W)) → (cc o G 121 321 (za 75000 CA)) → (0 ≤ j ∧ j ≤ nn ∧ 0 ≤ fm ∧ fm ≤ 3600) → (((fm = 600 * m_slot + cl) ∨ (600 * m_slot ≤ fm ∧ fm + SM s_ ≤ 600 * m_slot + cl))) → (clq CL CH RL RH SA SM s_ fm (600 * m_slot + cl)) → (fx o o [] G0 G) → (G.length = G0.length) → (ab_slots G = ab_slots G0) → (Int.toNat (nn - j) < mz) → (∀ (G2 : ab_G) (f2 : Int), (0 ≤ f2 ∧ f2 ≤ 3600) → (((f2 = 600 * m_slot + cl) ∨ (600 * m_slot ≤ f2 ∧ f2 + SM s_ ≤ 600 * m_slot + cl))) → (clq CL CH RL RH SA SM s_ f2 (600 * m_slot + cl)) → (fx o o [] G0 G2) → (G2.length = G0.length) → (ab_slots G2 = ab_slots G0) → ab_W X (ab_pl y_MO_takeStep b_MO_takeStep 7 (some (.int))) d G2 113 [some (vR 80), some (vz s_), none, some (vz nn), some (vz kk), some (vz f2), none] [] Q) → ab_W X (ab_pl y_MO_takeStep b_MO_takeStep 7 (some (.int))) d G 43 [some (vR 80), some (vz s_), none, some (vz nn), some (vz kk), some (vz fm), some (vz j)] [] Q := by
  intro mz
  induction mz with
  | zero => intro G j fm h80 h118 h120 h121 ci cf jq hfr hlen hsl hm hk0; exact absurd hm (Nat.not_lt_zero _)
  | succ mz ih =>
    intro G j fm h80 h118 h120 h121 ci cf jq hfr hlen hsl hm hk0
    refine ab_iload d_MO_takeStep_43 rfl ?_
    refine ab_iload_n d_MO_takeStep_45 rfl ?_
    refine zz_icmp_ge (tgt := 113) d_MO_takeStep_46 (by decide) (by omega) (by omega) (fun c1 => ?_) (fun c1 => ?_)
    · refine ab_less (L' := [some (vR 80), some (vz s_), none, some (vz nn), some (vz kk), some (vz fm), none]) (fun i v h => by rcases i with _ | _ | _ | _ | _ | _ | _ | i <;> first | exact h | (simp at h)) ?_
      exact hk0 _ _ (by omega) (by omega) (by exact jq) hfr hlen hsl
    · refine ab_aload_n d_MO_takeStep_49 rfl ?_
      refine ab_getf (fs := mof m_thrown m_taped m_length m_out m_wide m_gathered m_sets m_ranges m_nodes m_at m_flags m_fault m_place m_numbered m_depth m_value m_isNot m_least0 m_most0 m_slot m_work m_got m_rowMany m_charAt m_charWide m_trail m_isMatch m_matchGroups m_allFrom m_allBefore m_founds m_pieces m_writtenMany m_templateWide m_tooMuch) f_MO_128 d_MO_takeStep_50 h80.2.2 rfl ?_
      refine zz_sipush d_MO_takeStep_53 (by decide) ?_
      refine ab_aload_n d_MO_takeStep_56 rfl ?_
      refine ab_getf (fs := mof m_thrown m_taped m_length m_out m_wide m_gathered m_sets m_ranges m_nodes m_at m_flags m_fault m_place m_numbered m_depth m_value m_isNot m_least0 m_most0 m_slot m_work m_got m_rowMany m_charAt m_charWide m_trail m_isMatch m_matchGroups m_allFrom m_allBefore m_founds m_pieces m_writtenMany m_templateWide m_tooMuch) f_MO_438 d_MO_takeStep_57 h80.2.2 rfl ?_
      refine zz_imul d_MO_takeStep_60 ?_
      refine ab_iload d_MO_takeStep_61 rfl ?_
      refine zz_iadd d_MO_takeStep_63 ?_
      refine zz_iald d_MO_takeStep_64 h118 (by omega) ?_
      have hq2 := gt ((12500 * m_slot) + j) (by omega) (by omega)
      refine zz_iconst d_MO_takeStep_65 ?_
      refine zz_icmp_ne (tgt := 107) d_MO_takeStep_66 (by decide) (by omega) (by decide) (fun c3 => ?_) (fun c3 => ?_)
      · refine zz_iinc d_MO_takeStep_107 rfl (Nat.le_of_ble_eq_true rfl) (Nat.le_of_ble_eq_true rfl) rfl ?_
        change ab_W _ _ _ G 110 [some (vR 80), some (vz s_), none, some (vz nn), some (vz kk), some (vz fm), some (vz (j + 1))] [] _
        refine ab_goto (tgt := 43) d_MO_takeStep_110 (by decide) ?_
        exact ih (j := (j + 1)) (fm := fm) h80 h118 h120 h121 (by omega) (by omega) jq hfr hlen hsl (by omega) hk0
      · refine ab_aload_n d_MO_takeStep_69 rfl ?_
        refine ab_getf (fs := mof m_thrown m_taped m_length m_out m_wide m_gathered m_sets m_ranges m_nodes m_at m_flags m_fault m_place m_numbered m_depth m_value m_isNot m_least0 m_most0 m_slot m_work m_got m_rowMany m_charAt m_charWide m_trail m_isMatch m_matchGroups m_allFrom m_allBefore m_founds m_pieces m_writtenMany m_templateWide m_tooMuch) f_MO_134 d_MO_takeStep_70 h80.2.2 rfl ?_
        refine zz_sipush d_MO_takeStep_73 (by decide) ?_
        refine ab_aload_n d_MO_takeStep_76 rfl ?_
        refine ab_getf (fs := mof m_thrown m_taped m_length m_out m_wide m_gathered m_sets m_ranges m_nodes m_at m_flags m_fault m_place m_numbered m_depth m_value m_isNot m_least0 m_most0 m_slot m_work m_got m_rowMany m_charAt m_charWide m_trail m_isMatch m_matchGroups m_allFrom m_allBefore m_founds m_pieces m_writtenMany m_templateWide m_tooMuch) f_MO_438 d_MO_takeStep_77 h80.2.2 rfl ?_
        refine zz_imul d_MO_takeStep_80 ?_
        refine ab_iload d_MO_takeStep_81 rfl ?_
        refine zz_iadd d_MO_takeStep_83 ?_
        refine zz_iald d_MO_takeStep_84 h120 (by omega) ?_
        have hq4 := gw ((12500 * m_slot) + j) (by omega) (by omega)
        refine ab_iload_n d_MO_takeStep_85 rfl ?_
        refine zz_icmp_ne (tgt := 107) d_MO_takeStep_86 (by decide) (by omega) (by omega) (fun c5 => ?_) (fun c5 => ?_)
        · refine zz_iinc d_MO_takeStep_107 rfl (Nat.le_of_ble_eq_true rfl) (Nat.le_of_ble_eq_true rfl) rfl ?_
          change ab_W _ _ _ G 110 [some (vR 80), some (vz s_), none, some (vz nn), some (vz kk), some (vz fm), some (vz (j + 1))] [] _
          refine ab_goto (tgt := 43) d_MO_takeStep_110 (by decide) ?_
          exact ih (j := (j + 1)) (fm := fm) h80 h118 h120 h121 (by omega) (by omega) jq hfr hlen hsl (by omega) hk0
        · obtain ⟨ht1_, ht2_, ht3_, ht4_, ht5_⟩ := jk j (by omega) (by omega) (by omega)
          rw [show W (12500 * m_slot + j) = s_ by omega] at ht2_ ht5_
          rw [ht2_] at ht4_ ht5_
          refine ab_aload_n d_MO_takeStep_89 rfl ?_
          refine ab_getf (fs := mof m_thrown m_taped m_length m_out m_wide m_gathered m_sets m_ranges m_nodes m_at m_flags m_fault m_place m_numbered m_depth m_value m_isNot m_least0 m_most0 m_slot m_work m_got m_rowMany m_charAt m_charWide m_trail m_isMatch m_matchGroups m_allFrom m_allBefore m_founds m_pieces m_writtenMany m_templateWide m_tooMuch) f_MO_137 d_MO_takeStep_90 h80.2.2 rfl ?_
          refine zz_sipush d_MO_takeStep_93 (by decide) ?_
          refine ab_aload_n d_MO_takeStep_96 rfl ?_
          refine ab_getf (fs := mof m_thrown m_taped m_length m_out m_wide m_gathered m_sets m_ranges m_nodes m_at m_flags m_fault m_place m_numbered m_depth m_value m_isNot m_least0 m_most0 m_slot m_work m_got m_rowMany m_charAt m_charWide m_trail m_isMatch m_matchGroups m_allFrom m_allBefore m_founds m_pieces m_writtenMany m_templateWide m_tooMuch) f_MO_438 d_MO_takeStep_97 h80.2.2 rfl ?_
          refine zz_imul d_MO_takeStep_100 ?_
          refine ab_iload d_MO_takeStep_101 rfl ?_
          refine zz_iadd d_MO_takeStep_103 ?_
          refine zz_iald d_MO_takeStep_104 h121 (by omega) ?_
          have hq6 := gca ((12500 * m_slot) + j) (by omega) (by omega)
          refine ab_istore d_MO_takeStep_105 (Nat.le_of_ble_eq_true rfl) (Nat.le_of_ble_eq_true rfl) rfl ?_
          change ab_W _ _ _ G 107 [some (vR 80), some (vz s_), none, some (vz nn), some (vz kk), some (vz (CA ((12500 * m_slot) + j))), some (vz j)] [] _
          refine zz_iinc d_MO_takeStep_107 rfl (Nat.le_of_ble_eq_true rfl) (Nat.le_of_ble_eq_true rfl) rfl ?_
          change ab_W _ _ _ G 110 [some (vR 80), some (vz s_), none, some (vz nn), some (vz kk), some (vz (CA ((12500 * m_slot) + j))), some (vz (j + 1))] [] _
          refine ab_goto (tgt := 43) d_MO_takeStep_110 (by decide) ?_
          exact ih (j := (j + 1)) (fm := (CA ((12500 * m_slot) + j))) h80 h118 h120 h121 (by omega) (by omega) (Or.inr ht5_) hfr hlen hsl (by omega) hk0
set_option maxRecDepth 100000 in
set_option maxHeartbeats 4000000 in
theorem y_MO_takeStep_139 {X : ab_X} {d : Nat} {Q : Outcome → ab_G → Prop} {o : Nat → Nat} {G0 : ab_G} {m_thrown : Int} {m_taped : Int} {m_length : Int} {m_out : Int} {m_wide : Int} {m_gathered : Int} {m_sets : Int} {m_ranges : Int} {m_nodes : Int} {m_at : Int} {m_flags : Int} {m_fault : Int} {m_place : Int} {m_numbered : Int} {m_depth : Int} {m_value : Int} {m_isNot : Int} {m_least0 : Int} {m_most0 : Int} {m_slot : Int} {m_work : Int} {m_got : Int} {m_rowMany : Int} {m_charAt : Int} {m_charWide : Int} {m_trail : Int} {m_isMatch : Int} {m_matchGroups : Int} {m_allFrom : Int} {m_allBefore : Int} {m_founds : Int} {m_pieces : Int} {m_writtenMany : Int} {m_templateWide : Int} {m_tooMuch : Int} {CL0 : Int → Int} {CH0 : Int → Int} {SM : Int → Int} {SA : Int → Int} {RL : Int → Int} {RH : Int → Int} {s_ : Int} {fm : Int} {nn : Int} {kk : Int} (n18 : ab_n0 = 18) (jrl : rgs RL 24000 0 1114111) (jrh : rgs RH 24000 0 1114111) (jsm : rgs SM 2100 0 24000) (jsa : rgs SA 2100 0 24000) (cnn : 0 ≤ s_ ∧ s_ < 2100 ∧ 0 ≤ SM s_ ∧ 0 ≤ SA s_ ∧ SA s_ + SM s_ ≤ 24000 ∧ 0 ≤ fm ∧ fm + SM s_ ≤ 3600) (hd : 1 ≤ d) : ∀ (mz : Nat) {G : ab_G} {j : Int} {CL : Int → Int} {CH : Int → Int}, (cc o G 80 280 (ab_ob 12 (mof m_thrown m_taped m_length m_out m_wide m_gathered m_sets m_ranges m_nodes m_at m_flags m_fault m_place m_numbered m_depth m_value m_isNot m_least0 m_most0 m_slot m_work m_got m_rowMany m_charAt m_charWide m_trail m_isMatch m_matchGroups m_allFrom m_allBefore m_founds m_pieces m_writtenMany m_templateWide m_tooMuch))) → (cc o G 90 290 (za 2100 SM)) → (cc o G 89 289 (za 2100 SA)) → (cc o G 91 291 (za 24000 RL)) → (cc o G 92 292 (za 24000 RH)) → (cc o G 123 323 (za 3600 CL)) → (cc o G 124 324 (za 3600 CH)) → (0 ≤ j ∧ j ≤ SM s_) → (rgs CL 3600 0 1114111) → (rgs CH 3600 0 1114111) → (cpq CL0 CH0 CL CH RL RH fm (SA s_) j) → (fx o o [323, 324] G0 G) → (G.length = G0.length) → (ab_slots G = ab_slots G0) → (Int.toNat (SM s_ - j) < mz) → (∀ (G2 : ab_G) (CL2 : Int → Int) (CH2 : Int → Int), (cc o G2 123 323 (za 3600 CL2)) → (cc o G2 124 324 (za 3600 CH2)) → (rgs CL2 3600 0 1114111) → (rgs CH2 3600 0 1114111) → (cpq CL0 CH0 CL2 CH2 RL RH fm (SA s_) (SM s_)) → (fx o o [323, 324] G0 G2) → (G2.length = G0.length) → (ab_slots G2 = ab_slots G0) → ab_W X (ab_pl y_MO_takeStep b_MO_takeStep 7 (some (.int))) d G2 204 [some (vR 80), some (vz s_), none, some (vz nn), some (vz kk), some (vz fm), none] [] Q) → ab_W X (ab_pl y_MO_takeStep b_MO_takeStep 7 (some (.int))) d G 139 [some (vR 80), some (vz s_), none, some (vz nn), some (vz kk), some (vz fm), some (vz j)] [] Q := by
  intro mz
  induction mz with
  | zero => intro G j CL CH h80 h90 h89 h91 h92 h123 h124 ci gcl gch jq hfr hlen hsl hm hk0; exact absurd hm (Nat.not_lt_zero _)
  | succ mz ih =>
    intro G j CL CH h80 h90 h89 h91 h92 h123 h124 ci gcl gch jq hfr hlen hsl hm hk0
    refine ab_iload d_MO_takeStep_139 rfl ?_
    refine ab_aload_n d_MO_takeStep_141 rfl ?_
    refine ab_getf (fs := mof m_thrown m_taped m_length m_out m_wide m_gathered m_sets m_ranges m_nodes m_at m_flags m_fault m_place m_numbered m_depth m_value m_isNot m_least0 m_most0 m_slot m_work m_got m_rowMany m_charAt m_charWide m_trail m_isMatch m_matchGroups m_allFrom m_allBefore m_founds m_pieces m_writtenMany m_templateWide m_tooMuch) f_MO_37 d_MO_takeStep_142 h80.2.2 rfl ?_
    refine ab_iload_n d_MO_takeStep_145 rfl ?_
    refine zz_iald d_MO_takeStep_146 h90 (by omega) ?_
    have hq1 := jsm s_ (by omega) (by omega)
    refine zz_icmp_ge (tgt := 204) d_MO_takeStep_147 (by decide) (by omega) (by omega) (fun c2 => ?_) (fun c2 => ?_)
    · refine ab_less (L' := [some (vR 80), some (vz s_), none, some (vz nn), some (vz kk), some (vz fm), none]) (fun i v h => by rcases i with _ | _ | _ | _ | _ | _ | _ | i <;> first | exact h | (simp at h)) ?_
      exact hk0 _ _ _ h123 h124 (by first | exact gcl | exact rgs_w gcl (by omega)) (by first | exact gch | exact rgs_w gch (by omega)) (by exact (show j = SM s_ by omega) ▸ jq) hfr hlen hsl
    · refine ab_aload_n d_MO_takeStep_150 rfl ?_
      refine ab_getf (fs := mof m_thrown m_taped m_length m_out m_wide m_gathered m_sets m_ranges m_nodes m_at m_flags m_fault m_place m_numbered m_depth m_value m_isNot m_least0 m_most0 m_slot m_work m_got m_rowMany m_charAt m_charWide m_trail m_isMatch m_matchGroups m_allFrom m_allBefore m_founds m_pieces m_writtenMany m_templateWide m_tooMuch) f_MO_143 d_MO_takeStep_151 h80.2.2 rfl ?_
      refine ab_iload d_MO_takeStep_154 rfl ?_
      refine ab_iload d_MO_takeStep_156 rfl ?_
      refine zz_iadd d_MO_takeStep_158 ?_
      refine ab_aload_n d_MO_takeStep_159 rfl ?_
      refine ab_getf (fs := mof m_thrown m_taped m_length m_out m_wide m_gathered m_sets m_ranges m_nodes m_at m_flags m_fault m_place m_numbered m_depth m_value m_isNot m_least0 m_most0 m_slot m_work m_got m_rowMany m_charAt m_charWide m_trail m_isMatch m_matchGroups m_allFrom m_allBefore m_founds m_pieces m_writtenMany m_templateWide m_tooMuch) f_MO_40 d_MO_takeStep_160 h80.2.2 rfl ?_
      refine ab_aload_n d_MO_takeStep_163 rfl ?_
      refine ab_getf (fs := mof m_thrown m_taped m_length m_out m_wide m_gathered m_sets m_ranges m_nodes m_at m_flags m_fault m_place m_numbered m_depth m_value m_isNot m_least0 m_most0 m_slot m_work m_got m_rowMany m_charAt m_charWide m_trail m_isMatch m_matchGroups m_allFrom m_allBefore m_founds m_pieces m_writtenMany m_templateWide m_tooMuch) f_MO_34 d_MO_takeStep_164 h80.2.2 rfl ?_
      refine ab_iload_n d_MO_takeStep_167 rfl ?_
      refine zz_iald d_MO_takeStep_168 h89 (by omega) ?_
      have hq3 := jsa s_ (by omega) (by omega)
      refine ab_iload d_MO_takeStep_169 rfl ?_
      refine zz_iadd d_MO_takeStep_171 ?_
      refine zz_iald d_MO_takeStep_172 h91 (by omega) ?_
      have hq4 := jrl ((SA s_) + j) (by omega) (by omega)
      refine zz_iast d_MO_takeStep_173 h123 (by omega) (h123.2.1 (by decide)) ?_
      obtain ⟨G5, eG5⟩ : ∃ z : ab_G, z = List.set G 123 (za 3600 (zu CL (fm + j) (RL ((SA s_) + j)))) := ⟨_, rfl⟩
      have h80 := h80.keep h123 eG5 (by decide)
      have h90 := h90.keep h123 eG5 (by decide)
      have h89 := h89.keep h123 eG5 (by decide)
      have h91 := h91.keep h123 eG5 (by decide)
      have h92 := h92.keep h123 eG5 (by decide)
      have h124 := h124.keep h123 eG5 (by decide)
      have hlen := (z_len eG5).trans hlen
      have hsl := (z_sl h123 eG5 rfl).trans hsl
      have hfr := hfr.wr h123 eG5 (by decide)
      have h123 := h123.kept eG5
      change ab_W _ _ _ (List.set G 123 (za 3600 (zu CL (fm + j) (RL ((SA s_) + j))))) 174 [some (vR 80), some (vz s_), none, some (vz nn), some (vz kk), some (vz fm), some (vz j)] [] _
      rw [← eG5]
      refine ab_aload_n d_MO_takeStep_174 rfl ?_
      refine ab_getf (fs := mof m_thrown m_taped m_length m_out m_wide m_gathered m_sets m_ranges m_nodes m_at m_flags m_fault m_place m_numbered m_depth m_value m_isNot m_least0 m_most0 m_slot m_work m_got m_rowMany m_charAt m_charWide m_trail m_isMatch m_matchGroups m_allFrom m_allBefore m_founds m_pieces m_writtenMany m_templateWide m_tooMuch) f_MO_146 d_MO_takeStep_175 h80.2.2 rfl ?_
      refine ab_iload d_MO_takeStep_178 rfl ?_
      refine ab_iload d_MO_takeStep_180 rfl ?_
      refine zz_iadd d_MO_takeStep_182 ?_
      refine ab_aload_n d_MO_takeStep_183 rfl ?_
      refine ab_getf (fs := mof m_thrown m_taped m_length m_out m_wide m_gathered m_sets m_ranges m_nodes m_at m_flags m_fault m_place m_numbered m_depth m_value m_isNot m_least0 m_most0 m_slot m_work m_got m_rowMany m_charAt m_charWide m_trail m_isMatch m_matchGroups m_allFrom m_allBefore m_founds m_pieces m_writtenMany m_templateWide m_tooMuch) f_MO_43 d_MO_takeStep_184 h80.2.2 rfl ?_
      refine ab_aload_n d_MO_takeStep_187 rfl ?_
      refine ab_getf (fs := mof m_thrown m_taped m_length m_out m_wide m_gathered m_sets m_ranges m_nodes m_at m_flags m_fault m_place m_numbered m_depth m_value m_isNot m_least0 m_most0 m_slot m_work m_got m_rowMany m_charAt m_charWide m_trail m_isMatch m_matchGroups m_allFrom m_allBefore m_founds m_pieces m_writtenMany m_templateWide m_tooMuch) f_MO_34 d_MO_takeStep_188 h80.2.2 rfl ?_
      refine ab_iload_n d_MO_takeStep_191 rfl ?_
      refine zz_iald d_MO_takeStep_192 h89 (by omega) ?_
      have hq6 := jsa s_ (by omega) (by omega)
      refine ab_iload d_MO_takeStep_193 rfl ?_
      refine zz_iadd d_MO_takeStep_195 ?_
      refine zz_iald d_MO_takeStep_196 h92 (by omega) ?_
      have hq7 := jrh ((SA s_) + j) (by omega) (by omega)
      refine zz_iast d_MO_takeStep_197 h124 (by omega) (h124.2.1 (by decide)) ?_
      obtain ⟨G8, eG8⟩ : ∃ z : ab_G, z = List.set G5 124 (za 3600 (zu CH (fm + j) (RH ((SA s_) + j)))) := ⟨_, rfl⟩
      have h80 := h80.keep h124 eG8 (by decide)
      have h90 := h90.keep h124 eG8 (by decide)
      have h89 := h89.keep h124 eG8 (by decide)
      have h91 := h91.keep h124 eG8 (by decide)
      have h92 := h92.keep h124 eG8 (by decide)
      have h123 := h123.keep h124 eG8 (by decide)
      have hlen := (z_len eG8).trans hlen
      have hsl := (z_sl h124 eG8 rfl).trans hsl
      have hfr := hfr.wr h124 eG8 (by decide)
      have h124 := h124.kept eG8
      change ab_W _ _ _ (List.set G5 124 (za 3600 (zu CH (fm + j) (RH ((SA s_) + j))))) 198 [some (vR 80), some (vz s_), none, some (vz nn), some (vz kk), some (vz fm), some (vz j)] [] _
      rw [← eG8]
      refine zz_iinc d_MO_takeStep_198 rfl (Nat.le_of_ble_eq_true rfl) (Nat.le_of_ble_eq_true rfl) rfl ?_
      change ab_W _ _ _ G8 201 [some (vR 80), some (vz s_), none, some (vz nn), some (vz kk), some (vz fm), some (vz (j + 1))] [] _
      refine ab_goto (tgt := 139) d_MO_takeStep_201 (by decide) ?_
      exact ih (j := (j + 1)) (CL := (zu CL (fm + j) (RL ((SA s_) + j)))) (CH := (zu CH (fm + j) (RH ((SA s_) + j)))) h80 h90 h89 h91 h92 h123 h124 (by omega) (rgs_zu gcl (by omega)) (rgs_zu gch (by omega)) (cpq_s jq (by omega)) hfr hlen hsl (by omega) hk0
set_option maxRecDepth 100000 in
set_option maxHeartbeats 4000000 in
theorem z_MO_takeStep {X : ab_X} {d : Nat} {o : Nat → Nat} {G : ab_G} {m_thrown : Int} {m_taped : Int} {m_length : Int} {m_out : Int} {m_wide : Int} {m_gathered : Int} {m_sets : Int} {m_ranges : Int} {m_nodes : Int} {m_at : Int} {m_flags : Int} {m_fault : Int} {m_place : Int} {m_numbered : Int} {m_depth : Int} {m_value : Int} {m_isNot : Int} {m_least0 : Int} {m_most0 : Int} {m_slot : Int} {m_work : Int} {m_got : Int} {m_rowMany : Int} {m_charAt : Int} {m_charWide : Int} {m_trail : Int} {m_isMatch : Int} {m_matchGroups : Int} {m_allFrom : Int} {m_allBefore : Int} {m_founds : Int} {m_pieces : Int} {m_writtenMany : Int} {m_templateWide : Int} {m_tooMuch : Int} {T : Int → Int} {N : Int → Int} {W : Int → Int} {CA : Int → Int} {CM : Int → Int} {CL : Int → Int} {CH : Int → Int} {SN : Int → Int} {CC : Int → Int} {SM : Int → Int} {SA : Int → Int} {RL : Int → Int} {RH : Int → Int} {to : Int} {s_ : Int} {ns : Int} (h80 : cc o G 80 280 (ab_ob 12 (mof m_thrown m_taped m_length m_out m_wide m_gathered m_sets m_ranges m_nodes m_at m_flags m_fault m_place m_numbered m_depth m_value m_isNot m_least0 m_most0 m_slot m_work m_got m_rowMany m_charAt m_charWide m_trail m_isMatch m_matchGroups m_allFrom m_allBefore m_founds m_pieces m_writtenMany m_templateWide m_tooMuch))) (h90 : cc o G 90 290 (za 2100 SM)) (h89 : cc o G 89 289 (za 2100 SA)) (h91 : cc o G 91 291 (za 24000 RL)) (h92 : cc o G 92 292 (za 24000 RH)) (h118 : cc o G 118 318 (za 75000 T)) (h119 : cc o G 119 319 (za 75000 N)) (h120 : cc o G 120 320 (za 75000 W)) (h121 : cc o G 121 321 (za 75000 CA)) (h122 : cc o G 122 322 (za 75000 CM)) (h123 : cc o G 123 323 (za 3600 CL)) (h124 : cc o G 124 324 (za 3600 CH)) (h117 : cc o G 117 317 (za 6 SN)) (h125 : cc o G 125 325 (za 6 CC)) (n18 : ab_n0 = 18) (csl : 0 ≤ m_slot ∧ m_slot ≤ 5) (jrl : rgs RL 24000 0 1114111) (jrh : rgs RH 24000 0 1114111) (jsm : rgs SM 2100 0 24000) (jsa : rgs SA 2100 0 24000) (gt : rgs T 75000 0 6) (gn : rgs N 75000 (-1) 12499) (gw : rgs W 75000 (-1) 12499) (gca : rgs CA 75000 0 3600) (gcm : rgs CM 75000 0 24000) (gcl : rgs CL 3600 0 1114111) (gch : rgs CH 3600 0 1114111) (gsn : rgs SN 6 0 12500) (gcc : rgs CC 6 0 600) (jk : tka T W CA CM SM SA RL RH CL CH (12500 * m_slot) (SN m_slot) m_slot (CC m_slot) ns) (cn : 0 ≤ (SN m_slot) ∧ (SN m_slot) < 12500 ∧ 0 ≤ s_ ∧ s_ < ns ∧ ns ≤ 2100 ∧ SA s_ + SM s_ ≤ 24000 ∧ (CC m_slot) + SM s_ ≤ 600 ∧ 0 ≤ to ∧ to < (SN m_slot)) (hd : 2 ≤ d) : ab_F X d y_MO_takeStep (.code y_MO_takeStep b_MO_takeStep 7 (some (.int))) [vR 80, vz s_, vz to] G (fun oc G2 => ∃ T2 : Int → Int, ∃ N2 : Int → Int, ∃ W2 : Int → Int, ∃ CA2 : Int → Int, ∃ CM2 : Int → Int, ∃ CL2 : Int → Int, ∃ CH2 : Int → Int, ∃ SN2 : Int → Int, ∃ CC2 : Int → Int, oc = .returned (some (vz (SN m_slot))) ∧ fx o o [318, 319, 320, 321, 322, 323, 324, 317, 325] G G2 ∧ G2.length = G.length ∧ ab_slots G2 = ab_slots G ∧ cc o G2 118 318 (za 75000 T2) ∧ cc o G2 119 319 (za 75000 N2) ∧ cc o G2 120 320 (za 75000 W2) ∧ cc o G2 121 321 (za 75000 CA2) ∧ cc o G2 122 322 (za 75000 CM2) ∧ cc o G2 123 323 (za 3600 CL2) ∧ cc o G2 124 324 (za 3600 CH2) ∧ cc o G2 117 317 (za 6 SN2) ∧ cc o G2 125 325 (za 6 CC2) ∧ (rgs T2 75000 0 6) ∧ (rgs N2 75000 (-1) 12499) ∧ (rgs W2 75000 (-1) 12499) ∧ (rgs CA2 75000 0 3600) ∧ (rgs CM2 75000 0 24000) ∧ (rgs CL2 3600 0 1114111) ∧ (rgs CH2 3600 0 1114111) ∧ (rgs SN2 6 0 12500) ∧ (rgs CC2 6 0 600) ∧ (SN2 m_slot = (SN m_slot) + 1 ∧ (CC m_slot) ≤ CC2 m_slot ∧ CC2 m_slot ≤ (CC m_slot) + SM s_) ∧ (sgn T2 N2 W2 (12500 * m_slot) (SN m_slot) ((SN m_slot) + 1)) ∧ (stx T N W CA CM T2 N2 W2 CA2 CM2 (12500 * m_slot) (SN m_slot)) ∧ (sno SN SN2 m_slot) ∧ (sno CC CC2 m_slot) ∧ (tka T2 W2 CA2 CM2 SM SA RL RH CL2 CH2 (12500 * m_slot) ((SN m_slot) + 1) m_slot (CC2 m_slot) ns) ∧ (ccx CL CH CL2 CH2 m_slot (CC m_slot)) ∧ (stR T2 N2 W2 m_slot (SN m_slot) ((SN m_slot) + 1) (SN m_slot) 1 to s_)) := by
  refine ab_F_of (by decide +kernel) (Nat.le_of_ble_eq_true rfl) ?_
  obtain ⟨Q, hQ⟩ : ∃ z : Outcome → ab_G → Prop, z = (fun oc G2 => ∃ T2 : Int → Int, ∃ N2 : Int → Int, ∃ W2 : Int → Int, ∃ CA2 : Int → Int, ∃ CM2 : Int → Int, ∃ CL2 : Int → Int, ∃ CH2 : Int → Int, ∃ SN2 : Int → Int, ∃ CC2 : Int → Int, oc = .returned (some (vz (SN m_slot))) ∧ fx o o [318, 319, 320, 321, 322, 323, 324, 317, 325] G G2 ∧ G2.length = G.length ∧ ab_slots G2 = ab_slots G ∧ cc o G2 118 318 (za 75000 T2) ∧ cc o G2 119 319 (za 75000 N2) ∧ cc o G2 120 320 (za 75000 W2) ∧ cc o G2 121 321 (za 75000 CA2) ∧ cc o G2 122 322 (za 75000 CM2) ∧ cc o G2 123 323 (za 3600 CL2) ∧ cc o G2 124 324 (za 3600 CH2) ∧ cc o G2 117 317 (za 6 SN2) ∧ cc o G2 125 325 (za 6 CC2) ∧ (rgs T2 75000 0 6) ∧ (rgs N2 75000 (-1) 12499) ∧ (rgs W2 75000 (-1) 12499) ∧ (rgs CA2 75000 0 3600) ∧ (rgs CM2 75000 0 24000) ∧ (rgs CL2 3600 0 1114111) ∧ (rgs CH2 3600 0 1114111) ∧ (rgs SN2 6 0 12500) ∧ (rgs CC2 6 0 600) ∧ (SN2 m_slot = (SN m_slot) + 1 ∧ (CC m_slot) ≤ CC2 m_slot ∧ CC2 m_slot ≤ (CC m_slot) + SM s_) ∧ (sgn T2 N2 W2 (12500 * m_slot) (SN m_slot) ((SN m_slot) + 1)) ∧ (stx T N W CA CM T2 N2 W2 CA2 CM2 (12500 * m_slot) (SN m_slot)) ∧ (sno SN SN2 m_slot) ∧ (sno CC CC2 m_slot) ∧ (tka T2 W2 CA2 CM2 SM SA RL RH CL2 CH2 (12500 * m_slot) ((SN m_slot) + 1) m_slot (CC2 m_slot) ns) ∧ (ccx CL CH CL2 CH2 m_slot (CC m_slot)) ∧ (stR T2 N2 W2 m_slot (SN m_slot) ((SN m_slot) + 1) (SN m_slot) 1 to s_)) := ⟨_, rfl⟩
  rw [← hQ]
  change ab_W X (ab_pl y_MO_takeStep b_MO_takeStep 7 (some (.int))) d G 0 [some (vR 80), some (vz s_), some (vz to), none, none, none, none] [] Q
  have hfr : fx o o [318, 319, 320, 321, 322, 323, 324, 317, 325] G G := fx.rf
  have hlen : G.length = G.length := rfl
  have hsl : ab_slots G = ab_slots G := rfl
  have hsm_ := jsm s_ (by omega) (by omega)
  have hsa_ := jsa s_ (by omega) (by omega)
  have hcx_ := gcc m_slot (by omega) (by omega)
  refine ab_aload_n d_MO_takeStep_0 rfl ?_
  refine zz_iconst d_MO_takeStep_1 ?_
  refine ab_iload_n d_MO_takeStep_2 rfl ?_
  refine zz_iconst d_MO_takeStep_3 ?_
  refine ab_callV (d' := d - 1) (as := [vz 1, vz to, vz 0]) (st := []) (r := _) (z_MO_addStep (o := o) (m_thrown := m_thrown) (m_taped := m_taped) (m_length := m_length) (m_out := m_out) (m_wide := m_wide) (m_gathered := m_gathered) (m_sets := m_sets) (m_ranges := m_ranges) (m_nodes := m_nodes) (m_at := m_at) (m_flags := m_flags) (m_fault := m_fault) (m_place := m_place) (m_numbered := m_numbered) (m_depth := m_depth) (m_value := m_value) (m_isNot := m_isNot) (m_least0 := m_least0) (m_most0 := m_most0) (m_slot := m_slot) (m_work := m_work) (m_got := m_got) (m_rowMany := m_rowMany) (m_charAt := m_charAt) (m_charWide := m_charWide) (m_trail := m_trail) (m_isMatch := m_isMatch) (m_matchGroups := m_matchGroups) (m_allFrom := m_allFrom) (m_allBefore := m_allBefore) (m_founds := m_founds) (m_pieces := m_pieces) (m_writtenMany := m_writtenMany) (m_templateWide := m_templateWide) (m_tooMuch := m_tooMuch) (T := T) (N := N) (W := W) (SN := SN) (k := 1) (x := to) (y := 0) h80 h118 h119 h120 h117 (by omega) (by omega) (by omega)) (fun oc G2 h => by rcases h with ⟨h, _⟩ <;> exact ⟨_, h⟩) (by omega) m_MO_addStep ml_MO_441 im_MO_addStep se_MO_addStep c_MO h80.2.2 (Nat.le_of_ble_eq_true rfl) d_MO_takeStep_4 rfl ?_
  intro v G1 hq
  rcases hq with ⟨hv, hfk, hlk, hsk, hN118, hN119, hN120, hN117⟩
  cases hv
  have h80 := hfk.get h80 (by decide)
  have h90 := hfk.get h90 (by decide)
  have h89 := hfk.get h89 (by decide)
  have h91 := hfk.get h91 (by decide)
  have h92 := hfk.get h92 (by decide)
  have h121 := hfk.get h121 (by decide)
  have h122 := hfk.get h122 (by decide)
  have h123 := hfk.get h123 (by decide)
  have h124 := hfk.get h124 (by decide)
  have h125 := hfk.get h125 (by decide)
  have hfr := hfr.tr hfk (by decide)
  have hlen := hlk.trans hlen
  have hsl := hsk.trans hsl
  have h118 := hN118
  have h119 := hN119
  have h120 := hN120
  have h117 := hN117
  change ab_W _ _ _ G1 7 [some (vR 80), some (vz s_), some (vz to), none, none, none, none] [vz (SN m_slot)] _
  refine ab_istore_n d_MO_takeStep_7 (Nat.le_of_ble_eq_true rfl) (Nat.le_of_ble_eq_true rfl) rfl ?_
  change ab_W _ _ _ G1 8 [some (vR 80), some (vz s_), some (vz to), some (vz (SN m_slot)), none, none, none] [] _
  refine zz_sipush d_MO_takeStep_8 (by decide) ?_
  refine ab_aload_n d_MO_takeStep_11 rfl ?_
  refine ab_getf (fs := mof m_thrown m_taped m_length m_out m_wide m_gathered m_sets m_ranges m_nodes m_at m_flags m_fault m_place m_numbered m_depth m_value m_isNot m_least0 m_most0 m_slot m_work m_got m_rowMany m_charAt m_charWide m_trail m_isMatch m_matchGroups m_allFrom m_allBefore m_founds m_pieces m_writtenMany m_templateWide m_tooMuch) f_MO_438 d_MO_takeStep_12 h80.2.2 rfl ?_
  refine zz_imul d_MO_takeStep_15 ?_
  refine ab_iload_n d_MO_takeStep_16 rfl ?_
  refine zz_iadd d_MO_takeStep_17 ?_
  refine ab_istore d_MO_takeStep_18 (Nat.le_of_ble_eq_true rfl) (Nat.le_of_ble_eq_true rfl) rfl ?_
  change ab_W _ _ _ G1 20 [some (vR 80), some (vz s_), some (vz to), some (vz (SN m_slot)), some (vz ((12500 * m_slot) + (SN m_slot))), none, none] [] _
  refine zz_sipush d_MO_takeStep_20 (by decide) ?_
  refine ab_aload_n d_MO_takeStep_23 rfl ?_
  refine ab_getf (fs := mof m_thrown m_taped m_length m_out m_wide m_gathered m_sets m_ranges m_nodes m_at m_flags m_fault m_place m_numbered m_depth m_value m_isNot m_least0 m_most0 m_slot m_work m_got m_rowMany m_charAt m_charWide m_trail m_isMatch m_matchGroups m_allFrom m_allBefore m_founds m_pieces m_writtenMany m_templateWide m_tooMuch) f_MO_438 d_MO_takeStep_24 h80.2.2 rfl ?_
  refine zz_imul d_MO_takeStep_27 ?_
  refine ab_aload_n d_MO_takeStep_28 rfl ?_
  refine ab_getf (fs := mof m_thrown m_taped m_length m_out m_wide m_gathered m_sets m_ranges m_nodes m_at m_flags m_fault m_place m_numbered m_depth m_value m_isNot m_least0 m_most0 m_slot m_work m_got m_rowMany m_charAt m_charWide m_trail m_isMatch m_matchGroups m_allFrom m_allBefore m_founds m_pieces m_writtenMany m_templateWide m_tooMuch) f_MO_149 d_MO_takeStep_29 h80.2.2 rfl ?_
  refine ab_aload_n d_MO_takeStep_32 rfl ?_
  refine ab_getf (fs := mof m_thrown m_taped m_length m_out m_wide m_gathered m_sets m_ranges m_nodes m_at m_flags m_fault m_place m_numbered m_depth m_value m_isNot m_least0 m_most0 m_slot m_work m_got m_rowMany m_charAt m_charWide m_trail m_isMatch m_matchGroups m_allFrom m_allBefore m_founds m_pieces m_writtenMany m_templateWide m_tooMuch) f_MO_438 d_MO_takeStep_33 h80.2.2 rfl ?_
  refine zz_iald d_MO_takeStep_36 h125 (by omega) ?_
  have hq2 := gcc m_slot (by omega) (by omega)
  refine zz_iadd d_MO_takeStep_37 ?_
  refine ab_istore d_MO_takeStep_38 (Nat.le_of_ble_eq_true rfl) (Nat.le_of_ble_eq_true rfl) rfl ?_
  change ab_W _ _ _ G1 40 [some (vR 80), some (vz s_), some (vz to), some (vz (SN m_slot)), some (vz ((12500 * m_slot) + (SN m_slot))), some (vz ((600 * m_slot) + (CC m_slot))), none] [] _
  refine zz_iconst d_MO_takeStep_40 ?_
  refine ab_istore d_MO_takeStep_41 (Nat.le_of_ble_eq_true rfl) (Nat.le_of_ble_eq_true rfl) rfl ?_
  change ab_W _ _ _ G1 43 [some (vR 80), some (vz s_), some (vz to), some (vz (SN m_slot)), some (vz ((12500 * m_slot) + (SN m_slot))), some (vz ((600 * m_slot) + (CC m_slot))), some (vz 0)] [] _
  refine ab_less (L' := [some (vR 80), some (vz s_), none, some (vz (SN m_slot)), some (vz ((12500 * m_slot) + (SN m_slot))), some (vz ((600 * m_slot) + (CC m_slot))), some (vz 0)]) (fun i v h => by rcases i with _ | _ | _ | _ | _ | _ | _ | i <;> first | exact h | (simp at h)) ?_
  refine y_MO_takeStep_43 (m_thrown := m_thrown) (m_taped := m_taped) (m_length := m_length) (m_out := m_out) (m_wide := m_wide) (m_gathered := m_gathered) (m_sets := m_sets) (m_ranges := m_ranges) (m_nodes := m_nodes) (m_at := m_at) (m_flags := m_flags) (m_fault := m_fault) (m_place := m_place) (m_numbered := m_numbered) (m_depth := m_depth) (m_value := m_value) (m_isNot := m_isNot) (m_least0 := m_least0) (m_most0 := m_most0) (m_slot := m_slot) (m_work := m_work) (m_got := m_got) (m_rowMany := m_rowMany) (m_charAt := m_charAt) (m_charWide := m_charWide) (m_trail := m_trail) (m_isMatch := m_isMatch) (m_matchGroups := m_matchGroups) (m_allFrom := m_allFrom) (m_allBefore := m_allBefore) (m_founds := m_founds) (m_pieces := m_pieces) (m_writtenMany := m_writtenMany) (m_templateWide := m_templateWide) (m_tooMuch := m_tooMuch) (T := (zu T ((12500 * m_slot) + (SN m_slot)) 1)) (W := (zu W ((12500 * m_slot) + (SN m_slot)) 0)) (CA := CA) (CM := CM) (CL := CL) (CH := CH) (SM := SM) (SA := SA) (RL := RL) (RH := RH) (s_ := s_) (nn := (SN m_slot)) (kk := ((12500 * m_slot) + (SN m_slot))) (ns := ns) (cl := (CC m_slot)) (G0 := G1) (j := 0) (fm := ((600 * m_slot) + (CC m_slot))) (by omega) (rgs_zu gt (by omega)) (rgs_zu gw (by omega)) gca (tka_old jk) (by omega) (by omega) (Int.toNat ((SN m_slot) - 0) + 1) h80 h118 h120 h121 (by omega) (by omega) (Or.inl (by omega)) fx.rf rfl rfl (by omega) (fun G3 f24 hq5 hq6 hq7 hfk hlk hsk => ?_)
  · have h80 := hfk.get h80 (by decide)
    have h90 := hfk.get h90 (by decide)
    have h89 := hfk.get h89 (by decide)
    have h91 := hfk.get h91 (by decide)
    have h92 := hfk.get h92 (by decide)
    have h118 := hfk.get h118 (by decide)
    have h119 := hfk.get h119 (by decide)
    have h120 := hfk.get h120 (by decide)
    have h121 := hfk.get h121 (by decide)
    have h122 := hfk.get h122 (by decide)
    have h123 := hfk.get h123 (by decide)
    have h124 := hfk.get h124 (by decide)
    have h117 := hfk.get h117 (by decide)
    have h125 := hfk.get h125 (by decide)
    have hfr := hfr.tr hfk (by decide)
    have hlen := hlk.trans hlen
    have hsl := hsk.trans hsl
    change ab_W _ _ _ G3 113 [some (vR 80), some (vz s_), none, some (vz (SN m_slot)), some (vz ((12500 * m_slot) + (SN m_slot))), some (vz f24), none] [] _
    refine ab_iload d_MO_takeStep_113 rfl ?_
    refine zz_sipush d_MO_takeStep_115 (by decide) ?_
    refine ab_aload_n d_MO_takeStep_118 rfl ?_
    refine ab_getf (fs := mof m_thrown m_taped m_length m_out m_wide m_gathered m_sets m_ranges m_nodes m_at m_flags m_fault m_place m_numbered m_depth m_value m_isNot m_least0 m_most0 m_slot m_work m_got m_rowMany m_charAt m_charWide m_trail m_isMatch m_matchGroups m_allFrom m_allBefore m_founds m_pieces m_writtenMany m_templateWide m_tooMuch) f_MO_438 d_MO_takeStep_119 h80.2.2 rfl ?_
    refine zz_imul d_MO_takeStep_122 ?_
    refine ab_aload_n d_MO_takeStep_123 rfl ?_
    refine ab_getf (fs := mof m_thrown m_taped m_length m_out m_wide m_gathered m_sets m_ranges m_nodes m_at m_flags m_fault m_place m_numbered m_depth m_value m_isNot m_least0 m_most0 m_slot m_work m_got m_rowMany m_charAt m_charWide m_trail m_isMatch m_matchGroups m_allFrom m_allBefore m_founds m_pieces m_writtenMany m_templateWide m_tooMuch) f_MO_149 d_MO_takeStep_124 h80.2.2 rfl ?_
    refine ab_aload_n d_MO_takeStep_127 rfl ?_
    refine ab_getf (fs := mof m_thrown m_taped m_length m_out m_wide m_gathered m_sets m_ranges m_nodes m_at m_flags m_fault m_place m_numbered m_depth m_value m_isNot m_least0 m_most0 m_slot m_work m_got m_rowMany m_charAt m_charWide m_trail m_isMatch m_matchGroups m_allFrom m_allBefore m_founds m_pieces m_writtenMany m_templateWide m_tooMuch) f_MO_438 d_MO_takeStep_128 h80.2.2 rfl ?_
    refine zz_iald d_MO_takeStep_131 h125 (by omega) ?_
    have hq8 := gcc m_slot (by omega) (by omega)
    refine zz_iadd d_MO_takeStep_132 ?_
    refine zz_icmp_ne (tgt := 222) d_MO_takeStep_133 (by decide) (by omega) (by omega) (fun c9 => ?_) (fun c9 => ?_)
    · have hsn_ : zu SN m_slot ((SN m_slot) + 1) m_slot = (SN m_slot) + 1 := zu_self _ _ _
      refine ab_aload_n d_MO_takeStep_222 rfl ?_
      refine ab_getf (fs := mof m_thrown m_taped m_length m_out m_wide m_gathered m_sets m_ranges m_nodes m_at m_flags m_fault m_place m_numbered m_depth m_value m_isNot m_least0 m_most0 m_slot m_work m_got m_rowMany m_charAt m_charWide m_trail m_isMatch m_matchGroups m_allFrom m_allBefore m_founds m_pieces m_writtenMany m_templateWide m_tooMuch) f_MO_134 d_MO_takeStep_223 h80.2.2 rfl ?_
      refine ab_iload d_MO_takeStep_226 rfl ?_
      refine ab_iload_n d_MO_takeStep_228 rfl ?_
      refine zz_iast d_MO_takeStep_229 h120 (by omega) (h120.2.1 (by decide)) ?_
      obtain ⟨G10, eG10⟩ : ∃ z : ab_G, z = List.set G3 120 (za 75000 (zu (zu W ((12500 * m_slot) + (SN m_slot)) 0) ((12500 * m_slot) + (SN m_slot)) s_)) := ⟨_, rfl⟩
      have h80 := h80.keep h120 eG10 (by decide)
      have h90 := h90.keep h120 eG10 (by decide)
      have h89 := h89.keep h120 eG10 (by decide)
      have h91 := h91.keep h120 eG10 (by decide)
      have h92 := h92.keep h120 eG10 (by decide)
      have h118 := h118.keep h120 eG10 (by decide)
      have h119 := h119.keep h120 eG10 (by decide)
      have h121 := h121.keep h120 eG10 (by decide)
      have h122 := h122.keep h120 eG10 (by decide)
      have h123 := h123.keep h120 eG10 (by decide)
      have h124 := h124.keep h120 eG10 (by decide)
      have h117 := h117.keep h120 eG10 (by decide)
      have h125 := h125.keep h120 eG10 (by decide)
      have hlen := (z_len eG10).trans hlen
      have hsl := (z_sl h120 eG10 rfl).trans hsl
      have hfr := hfr.wr h120 eG10 (by decide)
      have h120 := h120.kept eG10
      change ab_W _ _ _ (List.set G3 120 (za 75000 (zu (zu W ((12500 * m_slot) + (SN m_slot)) 0) ((12500 * m_slot) + (SN m_slot)) s_))) 230 [some (vR 80), some (vz s_), none, some (vz (SN m_slot)), some (vz ((12500 * m_slot) + (SN m_slot))), some (vz f24), none] [] _
      rw [← eG10]
      refine ab_aload_n d_MO_takeStep_230 rfl ?_
      refine ab_getf (fs := mof m_thrown m_taped m_length m_out m_wide m_gathered m_sets m_ranges m_nodes m_at m_flags m_fault m_place m_numbered m_depth m_value m_isNot m_least0 m_most0 m_slot m_work m_got m_rowMany m_charAt m_charWide m_trail m_isMatch m_matchGroups m_allFrom m_allBefore m_founds m_pieces m_writtenMany m_templateWide m_tooMuch) f_MO_137 d_MO_takeStep_231 h80.2.2 rfl ?_
      refine ab_iload d_MO_takeStep_234 rfl ?_
      refine ab_iload d_MO_takeStep_236 rfl ?_
      refine zz_iast d_MO_takeStep_238 h121 (by omega) (h121.2.1 (by decide)) ?_
      obtain ⟨G11, eG11⟩ : ∃ z : ab_G, z = List.set G10 121 (za 75000 (zu CA ((12500 * m_slot) + (SN m_slot)) f24)) := ⟨_, rfl⟩
      have h80 := h80.keep h121 eG11 (by decide)
      have h90 := h90.keep h121 eG11 (by decide)
      have h89 := h89.keep h121 eG11 (by decide)
      have h91 := h91.keep h121 eG11 (by decide)
      have h92 := h92.keep h121 eG11 (by decide)
      have h118 := h118.keep h121 eG11 (by decide)
      have h119 := h119.keep h121 eG11 (by decide)
      have h120 := h120.keep h121 eG11 (by decide)
      have h122 := h122.keep h121 eG11 (by decide)
      have h123 := h123.keep h121 eG11 (by decide)
      have h124 := h124.keep h121 eG11 (by decide)
      have h117 := h117.keep h121 eG11 (by decide)
      have h125 := h125.keep h121 eG11 (by decide)
      have hlen := (z_len eG11).trans hlen
      have hsl := (z_sl h121 eG11 rfl).trans hsl
      have hfr := hfr.wr h121 eG11 (by decide)
      have h121 := h121.kept eG11
      change ab_W _ _ _ (List.set G10 121 (za 75000 (zu CA ((12500 * m_slot) + (SN m_slot)) f24))) 239 [some (vR 80), some (vz s_), none, some (vz (SN m_slot)), some (vz ((12500 * m_slot) + (SN m_slot))), some (vz f24), none] [] _
      rw [← eG11]
      refine ab_aload_n d_MO_takeStep_239 rfl ?_
      refine ab_getf (fs := mof m_thrown m_taped m_length m_out m_wide m_gathered m_sets m_ranges m_nodes m_at m_flags m_fault m_place m_numbered m_depth m_value m_isNot m_least0 m_most0 m_slot m_work m_got m_rowMany m_charAt m_charWide m_trail m_isMatch m_matchGroups m_allFrom m_allBefore m_founds m_pieces m_writtenMany m_templateWide m_tooMuch) f_MO_140 d_MO_takeStep_240 h80.2.2 rfl ?_
      refine ab_iload d_MO_takeStep_243 rfl ?_
      refine ab_aload_n d_MO_takeStep_245 rfl ?_
      refine ab_getf (fs := mof m_thrown m_taped m_length m_out m_wide m_gathered m_sets m_ranges m_nodes m_at m_flags m_fault m_place m_numbered m_depth m_value m_isNot m_least0 m_most0 m_slot m_work m_got m_rowMany m_charAt m_charWide m_trail m_isMatch m_matchGroups m_allFrom m_allBefore m_founds m_pieces m_writtenMany m_templateWide m_tooMuch) f_MO_37 d_MO_takeStep_246 h80.2.2 rfl ?_
      refine ab_iload_n d_MO_takeStep_249 rfl ?_
      refine zz_iald d_MO_takeStep_250 h90 (by omega) ?_
      have hq12 := jsm s_ (by omega) (by omega)
      refine zz_iast d_MO_takeStep_251 h122 (by omega) (h122.2.1 (by decide)) ?_
      obtain ⟨G13, eG13⟩ : ∃ z : ab_G, z = List.set G11 122 (za 75000 (zu CM ((12500 * m_slot) + (SN m_slot)) (SM s_))) := ⟨_, rfl⟩
      have h80 := h80.keep h122 eG13 (by decide)
      have h90 := h90.keep h122 eG13 (by decide)
      have h89 := h89.keep h122 eG13 (by decide)
      have h91 := h91.keep h122 eG13 (by decide)
      have h92 := h92.keep h122 eG13 (by decide)
      have h118 := h118.keep h122 eG13 (by decide)
      have h119 := h119.keep h122 eG13 (by decide)
      have h120 := h120.keep h122 eG13 (by decide)
      have h121 := h121.keep h122 eG13 (by decide)
      have h123 := h123.keep h122 eG13 (by decide)
      have h124 := h124.keep h122 eG13 (by decide)
      have h117 := h117.keep h122 eG13 (by decide)
      have h125 := h125.keep h122 eG13 (by decide)
      have hlen := (z_len eG13).trans hlen
      have hsl := (z_sl h122 eG13 rfl).trans hsl
      have hfr := hfr.wr h122 eG13 (by decide)
      have h122 := h122.kept eG13
      change ab_W _ _ _ (List.set G11 122 (za 75000 (zu CM ((12500 * m_slot) + (SN m_slot)) (SM s_)))) 252 [some (vR 80), some (vz s_), none, some (vz (SN m_slot)), some (vz ((12500 * m_slot) + (SN m_slot))), some (vz f24), none] [] _
      rw [← eG13]
      refine ab_iload_n d_MO_takeStep_252 rfl ?_
      refine zz_iret rfl d_MO_takeStep_253 ?_
      rw [hQ]; exact ⟨_, _, _, _, _, _, _, _, _, rfl, hfr, hlen, hsl, h118, h119, h120, h121, h122, h123, h124, h117, h125, (by first | exact (rgs_zu gt (by omega)) | exact rgs_w (rgs_zu gt (by omega)) (by omega)), (by first | exact (rgs_zu gn (by omega)) | exact rgs_w (rgs_zu gn (by omega)) (by omega)), (by first | exact (rgs_zu (rgs_zu gw (by omega)) (by omega)) | exact rgs_w (rgs_zu (rgs_zu gw (by omega)) (by omega)) (by omega)), (by first | exact (rgs_zu gca (by omega)) | exact rgs_w (rgs_zu gca (by omega)) (by omega)), (by first | exact (rgs_zu gcm (by omega)) | exact rgs_w (rgs_zu gcm (by omega)) (by omega)), (by first | exact gcl | exact rgs_w gcl (by omega)), (by first | exact gch | exact rgs_w gch (by omega)), (by first | exact (rgs_zu gsn (by omega)) | exact rgs_w (rgs_zu gsn (by omega)) (by omega)), (by first | exact gcc | exact rgs_w gcc (by omega)), (by omega), (by rw [zu_zu]; exact sgn_1 (by omega)), (by exact stx_tk (stx_add stx_rf (by omega)) (by omega)), (by exact sno_wr sno_rf), (by exact sno_rf), (by rw [zu_zu]; exact tka_new jk ccx.rf (by omega) (by omega) (by omega) (by omega) (hq7.resolve_left (by omega))), (by exact ccx.rf), (by exact ⟨by omega, zu_self _ _ _, zu_self _ _ _, zu_self _ _ _⟩)⟩
    · refine zz_iconst d_MO_takeStep_136 ?_
      refine ab_istore d_MO_takeStep_137 (Nat.le_of_ble_eq_true rfl) (Nat.le_of_ble_eq_true rfl) rfl ?_
      change ab_W _ _ _ G3 139 [some (vR 80), some (vz s_), none, some (vz (SN m_slot)), some (vz ((12500 * m_slot) + (SN m_slot))), some (vz f24), some (vz 0)] [] _
      refine y_MO_takeStep_139 (m_thrown := m_thrown) (m_taped := m_taped) (m_length := m_length) (m_out := m_out) (m_wide := m_wide) (m_gathered := m_gathered) (m_sets := m_sets) (m_ranges := m_ranges) (m_nodes := m_nodes) (m_at := m_at) (m_flags := m_flags) (m_fault := m_fault) (m_place := m_place) (m_numbered := m_numbered) (m_depth := m_depth) (m_value := m_value) (m_isNot := m_isNot) (m_least0 := m_least0) (m_most0 := m_most0) (m_slot := m_slot) (m_work := m_work) (m_got := m_got) (m_rowMany := m_rowMany) (m_charAt := m_charAt) (m_charWide := m_charWide) (m_trail := m_trail) (m_isMatch := m_isMatch) (m_matchGroups := m_matchGroups) (m_allFrom := m_allFrom) (m_allBefore := m_allBefore) (m_founds := m_founds) (m_pieces := m_pieces) (m_writtenMany := m_writtenMany) (m_templateWide := m_templateWide) (m_tooMuch := m_tooMuch) (CL0 := CL) (CH0 := CH) (SM := SM) (SA := SA) (RL := RL) (RH := RH) (s_ := s_) (fm := f24) (nn := (SN m_slot)) (kk := ((12500 * m_slot) + (SN m_slot))) (G0 := G3) (j := 0) (CL := CL) (CH := CH) (by omega) jrl jrh jsm jsa (by omega) (by omega) (Int.toNat (SM s_ - 0) + 1) h80 h90 h89 h91 h92 h123 h124 (by omega) gcl gch cpq_0 fx.rf rfl rfl (by omega) (fun G14 CL215 CH216 hN123 hN124 hq17 hq18 hq19 hfk hlk hsk => ?_)
      · have h80 := hfk.get h80 (by decide)
        have h90 := hfk.get h90 (by decide)
        have h89 := hfk.get h89 (by decide)
        have h91 := hfk.get h91 (by decide)
        have h92 := hfk.get h92 (by decide)
        have h118 := hfk.get h118 (by decide)
        have h119 := hfk.get h119 (by decide)
        have h120 := hfk.get h120 (by decide)
        have h121 := hfk.get h121 (by decide)
        have h122 := hfk.get h122 (by decide)
        have h117 := hfk.get h117 (by decide)
        have h125 := hfk.get h125 (by decide)
        have hfr := hfr.tr hfk (by decide)
        have hlen := hlk.trans hlen
        have hsl := hsk.trans hsl
        have h123 := hN123
        have h124 := hN124
        change ab_W _ _ _ G14 204 [some (vR 80), some (vz s_), none, some (vz (SN m_slot)), some (vz ((12500 * m_slot) + (SN m_slot))), some (vz f24), none] [] _
        refine ab_aload_n d_MO_takeStep_204 rfl ?_
        refine ab_getf (fs := mof m_thrown m_taped m_length m_out m_wide m_gathered m_sets m_ranges m_nodes m_at m_flags m_fault m_place m_numbered m_depth m_value m_isNot m_least0 m_most0 m_slot m_work m_got m_rowMany m_charAt m_charWide m_trail m_isMatch m_matchGroups m_allFrom m_allBefore m_founds m_pieces m_writtenMany m_templateWide m_tooMuch) f_MO_149 d_MO_takeStep_205 h80.2.2 rfl ?_
        refine ab_aload_n d_MO_takeStep_208 rfl ?_
        refine ab_getf (fs := mof m_thrown m_taped m_length m_out m_wide m_gathered m_sets m_ranges m_nodes m_at m_flags m_fault m_place m_numbered m_depth m_value m_isNot m_least0 m_most0 m_slot m_work m_got m_rowMany m_charAt m_charWide m_trail m_isMatch m_matchGroups m_allFrom m_allBefore m_founds m_pieces m_writtenMany m_templateWide m_tooMuch) f_MO_438 d_MO_takeStep_209 h80.2.2 rfl ?_
        refine ab_dup2 d_MO_takeStep_212 rfl rfl ?_
        refine zz_iald d_MO_takeStep_213 h125 (by omega) ?_
        have hq20 := gcc m_slot (by omega) (by omega)
        refine ab_aload_n d_MO_takeStep_214 rfl ?_
        refine ab_getf (fs := mof m_thrown m_taped m_length m_out m_wide m_gathered m_sets m_ranges m_nodes m_at m_flags m_fault m_place m_numbered m_depth m_value m_isNot m_least0 m_most0 m_slot m_work m_got m_rowMany m_charAt m_charWide m_trail m_isMatch m_matchGroups m_allFrom m_allBefore m_founds m_pieces m_writtenMany m_templateWide m_tooMuch) f_MO_37 d_MO_takeStep_215 h80.2.2 rfl ?_
        refine ab_iload_n d_MO_takeStep_218 rfl ?_
        refine zz_iald d_MO_takeStep_219 h90 (by omega) ?_
        have hq21 := jsm s_ (by omega) (by omega)
        refine zz_iadd d_MO_takeStep_220 ?_
        refine zz_iast d_MO_takeStep_221 h125 (by omega) (h125.2.1 (by decide)) ?_
        obtain ⟨G22, eG22⟩ : ∃ z : ab_G, z = List.set G14 125 (za 6 (zu CC m_slot ((CC m_slot) + (SM s_)))) := ⟨_, rfl⟩
        have h80 := h80.keep h125 eG22 (by decide)
        have h90 := h90.keep h125 eG22 (by decide)
        have h89 := h89.keep h125 eG22 (by decide)
        have h91 := h91.keep h125 eG22 (by decide)
        have h92 := h92.keep h125 eG22 (by decide)
        have h118 := h118.keep h125 eG22 (by decide)
        have h119 := h119.keep h125 eG22 (by decide)
        have h120 := h120.keep h125 eG22 (by decide)
        have h121 := h121.keep h125 eG22 (by decide)
        have h122 := h122.keep h125 eG22 (by decide)
        have h123 := h123.keep h125 eG22 (by decide)
        have h124 := h124.keep h125 eG22 (by decide)
        have h117 := h117.keep h125 eG22 (by decide)
        have hlen := (z_len eG22).trans hlen
        have hsl := (z_sl h125 eG22 rfl).trans hsl
        have hfr := hfr.wr h125 eG22 (by decide)
        have h125 := h125.kept eG22
        change ab_W _ _ _ (List.set G14 125 (za 6 (zu CC m_slot ((CC m_slot) + (SM s_))))) 222 [some (vR 80), some (vz s_), none, some (vz (SN m_slot)), some (vz ((12500 * m_slot) + (SN m_slot))), some (vz f24), none] [] _
        rw [← eG22]
        have hcc_ : zu CC m_slot ((CC m_slot) + (SM s_)) m_slot = ((CC m_slot) + (SM s_)) := zu_self _ _ _
        have hsn_ : zu SN m_slot ((SN m_slot) + 1) m_slot = (SN m_slot) + 1 := zu_self _ _ _
        refine ab_aload_n d_MO_takeStep_222 rfl ?_
        refine ab_getf (fs := mof m_thrown m_taped m_length m_out m_wide m_gathered m_sets m_ranges m_nodes m_at m_flags m_fault m_place m_numbered m_depth m_value m_isNot m_least0 m_most0 m_slot m_work m_got m_rowMany m_charAt m_charWide m_trail m_isMatch m_matchGroups m_allFrom m_allBefore m_founds m_pieces m_writtenMany m_templateWide m_tooMuch) f_MO_134 d_MO_takeStep_223 h80.2.2 rfl ?_
        refine ab_iload d_MO_takeStep_226 rfl ?_
        refine ab_iload_n d_MO_takeStep_228 rfl ?_
        refine zz_iast d_MO_takeStep_229 h120 (by omega) (h120.2.1 (by decide)) ?_
        obtain ⟨G23, eG23⟩ : ∃ z : ab_G, z = List.set G22 120 (za 75000 (zu (zu W ((12500 * m_slot) + (SN m_slot)) 0) ((12500 * m_slot) + (SN m_slot)) s_)) := ⟨_, rfl⟩
        have h80 := h80.keep h120 eG23 (by decide)
        have h90 := h90.keep h120 eG23 (by decide)
        have h89 := h89.keep h120 eG23 (by decide)
        have h91 := h91.keep h120 eG23 (by decide)
        have h92 := h92.keep h120 eG23 (by decide)
        have h118 := h118.keep h120 eG23 (by decide)
        have h119 := h119.keep h120 eG23 (by decide)
        have h121 := h121.keep h120 eG23 (by decide)
        have h122 := h122.keep h120 eG23 (by decide)
        have h123 := h123.keep h120 eG23 (by decide)
        have h124 := h124.keep h120 eG23 (by decide)
        have h117 := h117.keep h120 eG23 (by decide)
        have h125 := h125.keep h120 eG23 (by decide)
        have hlen := (z_len eG23).trans hlen
        have hsl := (z_sl h120 eG23 rfl).trans hsl
        have hfr := hfr.wr h120 eG23 (by decide)
        have h120 := h120.kept eG23
        change ab_W _ _ _ (List.set G22 120 (za 75000 (zu (zu W ((12500 * m_slot) + (SN m_slot)) 0) ((12500 * m_slot) + (SN m_slot)) s_))) 230 [some (vR 80), some (vz s_), none, some (vz (SN m_slot)), some (vz ((12500 * m_slot) + (SN m_slot))), some (vz f24), none] [] _
        rw [← eG23]
        refine ab_aload_n d_MO_takeStep_230 rfl ?_
        refine ab_getf (fs := mof m_thrown m_taped m_length m_out m_wide m_gathered m_sets m_ranges m_nodes m_at m_flags m_fault m_place m_numbered m_depth m_value m_isNot m_least0 m_most0 m_slot m_work m_got m_rowMany m_charAt m_charWide m_trail m_isMatch m_matchGroups m_allFrom m_allBefore m_founds m_pieces m_writtenMany m_templateWide m_tooMuch) f_MO_137 d_MO_takeStep_231 h80.2.2 rfl ?_
        refine ab_iload d_MO_takeStep_234 rfl ?_
        refine ab_iload d_MO_takeStep_236 rfl ?_
        refine zz_iast d_MO_takeStep_238 h121 (by omega) (h121.2.1 (by decide)) ?_
        obtain ⟨G24, eG24⟩ : ∃ z : ab_G, z = List.set G23 121 (za 75000 (zu CA ((12500 * m_slot) + (SN m_slot)) f24)) := ⟨_, rfl⟩
        have h80 := h80.keep h121 eG24 (by decide)
        have h90 := h90.keep h121 eG24 (by decide)
        have h89 := h89.keep h121 eG24 (by decide)
        have h91 := h91.keep h121 eG24 (by decide)
        have h92 := h92.keep h121 eG24 (by decide)
        have h118 := h118.keep h121 eG24 (by decide)
        have h119 := h119.keep h121 eG24 (by decide)
        have h120 := h120.keep h121 eG24 (by decide)
        have h122 := h122.keep h121 eG24 (by decide)
        have h123 := h123.keep h121 eG24 (by decide)
        have h124 := h124.keep h121 eG24 (by decide)
        have h117 := h117.keep h121 eG24 (by decide)
        have h125 := h125.keep h121 eG24 (by decide)
        have hlen := (z_len eG24).trans hlen
        have hsl := (z_sl h121 eG24 rfl).trans hsl
        have hfr := hfr.wr h121 eG24 (by decide)
        have h121 := h121.kept eG24
        change ab_W _ _ _ (List.set G23 121 (za 75000 (zu CA ((12500 * m_slot) + (SN m_slot)) f24))) 239 [some (vR 80), some (vz s_), none, some (vz (SN m_slot)), some (vz ((12500 * m_slot) + (SN m_slot))), some (vz f24), none] [] _
        rw [← eG24]
        refine ab_aload_n d_MO_takeStep_239 rfl ?_
        refine ab_getf (fs := mof m_thrown m_taped m_length m_out m_wide m_gathered m_sets m_ranges m_nodes m_at m_flags m_fault m_place m_numbered m_depth m_value m_isNot m_least0 m_most0 m_slot m_work m_got m_rowMany m_charAt m_charWide m_trail m_isMatch m_matchGroups m_allFrom m_allBefore m_founds m_pieces m_writtenMany m_templateWide m_tooMuch) f_MO_140 d_MO_takeStep_240 h80.2.2 rfl ?_
        refine ab_iload d_MO_takeStep_243 rfl ?_
        refine ab_aload_n d_MO_takeStep_245 rfl ?_
        refine ab_getf (fs := mof m_thrown m_taped m_length m_out m_wide m_gathered m_sets m_ranges m_nodes m_at m_flags m_fault m_place m_numbered m_depth m_value m_isNot m_least0 m_most0 m_slot m_work m_got m_rowMany m_charAt m_charWide m_trail m_isMatch m_matchGroups m_allFrom m_allBefore m_founds m_pieces m_writtenMany m_templateWide m_tooMuch) f_MO_37 d_MO_takeStep_246 h80.2.2 rfl ?_
        refine ab_iload_n d_MO_takeStep_249 rfl ?_
        refine zz_iald d_MO_takeStep_250 h90 (by omega) ?_
        have hq25 := jsm s_ (by omega) (by omega)
        refine zz_iast d_MO_takeStep_251 h122 (by omega) (h122.2.1 (by decide)) ?_
        obtain ⟨G26, eG26⟩ : ∃ z : ab_G, z = List.set G24 122 (za 75000 (zu CM ((12500 * m_slot) + (SN m_slot)) (SM s_))) := ⟨_, rfl⟩
        have h80 := h80.keep h122 eG26 (by decide)
        have h90 := h90.keep h122 eG26 (by decide)
        have h89 := h89.keep h122 eG26 (by decide)
        have h91 := h91.keep h122 eG26 (by decide)
        have h92 := h92.keep h122 eG26 (by decide)
        have h118 := h118.keep h122 eG26 (by decide)
        have h119 := h119.keep h122 eG26 (by decide)
        have h120 := h120.keep h122 eG26 (by decide)
        have h121 := h121.keep h122 eG26 (by decide)
        have h123 := h123.keep h122 eG26 (by decide)
        have h124 := h124.keep h122 eG26 (by decide)
        have h117 := h117.keep h122 eG26 (by decide)
        have h125 := h125.keep h122 eG26 (by decide)
        have hlen := (z_len eG26).trans hlen
        have hsl := (z_sl h122 eG26 rfl).trans hsl
        have hfr := hfr.wr h122 eG26 (by decide)
        have h122 := h122.kept eG26
        change ab_W _ _ _ (List.set G24 122 (za 75000 (zu CM ((12500 * m_slot) + (SN m_slot)) (SM s_)))) 252 [some (vR 80), some (vz s_), none, some (vz (SN m_slot)), some (vz ((12500 * m_slot) + (SN m_slot))), some (vz f24), none] [] _
        rw [← eG26]
        refine ab_iload_n d_MO_takeStep_252 rfl ?_
        refine zz_iret rfl d_MO_takeStep_253 ?_
        rw [hQ]; exact ⟨_, _, _, _, _, _, _, _, _, rfl, hfr, hlen, hsl, h118, h119, h120, h121, h122, h123, h124, h117, h125, (by first | exact (rgs_zu gt (by omega)) | exact rgs_w (rgs_zu gt (by omega)) (by omega)), (by first | exact (rgs_zu gn (by omega)) | exact rgs_w (rgs_zu gn (by omega)) (by omega)), (by first | exact (rgs_zu (rgs_zu gw (by omega)) (by omega)) | exact rgs_w (rgs_zu (rgs_zu gw (by omega)) (by omega)) (by omega)), (by first | exact (rgs_zu gca (by omega)) | exact rgs_w (rgs_zu gca (by omega)) (by omega)), (by first | exact (rgs_zu gcm (by omega)) | exact rgs_w (rgs_zu gcm (by omega)) (by omega)), (by first | exact hq17 | exact rgs_w hq17 (by omega)), (by first | exact hq18 | exact rgs_w hq18 (by omega)), (by first | exact (rgs_zu gsn (by omega)) | exact rgs_w (rgs_zu gsn (by omega)) (by omega)), (by first | exact (rgs_zu gcc (by omega)) | exact rgs_w (rgs_zu gcc (by omega)) (by omega)), (by omega), (by rw [zu_zu]; exact sgn_1 (by omega)), (by exact stx_tk (stx_add stx_rf (by omega)) (by omega)), (by exact sno_wr sno_rf), (by exact sno_wr sno_rf), (by rw [zu_zu]; exact tka_new jk (hq19.cc (by omega) (by omega)) (by omega) (by omega) (by omega) (by omega) hq19.2), (by exact hq19.cc (by omega) (by omega)), (by exact ⟨by omega, zu_self _ _ _, zu_self _ _ _, zu_self _ _ _⟩)⟩
set_option maxRecDepth 100000 in
set_option maxHeartbeats 4000000 in
theorem y_MO_fromEnd_10 {X : ab_X} {d : Nat} {Q : Outcome → ab_G → Prop} {o : Nat → Nat} {G0 : ab_G} {m_thrown : Int} {m_taped : Int} {m_length : Int} {m_out : Int} {m_wide : Int} {m_gathered : Int} {m_sets : Int} {m_ranges : Int} {m_nodes : Int} {m_at : Int} {m_flags : Int} {m_fault : Int} {m_place : Int} {m_numbered : Int} {m_depth : Int} {m_value : Int} {m_isNot : Int} {m_least0 : Int} {m_most0 : Int} {m_slot : Int} {m_work : Int} {m_got : Int} {m_rowMany : Int} {m_charAt : Int} {m_charWide : Int} {m_trail : Int} {m_isMatch : Int} {m_matchGroups : Int} {m_allFrom : Int} {m_allBefore : Int} {m_founds : Int} {m_pieces : Int} {m_writtenMany : Int} {m_templateWide : Int} {m_tooMuch : Int} {K : Int → Int} {O : Int → Int} {Fi : Int → Int} {Be : Int → Int} {Le : Int → Int} {Mo : Int → Int} {Z : Int → Int} {SM : Int → Int} {k : Int} {x : Int} {ns : Int} {pa : Int → Int} {po : Int → Int} {MN : Int → Int} {dl : Int → Int} {st : Int → Int} {ht : Int → Int} {hh : Int → Int} {PS : Int → Int → Int} {T_ : Int} {QF : Int → Int} {QL : Int → Int} {AF : Int → Int} {AL : Int → Int} {SD : Int → Int} {nd : Int} (jG : rtG K O Fi Be Le Mo Z SM QF QL AF AL SD nd ns 0 pa po MN dl st ht hh PS T_) (cnd : 0 ≤ nd ∧ nd ≤ 4200 ∧ 0 ≤ x ∧ x < 4200) (hd : 1 ≤ d) : ∀ (mz : Nat) {G : ab_G} {y : Int} {q : Int}, (cc o G 80 280 (ab_ob 12 (mof m_thrown m_taped m_length m_out m_wide m_gathered m_sets m_ranges m_nodes m_at m_flags m_fault m_place m_numbered m_depth m_value m_isNot m_least0 m_most0 m_slot m_work m_got m_rowMany m_charAt m_charWide m_trail m_isMatch m_matchGroups m_allFrom m_allBefore m_founds m_pieces m_writtenMany m_templateWide m_tooMuch))) → (cc o G 97 297 (za 4200 Be)) → (-1 ≤ y ∧ y < 4200 ∧ 0 ≤ q ∧ q ≤ 4200) → (rtq nd pa po MN x y q) → (fx o o [] G0 G) → (G.length = G0.length) → (ab_slots G = ab_slots G0) → (Int.toNat (MN x - q) < mz) → (∀ (G2 : ab_G) (q2 : Int), (q2 = MN x) → (0 ≤ q2 ∧ q2 ≤ 4200) → (fx o o [] G0 G2) → (G2.length = G0.length) → (ab_slots G2 = ab_slots G0) → ab_W X (ab_pl y_MO_fromEnd b_MO_fromEnd 6 (some (.int))) d G2 30 [some (vR 80), some (vz x), some (vz k), some (vz q2), none, none] [] Q) → ab_W X (ab_pl y_MO_fromEnd b_MO_fromEnd 6 (some (.int))) d G 10 [some (vR 80), some (vz x), some (vz k), some (vz q), some (vz y), none] [] Q := by
  intro mz
  induction mz with
  | zero => intro G y q h80 h97 ci jq hfr hlen hsl hm hk0; exact absurd hm (Nat.not_lt_zero _)
  | succ mz ih =>
    intro G y q h80 h97 ci jq hfr hlen hsl hm hk0
    refine ab_iload d_MO_fromEnd_10 rfl ?_
    refine zz_if_lt (tgt := 30) d_MO_fromEnd_12 (by decide) (by omega) (fun c1 => ?_) (fun c1 => ?_)
    · refine ab_less (L' := [some (vR 80), some (vz x), some (vz k), some (vz q), none, none]) (fun i v h => by rcases i with _ | _ | _ | _ | _ | _ | i <;> first | exact h | (simp at h)) ?_
      exact hk0 _ q (by exact rtq_e jq (by omega)) (by omega) hfr hlen hsl
    · obtain ⟨hq1_, hq2_, hq3_, hq4_, hq5_, hq6_, hq7_⟩ := rtq_s jG jq (by omega) (by omega)
      have hqn_ := rtq_n jG jq (by omega) (by omega)
      refine zz_iinc d_MO_fromEnd_15 rfl (Nat.le_of_ble_eq_true rfl) (Nat.le_of_ble_eq_true rfl) rfl ?_
      change ab_W _ _ _ G 18 [some (vR 80), some (vz x), some (vz k), some (vz (q + 1)), some (vz y), none] [] _
      refine ab_aload_n d_MO_fromEnd_18 rfl ?_
      refine ab_getf (fs := mof m_thrown m_taped m_length m_out m_wide m_gathered m_sets m_ranges m_nodes m_at m_flags m_fault m_place m_numbered m_depth m_value m_isNot m_least0 m_most0 m_slot m_work m_got m_rowMany m_charAt m_charWide m_trail m_isMatch m_matchGroups m_allFrom m_allBefore m_founds m_pieces m_writtenMany m_templateWide m_tooMuch) f_MO_59 d_MO_fromEnd_19 h80.2.2 rfl ?_
      refine ab_iload d_MO_fromEnd_22 rfl ?_
      refine zz_iald d_MO_fromEnd_24 h97 (by omega) ?_
      refine ab_istore d_MO_fromEnd_25 (Nat.le_of_ble_eq_true rfl) (Nat.le_of_ble_eq_true rfl) rfl ?_
      change ab_W _ _ _ G 27 [some (vR 80), some (vz x), some (vz k), some (vz (q + 1)), some (vz (Be y)), none] [] _
      refine ab_goto (tgt := 10) d_MO_fromEnd_27 (by decide) ?_
      exact ih (y := (Be y)) (q := (q + 1)) h80 h97 (by omega) hq1_ hfr hlen hsl (by omega) hk0
set_option maxRecDepth 100000 in
set_option maxHeartbeats 4000000 in
theorem y_MO_fromEnd_48 {X : ab_X} {d : Nat} {Q : Outcome → ab_G → Prop} {o : Nat → Nat} {G0 : ab_G} {m_thrown : Int} {m_taped : Int} {m_length : Int} {m_out : Int} {m_wide : Int} {m_gathered : Int} {m_sets : Int} {m_ranges : Int} {m_nodes : Int} {m_at : Int} {m_flags : Int} {m_fault : Int} {m_place : Int} {m_numbered : Int} {m_depth : Int} {m_value : Int} {m_isNot : Int} {m_least0 : Int} {m_most0 : Int} {m_slot : Int} {m_work : Int} {m_got : Int} {m_rowMany : Int} {m_charAt : Int} {m_charWide : Int} {m_trail : Int} {m_isMatch : Int} {m_matchGroups : Int} {m_allFrom : Int} {m_allBefore : Int} {m_founds : Int} {m_pieces : Int} {m_writtenMany : Int} {m_templateWide : Int} {m_tooMuch : Int} {K : Int → Int} {O : Int → Int} {Fi : Int → Int} {Be : Int → Int} {Le : Int → Int} {Mo : Int → Int} {Z : Int → Int} {SM : Int → Int} {k : Int} {x : Int} {ns : Int} {pa : Int → Int} {po : Int → Int} {MN : Int → Int} {dl : Int → Int} {st : Int → Int} {ht : Int → Int} {hh : Int → Int} {PS : Int → Int → Int} {T_ : Int} {QF : Int → Int} {QL : Int → Int} {AF : Int → Int} {AL : Int → Int} {SD : Int → Int} {nd : Int} {mny : Int} (jG : rtG K O Fi Be Le Mo Z SM QF QL AF AL SD nd ns 0 pa po MN dl st ht hh PS T_) (cnd : 0 ≤ nd ∧ nd ≤ 4200 ∧ 0 ≤ x ∧ x < 4200) (hmn_ : 0 ≤ MN x ∧ MN x ≤ 4200 ∧ mny = MN x ∧ 0 ≤ k ∧ k < mny) (hd : 1 ≤ d) : ∀ (mz : Nat) {G : ab_G} {y : Int} {q : Int}, (cc o G 80 280 (ab_ob 12 (mof m_thrown m_taped m_length m_out m_wide m_gathered m_sets m_ranges m_nodes m_at m_flags m_fault m_place m_numbered m_depth m_value m_isNot m_least0 m_most0 m_slot m_work m_got m_rowMany m_charAt m_charWide m_trail m_isMatch m_matchGroups m_allFrom m_allBefore m_founds m_pieces m_writtenMany m_templateWide m_tooMuch))) → (cc o G 97 297 (za 4200 Be)) → (-1 ≤ y ∧ y < 4200 ∧ 0 ≤ q ∧ q ≤ mny - 1 - k) → (rtq nd pa po MN x y q) → (nthI Fi Be x q y) → (fx o o [] G0 G) → (G.length = G0.length) → (ab_slots G = ab_slots G0) → (Int.toNat (mny - q) < mz) → (∀ (G2 : ab_G) (y2 : Int), (0 ≤ y2 ∧ y2 < nd) → (pa y2 = x ∧ po y2 = MN x - 1 - k) → (nthI Fi Be x (MN x - 1 - k) y2) → (fx o o [] G0 G2) → (G2.length = G0.length) → (ab_slots G2 = ab_slots G0) → ab_W X (ab_pl y_MO_fromEnd b_MO_fromEnd 6 (some (.int))) d G2 73 [none, none, none, none, some (vz y2), none] [] Q) → ab_W X (ab_pl y_MO_fromEnd b_MO_fromEnd 6 (some (.int))) d G 48 [some (vR 80), some (vz x), some (vz k), some (vz mny), some (vz y), some (vz q)] [] Q := by
  intro mz
  induction mz with
  | zero => intro G y q h80 h97 ci jq jn hfr hlen hsl hm hk0; exact absurd hm (Nat.not_lt_zero _)
  | succ mz ih =>
    intro G y q h80 h97 ci jq jn hfr hlen hsl hm hk0
    refine ab_iload d_MO_fromEnd_48 rfl ?_
    refine ab_iload_n d_MO_fromEnd_50 rfl ?_
    refine zz_iconst d_MO_fromEnd_51 ?_
    refine zz_isub d_MO_fromEnd_52 ?_
    refine ab_iload_n d_MO_fromEnd_53 rfl ?_
    refine zz_isub d_MO_fromEnd_54 ?_
    refine zz_icmp_ge (tgt := 73) d_MO_fromEnd_55 (by decide) (by omega) (by omega) (fun c1 => ?_) (fun c1 => ?_)
    · refine ab_less (L' := [none, none, none, none, some (vz y), none]) (fun i v h => by rcases i with _ | _ | _ | _ | _ | _ | i <;> first | exact h | (simp at h)) ?_
      exact hk0 _ _ (by have t_ := rtq_p jq (by omega); omega) (by have t_ := rtq_p jq (by omega); exact ⟨t_.2.1, by omega⟩) (by exact (show q = MN x - 1 - k by omega) ▸ jn) hfr hlen hsl
    · have hp_ := rtq_p jq (by omega)
      obtain ⟨hq1_, hq2_, hq3_, hq4_, hq5_, hq6_, hq7_⟩ := rtq_s jG jq (by omega) (by omega)
      refine ab_aload_n d_MO_fromEnd_58 rfl ?_
      refine ab_getf (fs := mof m_thrown m_taped m_length m_out m_wide m_gathered m_sets m_ranges m_nodes m_at m_flags m_fault m_place m_numbered m_depth m_value m_isNot m_least0 m_most0 m_slot m_work m_got m_rowMany m_charAt m_charWide m_trail m_isMatch m_matchGroups m_allFrom m_allBefore m_founds m_pieces m_writtenMany m_templateWide m_tooMuch) f_MO_59 d_MO_fromEnd_59 h80.2.2 rfl ?_
      refine ab_iload d_MO_fromEnd_62 rfl ?_
      refine zz_iald d_MO_fromEnd_64 h97 (by omega) ?_
      refine ab_istore d_MO_fromEnd_65 (Nat.le_of_ble_eq_true rfl) (Nat.le_of_ble_eq_true rfl) rfl ?_
      change ab_W _ _ _ G 67 [some (vR 80), some (vz x), some (vz k), some (vz mny), some (vz (Be y)), some (vz q)] [] _
      refine zz_iinc d_MO_fromEnd_67 rfl (Nat.le_of_ble_eq_true rfl) (Nat.le_of_ble_eq_true rfl) rfl ?_
      change ab_W _ _ _ G 70 [some (vR 80), some (vz x), some (vz k), some (vz mny), some (vz (Be y)), some (vz (q + 1))] [] _
      refine ab_goto (tgt := 48) d_MO_fromEnd_70 (by decide) ?_
      exact ih (y := (Be y)) (q := (q + 1)) h80 h97 (by omega) hq1_ (nthI_s jn (by omega)) hfr hlen hsl (by omega) hk0
set_option maxRecDepth 100000 in
set_option maxHeartbeats 4000000 in
theorem z_MO_fromEnd {X : ab_X} {d : Nat} {o : Nat → Nat} {G : ab_G} {m_thrown : Int} {m_taped : Int} {m_length : Int} {m_out : Int} {m_wide : Int} {m_gathered : Int} {m_sets : Int} {m_ranges : Int} {m_nodes : Int} {m_at : Int} {m_flags : Int} {m_fault : Int} {m_place : Int} {m_numbered : Int} {m_depth : Int} {m_value : Int} {m_isNot : Int} {m_least0 : Int} {m_most0 : Int} {m_slot : Int} {m_work : Int} {m_got : Int} {m_rowMany : Int} {m_charAt : Int} {m_charWide : Int} {m_trail : Int} {m_isMatch : Int} {m_matchGroups : Int} {m_allFrom : Int} {m_allBefore : Int} {m_founds : Int} {m_pieces : Int} {m_writtenMany : Int} {m_templateWide : Int} {m_tooMuch : Int} {K : Int → Int} {O : Int → Int} {Fi : Int → Int} {Be : Int → Int} {Le : Int → Int} {Mo : Int → Int} {Z : Int → Int} {SM : Int → Int} {k : Int} {x : Int} {ns : Int} {pa : Int → Int} {po : Int → Int} {MN : Int → Int} {dl : Int → Int} {st : Int → Int} {ht : Int → Int} {hh : Int → Int} {PS : Int → Int → Int} {T_ : Int} {QF : Int → Int} {QL : Int → Int} {AF : Int → Int} {AL : Int → Int} {SD : Int → Int} {nd : Int} (h80 : cc o G 80 280 (ab_ob 12 (mof m_thrown m_taped m_length m_out m_wide m_gathered m_sets m_ranges m_nodes m_at m_flags m_fault m_place m_numbered m_depth m_value m_isNot m_least0 m_most0 m_slot m_work m_got m_rowMany m_charAt m_charWide m_trail m_isMatch m_matchGroups m_allFrom m_allBefore m_founds m_pieces m_writtenMany m_templateWide m_tooMuch))) (h96 : cc o G 96 296 (za 4200 Fi)) (h97 : cc o G 97 297 (za 4200 Be)) (jG : rtG K O Fi Be Le Mo Z SM QF QL AF AL SD nd ns 0 pa po MN dl st ht hh PS T_) (cnd : 0 ≤ nd ∧ nd ≤ 4200 ∧ 0 ≤ x ∧ x < 4200) (jfi : rgs Fi 4200 (-1) 4199) (jf : rtF nd pa po MN x (Fi x)) (ck : 0 ≤ k ∧ k ≤ 4300) (hd : 2 ≤ d) : ab_F X d y_MO_fromEnd (.code y_MO_fromEnd b_MO_fromEnd 6 (some (.int))) [vR 80, vz x, vz k] G (fun oc G2 => (oc = .returned (some (vz (-1))) ∧ fx o o [] G G2 ∧ G2.length = G.length ∧ ab_slots G2 = ab_slots G ∧ (MN x ≤ k ∧ 0 ≤ MN x ∧ MN x ≤ 4200)) ∨ (∃ c2 : Int, oc = .returned (some (vz c2)) ∧ fx o o [] G G2 ∧ G2.length = G.length ∧ ab_slots G2 = ab_slots G ∧ (0 ≤ c2 ∧ c2 < nd ∧ k < MN x ∧ MN x ≤ 4200) ∧ (pa c2 = x ∧ po c2 = MN x - 1 - k) ∧ (nthI Fi Be x (MN x - 1 - k) c2))) := by
  refine ab_F_of (by decide +kernel) (Nat.le_of_ble_eq_true rfl) ?_
  obtain ⟨Q, hQ⟩ : ∃ z : Outcome → ab_G → Prop, z = (fun oc G2 => (oc = .returned (some (vz (-1))) ∧ fx o o [] G G2 ∧ G2.length = G.length ∧ ab_slots G2 = ab_slots G ∧ (MN x ≤ k ∧ 0 ≤ MN x ∧ MN x ≤ 4200)) ∨ (∃ c2 : Int, oc = .returned (some (vz c2)) ∧ fx o o [] G G2 ∧ G2.length = G.length ∧ ab_slots G2 = ab_slots G ∧ (0 ≤ c2 ∧ c2 < nd ∧ k < MN x ∧ MN x ≤ 4200) ∧ (pa c2 = x ∧ po c2 = MN x - 1 - k) ∧ (nthI Fi Be x (MN x - 1 - k) c2))) := ⟨_, rfl⟩
  rw [← hQ]
  change ab_W X (ab_pl y_MO_fromEnd b_MO_fromEnd 6 (some (.int))) d G 0 [some (vR 80), some (vz x), some (vz k), none, none, none] [] Q
  have hfr : fx o o [] G G := fx.rf
  have hlen : G.length = G.length := rfl
  have hsl : ab_slots G = ab_slots G := rfl
  refine zz_iconst d_MO_fromEnd_0 ?_
  refine ab_istore_n d_MO_fromEnd_1 (Nat.le_of_ble_eq_true rfl) (Nat.le_of_ble_eq_true rfl) rfl ?_
  change ab_W _ _ _ G 2 [some (vR 80), some (vz x), some (vz k), some (vz 0), none, none] [] _
  refine ab_aload_n d_MO_fromEnd_2 rfl ?_
  refine ab_getf (fs := mof m_thrown m_taped m_length m_out m_wide m_gathered m_sets m_ranges m_nodes m_at m_flags m_fault m_place m_numbered m_depth m_value m_isNot m_least0 m_most0 m_slot m_work m_got m_rowMany m_charAt m_charWide m_trail m_isMatch m_matchGroups m_allFrom m_allBefore m_founds m_pieces m_writtenMany m_templateWide m_tooMuch) f_MO_56 d_MO_fromEnd_3 h80.2.2 rfl ?_
  refine ab_iload_n d_MO_fromEnd_6 rfl ?_
  refine zz_iald d_MO_fromEnd_7 h96 (by omega) ?_
  have hq1 := jfi x (by omega) (by omega)
  refine ab_istore d_MO_fromEnd_8 (Nat.le_of_ble_eq_true rfl) (Nat.le_of_ble_eq_true rfl) rfl ?_
  change ab_W _ _ _ G 10 [some (vR 80), some (vz x), some (vz k), some (vz 0), some (vz (Fi x)), none] [] _
  refine y_MO_fromEnd_10 (m_thrown := m_thrown) (m_taped := m_taped) (m_length := m_length) (m_out := m_out) (m_wide := m_wide) (m_gathered := m_gathered) (m_sets := m_sets) (m_ranges := m_ranges) (m_nodes := m_nodes) (m_at := m_at) (m_flags := m_flags) (m_fault := m_fault) (m_place := m_place) (m_numbered := m_numbered) (m_depth := m_depth) (m_value := m_value) (m_isNot := m_isNot) (m_least0 := m_least0) (m_most0 := m_most0) (m_slot := m_slot) (m_work := m_work) (m_got := m_got) (m_rowMany := m_rowMany) (m_charAt := m_charAt) (m_charWide := m_charWide) (m_trail := m_trail) (m_isMatch := m_isMatch) (m_matchGroups := m_matchGroups) (m_allFrom := m_allFrom) (m_allBefore := m_allBefore) (m_founds := m_founds) (m_pieces := m_pieces) (m_writtenMany := m_writtenMany) (m_templateWide := m_templateWide) (m_tooMuch := m_tooMuch) (K := K) (O := O) (Be := Be) (Le := Le) (Mo := Mo) (Z := Z) (SM := SM) (k := k) (x := x) (ns := ns) (pa := pa) (po := po) (MN := MN) (dl := dl) (st := st) (ht := ht) (hh := hh) (PS := PS) (T_ := T_) (QF := QF) (QL := QL) (AF := AF) (AL := AL) (SD := SD) (nd := nd) (G0 := G) (y := (Fi x)) (q := 0) jG (by omega) (by omega) (Int.toNat (MN x - 0) + 1) h80 h97 (by omega) (rtq_0 jf) fx.rf rfl rfl (by omega) (fun G2 q23 hq4 hq5 hfk hlk hsk => ?_)
  · have h80 := hfk.get h80 (by decide)
    have h96 := hfk.get h96 (by decide)
    have h97 := hfk.get h97 (by decide)
    have hfr := hfr.tr hfk (by decide)
    have hlen := hlk.trans hlen
    have hsl := hsk.trans hsl
    change ab_W _ _ _ G2 30 [some (vR 80), some (vz x), some (vz k), some (vz q23), none, none] [] _
    refine ab_iload_n d_MO_fromEnd_30 rfl ?_
    refine ab_iload_n d_MO_fromEnd_31 rfl ?_
    refine zz_icmp_lt (tgt := 37) d_MO_fromEnd_32 (by decide) (by omega) (by omega) (fun c6 => ?_) (fun c6 => ?_)
    · refine ab_aload_n d_MO_fromEnd_37 rfl ?_
      refine ab_getf (fs := mof m_thrown m_taped m_length m_out m_wide m_gathered m_sets m_ranges m_nodes m_at m_flags m_fault m_place m_numbered m_depth m_value m_isNot m_least0 m_most0 m_slot m_work m_got m_rowMany m_charAt m_charWide m_trail m_isMatch m_matchGroups m_allFrom m_allBefore m_founds m_pieces m_writtenMany m_templateWide m_tooMuch) f_MO_56 d_MO_fromEnd_38 h80.2.2 rfl ?_
      refine ab_iload_n d_MO_fromEnd_41 rfl ?_
      refine zz_iald d_MO_fromEnd_42 h96 (by omega) ?_
      have hq7 := jfi x (by omega) (by omega)
      refine ab_istore d_MO_fromEnd_43 (Nat.le_of_ble_eq_true rfl) (Nat.le_of_ble_eq_true rfl) rfl ?_
      change ab_W _ _ _ G2 45 [some (vR 80), some (vz x), some (vz k), some (vz q23), some (vz (Fi x)), none] [] _
      refine zz_iconst d_MO_fromEnd_45 ?_
      refine ab_istore d_MO_fromEnd_46 (Nat.le_of_ble_eq_true rfl) (Nat.le_of_ble_eq_true rfl) rfl ?_
      change ab_W _ _ _ G2 48 [some (vR 80), some (vz x), some (vz k), some (vz q23), some (vz (Fi x)), some (vz 0)] [] _
      refine y_MO_fromEnd_48 (m_thrown := m_thrown) (m_taped := m_taped) (m_length := m_length) (m_out := m_out) (m_wide := m_wide) (m_gathered := m_gathered) (m_sets := m_sets) (m_ranges := m_ranges) (m_nodes := m_nodes) (m_at := m_at) (m_flags := m_flags) (m_fault := m_fault) (m_place := m_place) (m_numbered := m_numbered) (m_depth := m_depth) (m_value := m_value) (m_isNot := m_isNot) (m_least0 := m_least0) (m_most0 := m_most0) (m_slot := m_slot) (m_work := m_work) (m_got := m_got) (m_rowMany := m_rowMany) (m_charAt := m_charAt) (m_charWide := m_charWide) (m_trail := m_trail) (m_isMatch := m_isMatch) (m_matchGroups := m_matchGroups) (m_allFrom := m_allFrom) (m_allBefore := m_allBefore) (m_founds := m_founds) (m_pieces := m_pieces) (m_writtenMany := m_writtenMany) (m_templateWide := m_templateWide) (m_tooMuch := m_tooMuch) (K := K) (O := O) (Fi := Fi) (Be := Be) (Le := Le) (Mo := Mo) (Z := Z) (SM := SM) (k := k) (x := x) (ns := ns) (pa := pa) (po := po) (MN := MN) (dl := dl) (st := st) (ht := ht) (hh := hh) (PS := PS) (T_ := T_) (QF := QF) (QL := QL) (AF := AF) (AL := AL) (SD := SD) (nd := nd) (mny := q23) (G0 := G2) (y := (Fi x)) (q := 0) jG (by omega) (by omega) (by omega) (Int.toNat (q23 - 0) + 1) h80 h97 (by omega) (rtq_0 jf) nthI_0 fx.rf rfl rfl (by omega) (fun G8 y29 hq10 hq11 hq12 hfk hlk hsk => ?_)
      · have h80 := hfk.get h80 (by decide)
        have h96 := hfk.get h96 (by decide)
        have h97 := hfk.get h97 (by decide)
        have hfr := hfr.tr hfk (by decide)
        have hlen := hlk.trans hlen
        have hsl := hsk.trans hsl
        change ab_W _ _ _ G8 73 [none, none, none, none, some (vz y29), none] [] _
        refine ab_iload d_MO_fromEnd_73 rfl ?_
        refine zz_iret rfl d_MO_fromEnd_75 ?_
        rw [hQ]; exact (Or.inr ⟨_, rfl, hfr, hlen, hsl, (by omega), (by exact hq11), (by exact hq12)⟩)
    · refine zz_iconst d_MO_fromEnd_35 ?_
      refine zz_iret rfl d_MO_fromEnd_36 ?_
      rw [hQ]; exact (Or.inl ⟨rfl, hfr, hlen, hsl, (by omega)⟩)
