set_option maxRecDepth 100000 in
set_option maxHeartbeats 4000000 in
theorem x_MO_fault {X : ab_X} {d : Nat} {o : Nat → Nat} {G : ab_G} {m_thrown : Int} {m_taped : Int} {m_length : Int} {m_out : Int} {m_wide : Int} {m_gathered : Int} {m_sets : Int} {m_ranges : Int} {m_nodes : Int} {m_at : Int} {m_flags : Int} {m_fault : Int} {m_place : Int} {m_numbered : Int} {m_depth : Int} {m_value : Int} {m_isNot : Int} {m_least0 : Int} {m_most0 : Int} {m_slot : Int} {m_work : Int} {m_got : Int} {m_rowMany : Int} {m_charAt : Int} {m_charWide : Int} {m_trail : Int} {m_isMatch : Int} {m_matchGroups : Int} {m_allFrom : Int} {m_allBefore : Int} {m_founds : Int} {m_pieces : Int} {m_writtenMany : Int} {m_templateWide : Int} {m_tooMuch : Int} {x : Int} (h80 : cc o G 80 280 (ab_ob 12 (mof m_thrown m_taped m_length m_out m_wide m_gathered m_sets m_ranges m_nodes m_at m_flags m_fault m_place m_numbered m_depth m_value m_isNot m_least0 m_most0 m_slot m_work m_got m_rowMany m_charAt m_charWide m_trail m_isMatch m_matchGroups m_allFrom m_allBefore m_founds m_pieces m_writtenMany m_templateWide m_tooMuch))) (n18 : ab_n0 = 18) (cr : -2147483648 ≤ x ∧ x ≤ 2147483647) : ab_F X d y_MO_fault (.code y_MO_fault b_MO_fault 2 (some (.int))) [vR 80, vz x] G (fun oc G2 => ∃ v : Int, oc = .returned (some (vz v)) ∧ fx o o [280] G G2 ∧ G2.length = G.length ∧ ab_slots G2 = ab_slots G ∧ cc o G2 80 280 (ab_ob 12 (mof 0 m_taped m_length m_out m_wide m_gathered m_sets m_ranges m_nodes m_at m_flags m_fault m_place m_numbered m_depth m_value m_isNot m_least0 m_most0 m_slot m_work m_got m_rowMany m_charAt m_charWide m_trail m_isMatch m_matchGroups m_allFrom m_allBefore m_founds m_pieces m_writtenMany m_templateWide m_tooMuch)) ∧ (ftR x m_fault m_place v)) := by
  refine ab_F_of (by decide +kernel) (Nat.le_of_ble_eq_true rfl) ?_
  obtain ⟨Q, hQ⟩ : ∃ z : Outcome → ab_G → Prop, z = (fun oc G2 => ∃ v : Int, oc = .returned (some (vz v)) ∧ fx o o [280] G G2 ∧ G2.length = G.length ∧ ab_slots G2 = ab_slots G ∧ cc o G2 80 280 (ab_ob 12 (mof 0 m_taped m_length m_out m_wide m_gathered m_sets m_ranges m_nodes m_at m_flags m_fault m_place m_numbered m_depth m_value m_isNot m_least0 m_most0 m_slot m_work m_got m_rowMany m_charAt m_charWide m_trail m_isMatch m_matchGroups m_allFrom m_allBefore m_founds m_pieces m_writtenMany m_templateWide m_tooMuch)) ∧ (ftR x m_fault m_place v)) := ⟨_, rfl⟩
  rw [← hQ]
  change ab_W X (ab_pl y_MO_fault b_MO_fault 2 (some (.int))) d G 0 [some (vR 80), some (vz x)] [] Q
  have hfr : fx o o [280] G G := fx.rf
  have hlen : G.length = G.length := rfl
  have hsl : ab_slots G = ab_slots G := rfl
  refine ab_aload_n d_MO_fault_0 rfl ?_
  refine zz_iconst d_MO_fault_1 ?_
  refine ab_putf (fs := mof m_thrown m_taped m_length m_out m_wide m_gathered m_sets m_ranges m_nodes m_at m_flags m_fault m_place m_numbered m_depth m_value m_isNot m_least0 m_most0 m_slot m_work m_got m_rowMany m_charAt m_charWide m_trail m_isMatch m_matchGroups m_allFrom m_allBefore m_founds m_pieces m_writtenMany m_templateWide m_tooMuch) f_MO_220 (Or.inl rfl) d_MO_fault_2 h80.2.2 (Nat.le_of_ble_eq_true rfl) (fun _ => ⟨rfl, rfl⟩) (h80.2.1 (by decide)) ?_
  obtain ⟨G1, eG1⟩ : ∃ z : ab_G, z = List.set G 80 (ab_ob 12 (mof 0 m_taped m_length m_out m_wide m_gathered m_sets m_ranges m_nodes m_at m_flags m_fault m_place m_numbered m_depth m_value m_isNot m_least0 m_most0 m_slot m_work m_got m_rowMany m_charAt m_charWide m_trail m_isMatch m_matchGroups m_allFrom m_allBefore m_founds m_pieces m_writtenMany m_templateWide m_tooMuch)) := ⟨_, rfl⟩
  have hlen := (z_len eG1).trans hlen
  have hsl := (z_sl h80 eG1 rfl).trans hsl
  have hfr := hfr.wr h80 eG1 (by decide)
  have h80 := h80.kept eG1
  change ab_W _ _ _ (List.set G 80 (ab_ob 12 (mof 0 m_taped m_length m_out m_wide m_gathered m_sets m_ranges m_nodes m_at m_flags m_fault m_place m_numbered m_depth m_value m_isNot m_least0 m_most0 m_slot m_work m_got m_rowMany m_charAt m_charWide m_trail m_isMatch m_matchGroups m_allFrom m_allBefore m_founds m_pieces m_writtenMany m_templateWide m_tooMuch))) 5 [some (vR 80), some (vz x)] [] _
  rw [← eG1]
  refine ab_iload_n d_MO_fault_5 rfl ?_
  refine zz_if_ne (tgt := 16) d_MO_fault_6 (by decide) (by omega) (fun c2 => ?_) (fun c2 => ?_)
  · refine ab_iload_n d_MO_fault_16 rfl ?_
    refine zz_iconst d_MO_fault_17 ?_
    refine zz_icmp_ne (tgt := 28) d_MO_fault_18 (by decide) (by omega) (by decide) (fun c3 => ?_) (fun c3 => ?_)
    · refine zz_iconst d_MO_fault_28 ?_
      refine zz_iret rfl d_MO_fault_29 ?_
      rw [hQ]; exact ⟨_, rfl, hfr, hlen, hsl, h80, (by first | exact Or.inl ⟨by omega, rfl⟩ | exact Or.inr (Or.inl ⟨by omega, rfl⟩) | exact Or.inr (Or.inr ⟨by omega, rfl⟩))⟩
    · refine ab_aload_n d_MO_fault_21 rfl ?_
      refine ab_getf (fs := mof 0 m_taped m_length m_out m_wide m_gathered m_sets m_ranges m_nodes m_at m_flags m_fault m_place m_numbered m_depth m_value m_isNot m_least0 m_most0 m_slot m_work m_got m_rowMany m_charAt m_charWide m_trail m_isMatch m_matchGroups m_allFrom m_allBefore m_founds m_pieces m_writtenMany m_templateWide m_tooMuch) f_MO_75 d_MO_fault_22 h80.2.2 rfl ?_
      refine ab_goto (tgt := 29) d_MO_fault_25 (by decide) ?_
      refine zz_iret rfl d_MO_fault_29 ?_
      rw [hQ]; exact ⟨_, rfl, hfr, hlen, hsl, h80, (by first | exact Or.inl ⟨by omega, rfl⟩ | exact Or.inr (Or.inl ⟨by omega, rfl⟩) | exact Or.inr (Or.inr ⟨by omega, rfl⟩))⟩
  · refine ab_aload_n d_MO_fault_9 rfl ?_
    refine ab_getf (fs := mof 0 m_taped m_length m_out m_wide m_gathered m_sets m_ranges m_nodes m_at m_flags m_fault m_place m_numbered m_depth m_value m_isNot m_least0 m_most0 m_slot m_work m_got m_rowMany m_charAt m_charWide m_trail m_isMatch m_matchGroups m_allFrom m_allBefore m_founds m_pieces m_writtenMany m_templateWide m_tooMuch) f_MO_273 d_MO_fault_10 h80.2.2 rfl ?_
    refine ab_goto (tgt := 29) d_MO_fault_13 (by decide) ?_
    refine zz_iret rfl d_MO_fault_29 ?_
    rw [hQ]; exact ⟨_, rfl, hfr, hlen, hsl, h80, (by first | exact Or.inl ⟨by omega, rfl⟩ | exact Or.inr (Or.inl ⟨by omega, rfl⟩) | exact Or.inr (Or.inr ⟨by omega, rfl⟩))⟩
set_option maxRecDepth 100000 in
set_option maxHeartbeats 4000000 in
theorem x_MO_about {X : ab_X} {d : Nat} {o : Nat → Nat} {G : ab_G} {m_thrown : Int} {m_taped : Int} {m_length : Int} {m_out : Int} {m_wide : Int} {m_gathered : Int} {m_sets : Int} {m_ranges : Int} {m_nodes : Int} {m_at : Int} {m_flags : Int} {m_fault : Int} {m_place : Int} {m_numbered : Int} {m_depth : Int} {m_value : Int} {m_isNot : Int} {m_least0 : Int} {m_most0 : Int} {m_slot : Int} {m_work : Int} {m_got : Int} {m_rowMany : Int} {m_charAt : Int} {m_charWide : Int} {m_trail : Int} {m_isMatch : Int} {m_matchGroups : Int} {m_allFrom : Int} {m_allBefore : Int} {m_founds : Int} {m_pieces : Int} {m_writtenMany : Int} {m_templateWide : Int} {m_tooMuch : Int} {A_there : Int → Int} {A_groupsOf : Int → Int} {A_sizeOf : Int → Int} {A_flagsOf : Int → Int} {x : Int} {y : Int} (h80 : cc o G 80 280 (ab_ob 12 (mof m_thrown m_taped m_length m_out m_wide m_gathered m_sets m_ranges m_nodes m_at m_flags m_fault m_place m_numbered m_depth m_value m_isNot m_least0 m_most0 m_slot m_work m_got m_rowMany m_charAt m_charWide m_trail m_isMatch m_matchGroups m_allFrom m_allBefore m_founds m_pieces m_writtenMany m_templateWide m_tooMuch))) (h112 : cc o G 112 312 (zb 6 A_there)) (h114 : cc o G 114 314 (za 6 A_groupsOf)) (h115 : cc o G 115 315 (za 6 A_sizeOf)) (h116 : cc o G 116 316 (za 6 A_flagsOf)) (n18 : ab_n0 = 18) (cr : -2147483648 ≤ x ∧ x ≤ 2147483647 ∧ -2147483648 ≤ y ∧ y ≤ 2147483647) (jth : rgs A_there 6 0 1) (hd : 1 ≤ d) : ab_F X d y_MO_about (.code y_MO_about b_MO_about 3 (some (.int))) [vR 80, vz x, vz y] G (fun oc G2 => ∃ v : Int, oc = .returned (some (vz v)) ∧ fx o o [280] G G2 ∧ G2.length = G.length ∧ ab_slots G2 = ab_slots G ∧ cc o G2 80 280 (ab_ob 12 (mof 0 m_taped m_length m_out m_wide m_gathered m_sets m_ranges m_nodes m_at m_flags m_fault m_place m_numbered m_depth m_value m_isNot m_least0 m_most0 m_slot m_work m_got m_rowMany m_charAt m_charWide m_trail m_isMatch m_matchGroups m_allFrom m_allBefore m_founds m_pieces m_writtenMany m_templateWide m_tooMuch)) ∧ (abM A_there A_groupsOf A_sizeOf A_flagsOf x y v)) := by
  refine ab_F_of (by decide +kernel) (Nat.le_of_ble_eq_true rfl) ?_
  obtain ⟨Q, hQ⟩ : ∃ z : Outcome → ab_G → Prop, z = (fun oc G2 => ∃ v : Int, oc = .returned (some (vz v)) ∧ fx o o [280] G G2 ∧ G2.length = G.length ∧ ab_slots G2 = ab_slots G ∧ cc o G2 80 280 (ab_ob 12 (mof 0 m_taped m_length m_out m_wide m_gathered m_sets m_ranges m_nodes m_at m_flags m_fault m_place m_numbered m_depth m_value m_isNot m_least0 m_most0 m_slot m_work m_got m_rowMany m_charAt m_charWide m_trail m_isMatch m_matchGroups m_allFrom m_allBefore m_founds m_pieces m_writtenMany m_templateWide m_tooMuch)) ∧ (abM A_there A_groupsOf A_sizeOf A_flagsOf x y v)) := ⟨_, rfl⟩
  rw [← hQ]
  change ab_W X (ab_pl y_MO_about b_MO_about 3 (some (.int))) d G 0 [some (vR 80), some (vz x), some (vz y)] [] Q
  have hfr : fx o o [280] G G := fx.rf
  have hlen : G.length = G.length := rfl
  have hsl : ab_slots G = ab_slots G := rfl
  refine ab_aload_n d_MO_about_0 rfl ?_
  refine zz_iconst d_MO_about_1 ?_
  refine ab_putf (fs := mof m_thrown m_taped m_length m_out m_wide m_gathered m_sets m_ranges m_nodes m_at m_flags m_fault m_place m_numbered m_depth m_value m_isNot m_least0 m_most0 m_slot m_work m_got m_rowMany m_charAt m_charWide m_trail m_isMatch m_matchGroups m_allFrom m_allBefore m_founds m_pieces m_writtenMany m_templateWide m_tooMuch) f_MO_220 (Or.inl rfl) d_MO_about_2 h80.2.2 (Nat.le_of_ble_eq_true rfl) (fun _ => ⟨rfl, rfl⟩) (h80.2.1 (by decide)) ?_
  obtain ⟨G1, eG1⟩ : ∃ z : ab_G, z = List.set G 80 (ab_ob 12 (mof 0 m_taped m_length m_out m_wide m_gathered m_sets m_ranges m_nodes m_at m_flags m_fault m_place m_numbered m_depth m_value m_isNot m_least0 m_most0 m_slot m_work m_got m_rowMany m_charAt m_charWide m_trail m_isMatch m_matchGroups m_allFrom m_allBefore m_founds m_pieces m_writtenMany m_templateWide m_tooMuch)) := ⟨_, rfl⟩
  have h112 := h112.keep h80 eG1 (by decide)
  have h114 := h114.keep h80 eG1 (by decide)
  have h115 := h115.keep h80 eG1 (by decide)
  have h116 := h116.keep h80 eG1 (by decide)
  have hlen := (z_len eG1).trans hlen
  have hsl := (z_sl h80 eG1 rfl).trans hsl
  have hfr := hfr.wr h80 eG1 (by decide)
  have h80 := h80.kept eG1
  change ab_W _ _ _ (List.set G 80 (ab_ob 12 (mof 0 m_taped m_length m_out m_wide m_gathered m_sets m_ranges m_nodes m_at m_flags m_fault m_place m_numbered m_depth m_value m_isNot m_least0 m_most0 m_slot m_work m_got m_rowMany m_charAt m_charWide m_trail m_isMatch m_matchGroups m_allFrom m_allBefore m_founds m_pieces m_writtenMany m_templateWide m_tooMuch))) 5 [some (vR 80), some (vz x), some (vz y)] [] _
  rw [← eG1]
  refine ab_aload_n d_MO_about_5 rfl ?_
  refine ab_iload_n d_MO_about_6 rfl ?_
  refine ab_callV (d' := d - 1) (as := [vz x]) (st := []) (r := _) (x_MO_isThere (o := o) (m_thrown := 0) (m_taped := m_taped) (m_length := m_length) (m_out := m_out) (m_wide := m_wide) (m_gathered := m_gathered) (m_sets := m_sets) (m_ranges := m_ranges) (m_nodes := m_nodes) (m_at := m_at) (m_flags := m_flags) (m_fault := m_fault) (m_place := m_place) (m_numbered := m_numbered) (m_depth := m_depth) (m_value := m_value) (m_isNot := m_isNot) (m_least0 := m_least0) (m_most0 := m_most0) (m_slot := m_slot) (m_work := m_work) (m_got := m_got) (m_rowMany := m_rowMany) (m_charAt := m_charAt) (m_charWide := m_charWide) (m_trail := m_trail) (m_isMatch := m_isMatch) (m_matchGroups := m_matchGroups) (m_allFrom := m_allFrom) (m_allBefore := m_allBefore) (m_founds := m_founds) (m_pieces := m_pieces) (m_writtenMany := m_writtenMany) (m_templateWide := m_templateWide) (m_tooMuch := m_tooMuch) (A_there := A_there) (x := x) h80 h112 (by omega) jth) (fun oc G2 h => by rcases h with ⟨_, h, _⟩ <;> exact ⟨_, h⟩) (by omega) m_MO_isThere ml_MO_507 im_MO_isThere se_MO_isThere c_MO h80.2.2 (Nat.le_of_ble_eq_true rfl) d_MO_about_7 rfl ?_
  intro v G2 hq
  rcases hq with ⟨v3, hv, hGe, hq4, hq5, hq6⟩
  cases hv
  rw [hGe]
  change ab_W _ _ _ G1 10 [some (vR 80), some (vz x), some (vz y)] [vz v3] _
  refine zz_if_ne (tgt := 17) d_MO_about_10 (by decide) (by omega) (fun c7 => ?_) (fun c7 => ?_)
  · refine ab_iload_n d_MO_about_17 rfl ?_
    refine zz_if_ne (tgt := 30) d_MO_about_18 (by decide) (by omega) (fun c8 => ?_) (fun c8 => ?_)
    · refine ab_iload_n d_MO_about_30 rfl ?_
      refine zz_iconst d_MO_about_31 ?_
      refine zz_icmp_ne (tgt := 44) d_MO_about_32 (by decide) (by omega) (by decide) (fun c9 => ?_) (fun c9 => ?_)
      · refine ab_iload_n d_MO_about_44 rfl ?_
        refine zz_iconst d_MO_about_45 ?_
        refine zz_icmp_ne (tgt := 58) d_MO_about_46 (by decide) (by omega) (by decide) (fun c10 => ?_) (fun c10 => ?_)
        · refine zz_iconst d_MO_about_58 ?_
          refine zz_iret rfl d_MO_about_59 ?_
          rw [hQ]; exact ⟨_, rfl, hfr, hlen, hsl, h80, (by first | exact Or.inl ⟨hq6 (by omega), rfl⟩ | (have t_ := hq5 (by omega); first | exact Or.inr ⟨t_.1, t_.2.1, t_.2.2, Or.inl ⟨by omega, rfl⟩⟩ | exact Or.inr ⟨t_.1, t_.2.1, t_.2.2, Or.inr (Or.inl ⟨by omega, rfl⟩)⟩ | exact Or.inr ⟨t_.1, t_.2.1, t_.2.2, Or.inr (Or.inr (Or.inl ⟨by omega, rfl⟩))⟩ | exact Or.inr ⟨t_.1, t_.2.1, t_.2.2, Or.inr (Or.inr (Or.inr ⟨by omega, rfl⟩))⟩))⟩
        · refine ab_aload_n d_MO_about_49 rfl ?_
          refine ab_getf (fs := mof 0 m_taped m_length m_out m_wide m_gathered m_sets m_ranges m_nodes m_at m_flags m_fault m_place m_numbered m_depth m_value m_isNot m_least0 m_most0 m_slot m_work m_got m_rowMany m_charAt m_charWide m_trail m_isMatch m_matchGroups m_allFrom m_allBefore m_founds m_pieces m_writtenMany m_templateWide m_tooMuch) f_MO_121 d_MO_about_50 h80.2.2 rfl ?_
          refine ab_iload_n d_MO_about_53 rfl ?_
          refine zz_iald d_MO_about_54 h116 (by omega) ?_
          refine ab_goto (tgt := 59) d_MO_about_55 (by decide) ?_
          refine zz_iret rfl d_MO_about_59 ?_
          rw [hQ]; exact ⟨_, rfl, hfr, hlen, hsl, h80, (by first | exact Or.inl ⟨hq6 (by omega), rfl⟩ | (have t_ := hq5 (by omega); first | exact Or.inr ⟨t_.1, t_.2.1, t_.2.2, Or.inl ⟨by omega, rfl⟩⟩ | exact Or.inr ⟨t_.1, t_.2.1, t_.2.2, Or.inr (Or.inl ⟨by omega, rfl⟩)⟩ | exact Or.inr ⟨t_.1, t_.2.1, t_.2.2, Or.inr (Or.inr (Or.inl ⟨by omega, rfl⟩))⟩ | exact Or.inr ⟨t_.1, t_.2.1, t_.2.2, Or.inr (Or.inr (Or.inr ⟨by omega, rfl⟩))⟩))⟩
      · refine ab_aload_n d_MO_about_35 rfl ?_
        refine ab_getf (fs := mof 0 m_taped m_length m_out m_wide m_gathered m_sets m_ranges m_nodes m_at m_flags m_fault m_place m_numbered m_depth m_value m_isNot m_least0 m_most0 m_slot m_work m_got m_rowMany m_charAt m_charWide m_trail m_isMatch m_matchGroups m_allFrom m_allBefore m_founds m_pieces m_writtenMany m_templateWide m_tooMuch) f_MO_118 d_MO_about_36 h80.2.2 rfl ?_
        refine ab_iload_n d_MO_about_39 rfl ?_
        refine zz_iald d_MO_about_40 h115 (by omega) ?_
        refine ab_goto (tgt := 59) d_MO_about_41 (by decide) ?_
        refine zz_iret rfl d_MO_about_59 ?_
        rw [hQ]; exact ⟨_, rfl, hfr, hlen, hsl, h80, (by first | exact Or.inl ⟨hq6 (by omega), rfl⟩ | (have t_ := hq5 (by omega); first | exact Or.inr ⟨t_.1, t_.2.1, t_.2.2, Or.inl ⟨by omega, rfl⟩⟩ | exact Or.inr ⟨t_.1, t_.2.1, t_.2.2, Or.inr (Or.inl ⟨by omega, rfl⟩)⟩ | exact Or.inr ⟨t_.1, t_.2.1, t_.2.2, Or.inr (Or.inr (Or.inl ⟨by omega, rfl⟩))⟩ | exact Or.inr ⟨t_.1, t_.2.1, t_.2.2, Or.inr (Or.inr (Or.inr ⟨by omega, rfl⟩))⟩))⟩
    · refine ab_aload_n d_MO_about_21 rfl ?_
      refine ab_getf (fs := mof 0 m_taped m_length m_out m_wide m_gathered m_sets m_ranges m_nodes m_at m_flags m_fault m_place m_numbered m_depth m_value m_isNot m_least0 m_most0 m_slot m_work m_got m_rowMany m_charAt m_charWide m_trail m_isMatch m_matchGroups m_allFrom m_allBefore m_founds m_pieces m_writtenMany m_templateWide m_tooMuch) f_MO_115 d_MO_about_22 h80.2.2 rfl ?_
      refine ab_iload_n d_MO_about_25 rfl ?_
      refine zz_iald d_MO_about_26 h114 (by omega) ?_
      refine ab_goto (tgt := 59) d_MO_about_27 (by decide) ?_
      refine zz_iret rfl d_MO_about_59 ?_
      rw [hQ]; exact ⟨_, rfl, hfr, hlen, hsl, h80, (by first | exact Or.inl ⟨hq6 (by omega), rfl⟩ | (have t_ := hq5 (by omega); first | exact Or.inr ⟨t_.1, t_.2.1, t_.2.2, Or.inl ⟨by omega, rfl⟩⟩ | exact Or.inr ⟨t_.1, t_.2.1, t_.2.2, Or.inr (Or.inl ⟨by omega, rfl⟩)⟩ | exact Or.inr ⟨t_.1, t_.2.1, t_.2.2, Or.inr (Or.inr (Or.inl ⟨by omega, rfl⟩))⟩ | exact Or.inr ⟨t_.1, t_.2.1, t_.2.2, Or.inr (Or.inr (Or.inr ⟨by omega, rfl⟩))⟩))⟩
  · refine zz_iconst d_MO_about_13 ?_
    refine ab_goto (tgt := 59) d_MO_about_14 (by decide) ?_
    refine zz_iret rfl d_MO_about_59 ?_
    rw [hQ]; exact ⟨_, rfl, hfr, hlen, hsl, h80, (by first | exact Or.inl ⟨hq6 (by omega), rfl⟩ | (have t_ := hq5 (by omega); first | exact Or.inr ⟨t_.1, t_.2.1, t_.2.2, Or.inl ⟨by omega, rfl⟩⟩ | exact Or.inr ⟨t_.1, t_.2.1, t_.2.2, Or.inr (Or.inl ⟨by omega, rfl⟩)⟩ | exact Or.inr ⟨t_.1, t_.2.1, t_.2.2, Or.inr (Or.inr (Or.inl ⟨by omega, rfl⟩))⟩ | exact Or.inr ⟨t_.1, t_.2.1, t_.2.2, Or.inr (Or.inr (Or.inr ⟨by omega, rfl⟩))⟩))⟩
set_option maxRecDepth 100000 in
set_option maxHeartbeats 4000000 in
theorem x_MO_name {X : ab_X} {d : Nat} {o : Nat → Nat} {G : ab_G} {m_thrown : Int} {m_taped : Int} {m_length : Int} {m_out : Int} {m_wide : Int} {m_gathered : Int} {m_sets : Int} {m_ranges : Int} {m_nodes : Int} {m_at : Int} {m_flags : Int} {m_fault : Int} {m_place : Int} {m_numbered : Int} {m_depth : Int} {m_value : Int} {m_isNot : Int} {m_least0 : Int} {m_most0 : Int} {m_slot : Int} {m_work : Int} {m_got : Int} {m_rowMany : Int} {m_charAt : Int} {m_charWide : Int} {m_trail : Int} {m_isMatch : Int} {m_matchGroups : Int} {m_allFrom : Int} {m_allBefore : Int} {m_founds : Int} {m_pieces : Int} {m_writtenMany : Int} {m_templateWide : Int} {m_tooMuch : Int} {A_there : Int → Int} {A_nameSize : Int → Int} {A_nameOf : Int → Int} {x : Int} {y : Int} {zz : Int} (h80 : cc o G 80 280 (ab_ob 12 (mof m_thrown m_taped m_length m_out m_wide m_gathered m_sets m_ranges m_nodes m_at m_flags m_fault m_place m_numbered m_depth m_value m_isNot m_least0 m_most0 m_slot m_work m_got m_rowMany m_charAt m_charWide m_trail m_isMatch m_matchGroups m_allFrom m_allBefore m_founds m_pieces m_writtenMany m_templateWide m_tooMuch))) (h112 : cc o G 112 312 (zb 6 A_there)) (h127 : cc o G 127 327 (za 60 A_nameSize)) (h126 : cc o G 126 326 (za 720 A_nameOf)) (n18 : ab_n0 = 18) (cr : -2147483648 ≤ x ∧ x ≤ 2147483647 ∧ -2147483648 ≤ y ∧ y ≤ 2147483647 ∧ -2147483648 ≤ zz ∧ zz ≤ 2147483647) (jth : rgs A_there 6 0 1) (jns : rgs A_nameSize 60 0 12) (hd : 1 ≤ d) : ab_F X d y_MO_name (.code y_MO_name b_MO_name 4 (some (.int))) [vR 80, vz x, vz y, vz zz] G (fun oc G2 => ∃ v : Int, oc = .returned (some (vz v)) ∧ fx o o [280] G G2 ∧ G2.length = G.length ∧ ab_slots G2 = ab_slots G ∧ cc o G2 80 280 (ab_ob 12 (mof 0 m_taped m_length m_out m_wide m_gathered m_sets m_ranges m_nodes m_at m_flags m_fault m_place m_numbered m_depth m_value m_isNot m_least0 m_most0 m_slot m_work m_got m_rowMany m_charAt m_charWide m_trail m_isMatch m_matchGroups m_allFrom m_allBefore m_founds m_pieces m_writtenMany m_templateWide m_tooMuch)) ∧ (nmM A_there A_nameSize A_nameOf x y zz v)) := by
  refine ab_F_of (by decide +kernel) (Nat.le_of_ble_eq_true rfl) ?_
  obtain ⟨Q, hQ⟩ : ∃ z : Outcome → ab_G → Prop, z = (fun oc G2 => ∃ v : Int, oc = .returned (some (vz v)) ∧ fx o o [280] G G2 ∧ G2.length = G.length ∧ ab_slots G2 = ab_slots G ∧ cc o G2 80 280 (ab_ob 12 (mof 0 m_taped m_length m_out m_wide m_gathered m_sets m_ranges m_nodes m_at m_flags m_fault m_place m_numbered m_depth m_value m_isNot m_least0 m_most0 m_slot m_work m_got m_rowMany m_charAt m_charWide m_trail m_isMatch m_matchGroups m_allFrom m_allBefore m_founds m_pieces m_writtenMany m_templateWide m_tooMuch)) ∧ (nmM A_there A_nameSize A_nameOf x y zz v)) := ⟨_, rfl⟩
  rw [← hQ]
  change ab_W X (ab_pl y_MO_name b_MO_name 4 (some (.int))) d G 0 [some (vR 80), some (vz x), some (vz y), some (vz zz)] [] Q
  have hfr : fx o o [280] G G := fx.rf
  have hlen : G.length = G.length := rfl
  have hsl : ab_slots G = ab_slots G := rfl
  refine ab_aload_n d_MO_name_0 rfl ?_
  refine zz_iconst d_MO_name_1 ?_
  refine ab_putf (fs := mof m_thrown m_taped m_length m_out m_wide m_gathered m_sets m_ranges m_nodes m_at m_flags m_fault m_place m_numbered m_depth m_value m_isNot m_least0 m_most0 m_slot m_work m_got m_rowMany m_charAt m_charWide m_trail m_isMatch m_matchGroups m_allFrom m_allBefore m_founds m_pieces m_writtenMany m_templateWide m_tooMuch) f_MO_220 (Or.inl rfl) d_MO_name_2 h80.2.2 (Nat.le_of_ble_eq_true rfl) (fun _ => ⟨rfl, rfl⟩) (h80.2.1 (by decide)) ?_
  obtain ⟨G1, eG1⟩ : ∃ z : ab_G, z = List.set G 80 (ab_ob 12 (mof 0 m_taped m_length m_out m_wide m_gathered m_sets m_ranges m_nodes m_at m_flags m_fault m_place m_numbered m_depth m_value m_isNot m_least0 m_most0 m_slot m_work m_got m_rowMany m_charAt m_charWide m_trail m_isMatch m_matchGroups m_allFrom m_allBefore m_founds m_pieces m_writtenMany m_templateWide m_tooMuch)) := ⟨_, rfl⟩
  have h112 := h112.keep h80 eG1 (by decide)
  have h127 := h127.keep h80 eG1 (by decide)
  have h126 := h126.keep h80 eG1 (by decide)
  have hlen := (z_len eG1).trans hlen
  have hsl := (z_sl h80 eG1 rfl).trans hsl
  have hfr := hfr.wr h80 eG1 (by decide)
  have h80 := h80.kept eG1
  change ab_W _ _ _ (List.set G 80 (ab_ob 12 (mof 0 m_taped m_length m_out m_wide m_gathered m_sets m_ranges m_nodes m_at m_flags m_fault m_place m_numbered m_depth m_value m_isNot m_least0 m_most0 m_slot m_work m_got m_rowMany m_charAt m_charWide m_trail m_isMatch m_matchGroups m_allFrom m_allBefore m_founds m_pieces m_writtenMany m_templateWide m_tooMuch))) 5 [some (vR 80), some (vz x), some (vz y), some (vz zz)] [] _
  rw [← eG1]
  refine ab_aload_n d_MO_name_5 rfl ?_
  refine ab_iload_n d_MO_name_6 rfl ?_
  refine ab_callV (d' := d - 1) (as := [vz x]) (st := []) (r := _) (x_MO_isThere (o := o) (m_thrown := 0) (m_taped := m_taped) (m_length := m_length) (m_out := m_out) (m_wide := m_wide) (m_gathered := m_gathered) (m_sets := m_sets) (m_ranges := m_ranges) (m_nodes := m_nodes) (m_at := m_at) (m_flags := m_flags) (m_fault := m_fault) (m_place := m_place) (m_numbered := m_numbered) (m_depth := m_depth) (m_value := m_value) (m_isNot := m_isNot) (m_least0 := m_least0) (m_most0 := m_most0) (m_slot := m_slot) (m_work := m_work) (m_got := m_got) (m_rowMany := m_rowMany) (m_charAt := m_charAt) (m_charWide := m_charWide) (m_trail := m_trail) (m_isMatch := m_isMatch) (m_matchGroups := m_matchGroups) (m_allFrom := m_allFrom) (m_allBefore := m_allBefore) (m_founds := m_founds) (m_pieces := m_pieces) (m_writtenMany := m_writtenMany) (m_templateWide := m_templateWide) (m_tooMuch := m_tooMuch) (A_there := A_there) (x := x) h80 h112 (by omega) jth) (fun oc G2 h => by rcases h with ⟨_, h, _⟩ <;> exact ⟨_, h⟩) (by omega) m_MO_isThere ml_MO_507 im_MO_isThere se_MO_isThere c_MO h80.2.2 (Nat.le_of_ble_eq_true rfl) d_MO_name_7 rfl ?_
  intro v G2 hq
  rcases hq with ⟨v3, hv, hGe, hq4, hq5, hq6⟩
  cases hv
  rw [hGe]
  change ab_W _ _ _ G1 10 [some (vR 80), some (vz x), some (vz y), some (vz zz)] [vz v3] _
  refine zz_if_eq (tgt := 43) d_MO_name_10 (by decide) (by omega) (fun c7 => ?_) (fun c7 => ?_)
  · refine zz_iconst d_MO_name_43 ?_
    refine ab_goto (tgt := 63) d_MO_name_44 (by decide) ?_
    refine zz_iret rfl d_MO_name_63 ?_
    rw [hQ]; exact ⟨_, rfl, hfr, hlen, hsl, h80, (by first | exact Or.inl ⟨hq6 (by omega), rfl⟩ | (have t_ := hq5 (by omega); first | exact Or.inr ⟨t_.1, t_.2.1, t_.2.2, Or.inl ⟨by omega, rfl⟩⟩ | exact Or.inr ⟨t_.1, t_.2.1, t_.2.2, Or.inl ⟨by omega, by congr 1; omega⟩⟩ | exact Or.inr ⟨t_.1, t_.2.1, t_.2.2, Or.inr ⟨by omega, rfl⟩⟩))⟩
  · refine ab_iload_n d_MO_name_13 rfl ?_
    refine zz_iconst d_MO_name_14 ?_
    refine zz_icmp_lt (tgt := 43) d_MO_name_15 (by decide) (by omega) (by decide) (fun c8 => ?_) (fun c8 => ?_)
    · refine zz_iconst d_MO_name_43 ?_
      refine ab_goto (tgt := 63) d_MO_name_44 (by decide) ?_
      refine zz_iret rfl d_MO_name_63 ?_
      rw [hQ]; exact ⟨_, rfl, hfr, hlen, hsl, h80, (by first | exact Or.inl ⟨hq6 (by omega), rfl⟩ | (have t_ := hq5 (by omega); first | exact Or.inr ⟨t_.1, t_.2.1, t_.2.2, Or.inl ⟨by omega, rfl⟩⟩ | exact Or.inr ⟨t_.1, t_.2.1, t_.2.2, Or.inl ⟨by omega, by congr 1; omega⟩⟩ | exact Or.inr ⟨t_.1, t_.2.1, t_.2.2, Or.inr ⟨by omega, rfl⟩⟩))⟩
    · refine ab_iload_n d_MO_name_18 rfl ?_
      refine zz_bipush d_MO_name_19 (by decide) ?_
      refine zz_icmp_gt (tgt := 43) d_MO_name_21 (by decide) (by omega) (by decide) (fun c9 => ?_) (fun c9 => ?_)
      · refine zz_iconst d_MO_name_43 ?_
        refine ab_goto (tgt := 63) d_MO_name_44 (by decide) ?_
        refine zz_iret rfl d_MO_name_63 ?_
        rw [hQ]; exact ⟨_, rfl, hfr, hlen, hsl, h80, (by first | exact Or.inl ⟨hq6 (by omega), rfl⟩ | (have t_ := hq5 (by omega); first | exact Or.inr ⟨t_.1, t_.2.1, t_.2.2, Or.inl ⟨by omega, rfl⟩⟩ | exact Or.inr ⟨t_.1, t_.2.1, t_.2.2, Or.inl ⟨by omega, by congr 1; omega⟩⟩ | exact Or.inr ⟨t_.1, t_.2.1, t_.2.2, Or.inr ⟨by omega, rfl⟩⟩))⟩
      · refine ab_iload_n d_MO_name_24 rfl ?_
        refine zz_if_lt (tgt := 43) d_MO_name_25 (by decide) (by omega) (fun c10 => ?_) (fun c10 => ?_)
        · refine zz_iconst d_MO_name_43 ?_
          refine ab_goto (tgt := 63) d_MO_name_44 (by decide) ?_
          refine zz_iret rfl d_MO_name_63 ?_
          rw [hQ]; exact ⟨_, rfl, hfr, hlen, hsl, h80, (by first | exact Or.inl ⟨hq6 (by omega), rfl⟩ | (have t_ := hq5 (by omega); first | exact Or.inr ⟨t_.1, t_.2.1, t_.2.2, Or.inl ⟨by omega, rfl⟩⟩ | exact Or.inr ⟨t_.1, t_.2.1, t_.2.2, Or.inl ⟨by omega, by congr 1; omega⟩⟩ | exact Or.inr ⟨t_.1, t_.2.1, t_.2.2, Or.inr ⟨by omega, rfl⟩⟩))⟩
        · refine ab_iload_n d_MO_name_28 rfl ?_
          refine ab_aload_n d_MO_name_29 rfl ?_
          refine ab_getf (fs := mof 0 m_taped m_length m_out m_wide m_gathered m_sets m_ranges m_nodes m_at m_flags m_fault m_place m_numbered m_depth m_value m_isNot m_least0 m_most0 m_slot m_work m_got m_rowMany m_charAt m_charWide m_trail m_isMatch m_matchGroups m_allFrom m_allBefore m_founds m_pieces m_writtenMany m_templateWide m_tooMuch) f_MO_155 d_MO_name_30 h80.2.2 rfl ?_
          refine zz_bipush d_MO_name_33 (by decide) ?_
          refine ab_iload_n d_MO_name_35 rfl ?_
          refine zz_imul d_MO_name_36 ?_
          refine ab_iload_n d_MO_name_37 rfl ?_
          refine zz_iadd d_MO_name_38 ?_
          refine zz_iald d_MO_name_39 h127 (by omega) ?_
          have hq11 := jns ((10 * x) + y) (by omega) (by omega)
          refine zz_icmp_lt (tgt := 47) d_MO_name_40 (by decide) (by omega) (by omega) (fun c12 => ?_) (fun c12 => ?_)
          · refine ab_aload_n d_MO_name_47 rfl ?_
            refine ab_getf (fs := mof 0 m_taped m_length m_out m_wide m_gathered m_sets m_ranges m_nodes m_at m_flags m_fault m_place m_numbered m_depth m_value m_isNot m_least0 m_most0 m_slot m_work m_got m_rowMany m_charAt m_charWide m_trail m_isMatch m_matchGroups m_allFrom m_allBefore m_founds m_pieces m_writtenMany m_templateWide m_tooMuch) f_MO_152 d_MO_name_48 h80.2.2 rfl ?_
            refine zz_bipush d_MO_name_51 (by decide) ?_
            refine ab_iload_n d_MO_name_53 rfl ?_
            refine zz_imul d_MO_name_54 ?_
            refine zz_bipush d_MO_name_55 (by decide) ?_
            refine ab_iload_n d_MO_name_57 rfl ?_
            refine zz_imul d_MO_name_58 ?_
            refine zz_iadd d_MO_name_59 ?_
            refine ab_iload_n d_MO_name_60 rfl ?_
            refine zz_iadd d_MO_name_61 ?_
            refine zz_iald d_MO_name_62 h126 (by omega) ?_
            refine zz_iret rfl d_MO_name_63 ?_
            rw [hQ]; exact ⟨_, rfl, hfr, hlen, hsl, h80, (by first | exact Or.inl ⟨hq6 (by omega), rfl⟩ | (have t_ := hq5 (by omega); first | exact Or.inr ⟨t_.1, t_.2.1, t_.2.2, Or.inl ⟨by omega, rfl⟩⟩ | exact Or.inr ⟨t_.1, t_.2.1, t_.2.2, Or.inl ⟨by omega, by congr 1; omega⟩⟩ | exact Or.inr ⟨t_.1, t_.2.1, t_.2.2, Or.inr ⟨by omega, rfl⟩⟩))⟩
          · refine zz_iconst d_MO_name_43 ?_
            refine ab_goto (tgt := 63) d_MO_name_44 (by decide) ?_
            refine zz_iret rfl d_MO_name_63 ?_
            rw [hQ]; exact ⟨_, rfl, hfr, hlen, hsl, h80, (by first | exact Or.inl ⟨hq6 (by omega), rfl⟩ | (have t_ := hq5 (by omega); first | exact Or.inr ⟨t_.1, t_.2.1, t_.2.2, Or.inl ⟨by omega, rfl⟩⟩ | exact Or.inr ⟨t_.1, t_.2.1, t_.2.2, Or.inl ⟨by omega, by congr 1; omega⟩⟩ | exact Or.inr ⟨t_.1, t_.2.1, t_.2.2, Or.inr ⟨by omega, rfl⟩⟩))⟩
set_option maxRecDepth 100000 in
set_option maxHeartbeats 4000000 in
theorem xy_MO_quote_12 {X : ab_X} {d : Nat} {Q : Outcome → ab_G → Prop} {o : Nat → Nat} {G0 : ab_G} {m_thrown : Int} {m_taped : Int} {m_length : Int} {m_wide : Int} {m_gathered : Int} {m_sets : Int} {m_ranges : Int} {m_nodes : Int} {m_at : Int} {m_flags : Int} {m_fault : Int} {m_place : Int} {m_numbered : Int} {m_depth : Int} {m_value : Int} {m_isNot : Int} {m_least0 : Int} {m_most0 : Int} {m_slot : Int} {m_work : Int} {m_got : Int} {m_rowMany : Int} {m_charAt : Int} {m_charWide : Int} {m_trail : Int} {m_isMatch : Int} {m_matchGroups : Int} {m_allFrom : Int} {m_allBefore : Int} {m_founds : Int} {m_pieces : Int} {m_writtenMany : Int} {m_templateWide : Int} {m_tooMuch : Int} {A_tape : Int → Int} (n18 : ab_n0 = 18) (jtp : rgs A_tape 2000 0 255) (cta : 0 ≤ m_taped ∧ m_taped ≤ 2000) (hd : 1 ≤ d) : ∀ (mz : Nat) {G : ab_G} {i_ : Int} {m_out : Int} {A_output : Int → Int}, (cc o G 80 280 (ab_ob 12 (mof m_thrown m_taped m_length m_out m_wide m_gathered m_sets m_ranges m_nodes m_at m_flags m_fault m_place m_numbered m_depth m_value m_isNot m_least0 m_most0 m_slot m_work m_got m_rowMany m_charAt m_charWide m_trail m_isMatch m_matchGroups m_allFrom m_allBefore m_founds m_pieces m_writtenMany m_templateWide m_tooMuch))) → (cc o G 86 286 (za 6000 A_output)) → (cc o G 84 284 (za 2000 A_tape)) → (0 ≤ i_ ∧ i_ ≤ m_taped ∧ 0 ≤ m_out ∧ m_out ≤ 2 * i_) → (m_out = qlI A_tape i_) → (qtI A_tape i_ A_output m_out) → (fx o o [280, 286] G0 G) → (G.length = G0.length) → (ab_slots G = ab_slots G0) → (Int.toNat (m_taped - i_) < mz) → (∀ (G2 : ab_G) (o_ : Int) (B_output : Int → Int), (cc o G2 80 280 (ab_ob 12 (mof m_thrown m_taped m_length o_ m_wide m_gathered m_sets m_ranges m_nodes m_at m_flags m_fault m_place m_numbered m_depth m_value m_isNot m_least0 m_most0 m_slot m_work m_got m_rowMany m_charAt m_charWide m_trail m_isMatch m_matchGroups m_allFrom m_allBefore m_founds m_pieces m_writtenMany m_templateWide m_tooMuch))) → (cc o G2 86 286 (za 6000 B_output)) → (0 ≤ o_ ∧ o_ ≤ 4000) → (o_ = qlI A_tape m_taped) → (qtI A_tape m_taped B_output o_) → (fx o o [280, 286] G0 G2) → (G2.length = G0.length) → (ab_slots G2 = ab_slots G0) → ab_W X (ab_pl y_MO_quote b_MO_quote 3 (some (.int))) d G2 105 [some (vR 80), none, none] [] Q) → ab_W X (ab_pl y_MO_quote b_MO_quote 3 (some (.int))) d G 12 [some (vR 80), some (vz i_), none] [] Q := by
  intro mz
  induction mz with
  | zero => intro G i_ m_out A_output h80 h86 h84 ci jql jqc hfr hlen hsl hm hk0; exact absurd hm (Nat.not_lt_zero _)
  | succ mz ih =>
    intro G i_ m_out A_output h80 h86 h84 ci jql jqc hfr hlen hsl hm hk0
    refine ab_iload_n d_MO_quote_12 rfl ?_
    refine ab_aload_n d_MO_quote_13 rfl ?_
    refine ab_getf (fs := mof m_thrown m_taped m_length m_out m_wide m_gathered m_sets m_ranges m_nodes m_at m_flags m_fault m_place m_numbered m_depth m_value m_isNot m_least0 m_most0 m_slot m_work m_got m_rowMany m_charAt m_charWide m_trail m_isMatch m_matchGroups m_allFrom m_allBefore m_founds m_pieces m_writtenMany m_templateWide m_tooMuch) f_MO_223 d_MO_quote_14 h80.2.2 rfl ?_
    refine zz_icmp_ge (tgt := 105) d_MO_quote_17 (by decide) (by omega) (by omega) (fun c1 => ?_) (fun c1 => ?_)
    · refine ab_less (L' := [some (vR 80), none, none]) (fun i v h => by rcases i with _ | _ | _ | i <;> first | exact h | (simp at h)) ?_
      exact hk0 _ _ _ h80 h86 (by omega) (by have t_ := jql; rw [show i_ = m_taped by omega] at t_; exact t_) (by have t_ := jqc; rw [show i_ = m_taped by omega] at t_; exact t_) hfr hlen hsl
    · have hv_ := jtp i_ (by omega) (by omega)
      refine ab_aload_n d_MO_quote_20 rfl ?_
      refine ab_getf (fs := mof m_thrown m_taped m_length m_out m_wide m_gathered m_sets m_ranges m_nodes m_at m_flags m_fault m_place m_numbered m_depth m_value m_isNot m_least0 m_most0 m_slot m_work m_got m_rowMany m_charAt m_charWide m_trail m_isMatch m_matchGroups m_allFrom m_allBefore m_founds m_pieces m_writtenMany m_templateWide m_tooMuch) f_MO_19 d_MO_quote_21 h80.2.2 rfl ?_
      refine ab_iload_n d_MO_quote_24 rfl ?_
      refine zz_iald d_MO_quote_25 h84 (by omega) ?_
      refine zz_bipush d_MO_quote_26 (by decide) ?_
      refine zz_icmp_gt (tgt := 43) d_MO_quote_28 (by decide) (by omega) (by decide) (fun c2 => ?_) (fun c2 => ?_)
      · refine zz_iconst d_MO_quote_43 ?_
        refine ab_goto (tgt := 48) d_MO_quote_44 (by decide) ?_
        refine ab_istore_n d_MO_quote_48 (Nat.le_of_ble_eq_true rfl) (Nat.le_of_ble_eq_true rfl) rfl ?_
        change ab_W _ _ _ G 49 [some (vR 80), some (vz i_), some (vz 1)] [] _
        refine ab_iload_n d_MO_quote_49 rfl ?_
        refine zz_if_ne (tgt := 74) d_MO_quote_50 (by decide) (by decide) (fun c3 => ?_) (fun c3 => absurd c3 (by decide))
        refine ab_aload_n d_MO_quote_74 rfl ?_
        refine ab_getf (fs := mof m_thrown m_taped m_length m_out m_wide m_gathered m_sets m_ranges m_nodes m_at m_flags m_fault m_place m_numbered m_depth m_value m_isNot m_least0 m_most0 m_slot m_work m_got m_rowMany m_charAt m_charWide m_trail m_isMatch m_matchGroups m_allFrom m_allBefore m_founds m_pieces m_writtenMany m_templateWide m_tooMuch) f_MO_25 d_MO_quote_75 h80.2.2 rfl ?_
        refine ab_aload_n d_MO_quote_78 rfl ?_
        refine ab_getf (fs := mof m_thrown m_taped m_length m_out m_wide m_gathered m_sets m_ranges m_nodes m_at m_flags m_fault m_place m_numbered m_depth m_value m_isNot m_least0 m_most0 m_slot m_work m_got m_rowMany m_charAt m_charWide m_trail m_isMatch m_matchGroups m_allFrom m_allBefore m_founds m_pieces m_writtenMany m_templateWide m_tooMuch) f_MO_618 d_MO_quote_79 h80.2.2 rfl ?_
        refine ab_aload_n d_MO_quote_82 rfl ?_
        refine ab_getf (fs := mof m_thrown m_taped m_length m_out m_wide m_gathered m_sets m_ranges m_nodes m_at m_flags m_fault m_place m_numbered m_depth m_value m_isNot m_least0 m_most0 m_slot m_work m_got m_rowMany m_charAt m_charWide m_trail m_isMatch m_matchGroups m_allFrom m_allBefore m_founds m_pieces m_writtenMany m_templateWide m_tooMuch) f_MO_19 d_MO_quote_83 h80.2.2 rfl ?_
        refine ab_iload_n d_MO_quote_86 rfl ?_
        refine zz_iald d_MO_quote_87 h84 (by omega) ?_
        refine zz_iast d_MO_quote_88 h86 (by omega) (h86.2.1 (by decide)) ?_
        obtain ⟨G4, eG4⟩ : ∃ z : ab_G, z = List.set G 86 (za 6000 (zu A_output m_out (A_tape i_))) := ⟨_, rfl⟩
        have h80 := h80.keep h86 eG4 (by decide)
        have h84 := h84.keep h86 eG4 (by decide)
        have hlen := (z_len eG4).trans hlen
        have hsl := (z_sl h86 eG4 rfl).trans hsl
        have hfr := hfr.wr h86 eG4 (by decide)
        have h86 := h86.kept eG4
        change ab_W _ _ _ (List.set G 86 (za 6000 (zu A_output m_out (A_tape i_)))) 89 [some (vR 80), some (vz i_), some (vz 1)] [] _
        rw [← eG4]
        refine ab_aload_n d_MO_quote_89 rfl ?_
        refine ab_dup d_MO_quote_90 rfl ?_
        refine ab_getf (fs := mof m_thrown m_taped m_length m_out m_wide m_gathered m_sets m_ranges m_nodes m_at m_flags m_fault m_place m_numbered m_depth m_value m_isNot m_least0 m_most0 m_slot m_work m_got m_rowMany m_charAt m_charWide m_trail m_isMatch m_matchGroups m_allFrom m_allBefore m_founds m_pieces m_writtenMany m_templateWide m_tooMuch) f_MO_618 d_MO_quote_91 h80.2.2 rfl ?_
        refine zz_iconst d_MO_quote_94 ?_
        refine zz_iadd d_MO_quote_95 ?_
        refine ab_putf (fs := mof m_thrown m_taped m_length m_out m_wide m_gathered m_sets m_ranges m_nodes m_at m_flags m_fault m_place m_numbered m_depth m_value m_isNot m_least0 m_most0 m_slot m_work m_got m_rowMany m_charAt m_charWide m_trail m_isMatch m_matchGroups m_allFrom m_allBefore m_founds m_pieces m_writtenMany m_templateWide m_tooMuch) f_MO_618 (Or.inl rfl) d_MO_quote_96 h80.2.2 (Nat.le_of_ble_eq_true rfl) (fun _ => ⟨rfl, rfl⟩) (h80.2.1 (by decide)) ?_
        obtain ⟨G5, eG5⟩ : ∃ z : ab_G, z = List.set G4 80 (ab_ob 12 (mof m_thrown m_taped m_length (m_out + 1) m_wide m_gathered m_sets m_ranges m_nodes m_at m_flags m_fault m_place m_numbered m_depth m_value m_isNot m_least0 m_most0 m_slot m_work m_got m_rowMany m_charAt m_charWide m_trail m_isMatch m_matchGroups m_allFrom m_allBefore m_founds m_pieces m_writtenMany m_templateWide m_tooMuch)) := ⟨_, rfl⟩
        have h86 := h86.keep h80 eG5 (by decide)
        have h84 := h84.keep h80 eG5 (by decide)
        have hlen := (z_len eG5).trans hlen
        have hsl := (z_sl h80 eG5 rfl).trans hsl
        have hfr := hfr.wr h80 eG5 (by decide)
        have h80 := h80.kept eG5
        change ab_W _ _ _ (List.set G4 80 (ab_ob 12 (mof m_thrown m_taped m_length (m_out + 1) m_wide m_gathered m_sets m_ranges m_nodes m_at m_flags m_fault m_place m_numbered m_depth m_value m_isNot m_least0 m_most0 m_slot m_work m_got m_rowMany m_charAt m_charWide m_trail m_isMatch m_matchGroups m_allFrom m_allBefore m_founds m_pieces m_writtenMany m_templateWide m_tooMuch))) 99 [some (vR 80), some (vz i_), some (vz 1)] [] _
        rw [← eG5]
        refine zz_iinc d_MO_quote_99 rfl (Nat.le_of_ble_eq_true rfl) (Nat.le_of_ble_eq_true rfl) rfl ?_
        change ab_W _ _ _ G5 102 [some (vR 80), some (vz (i_ + 1)), some (vz 1)] [] _
        refine ab_goto (tgt := 12) d_MO_quote_102 (by decide) ?_
        refine ab_less (L' := [some (vR 80), some (vz (i_ + 1)), none]) (fun i v h => by rcases i with _ | _ | _ | i <;> first | exact h | (simp at h)) ?_
        exact ih (i_ := (i_ + 1)) (m_out := (m_out + 1)) (A_output := (zu A_output m_out (A_tape i_))) h80 h86 h84 (by omega) (qlI_1 (by omega) jql rfl (Or.inl (by omega))) (qtI_1 jqc (Or.inl (by omega))) hfr hlen hsl (by omega) hk0
      · refine ab_aload_n d_MO_quote_31 rfl ?_
        refine ab_getf (fs := mof m_thrown m_taped m_length m_out m_wide m_gathered m_sets m_ranges m_nodes m_at m_flags m_fault m_place m_numbered m_depth m_value m_isNot m_least0 m_most0 m_slot m_work m_got m_rowMany m_charAt m_charWide m_trail m_isMatch m_matchGroups m_allFrom m_allBefore m_founds m_pieces m_writtenMany m_templateWide m_tooMuch) f_MO_19 d_MO_quote_32 h80.2.2 rfl ?_
        refine ab_iload_n d_MO_quote_35 rfl ?_
        refine zz_iald d_MO_quote_36 h84 (by omega) ?_
        refine ab_callS (d' := d - 1) (as := [vz (A_tape i_)]) (st := []) (z_MO_isWord (o := o) (x := (A_tape i_)) (by omega)) (fun oc G2 h => by rcases h with ⟨h, _⟩ | ⟨h, _⟩ <;> exact ⟨_, h⟩) (by omega) m_MO_isWord ml_MO_326 st_MO_isWord (Nat.le_of_ble_eq_true rfl) d_MO_quote_37 rfl ?_
        intro v G6 hq
        rcases hq with ⟨hv, hGe, hq7⟩ | ⟨hv, hGe, hq8⟩
        · cases hv
          rw [hGe]
          change ab_W _ _ _ G 40 [some (vR 80), some (vz i_), none] [vz 1] _
          refine zz_if_eq (tgt := 47) d_MO_quote_40 (by decide) (by decide) (fun c9 => absurd c9 (by decide)) (fun c9 => ?_)
          refine zz_iconst d_MO_quote_43 ?_
          refine ab_goto (tgt := 48) d_MO_quote_44 (by decide) ?_
          refine ab_istore_n d_MO_quote_48 (Nat.le_of_ble_eq_true rfl) (Nat.le_of_ble_eq_true rfl) rfl ?_
          change ab_W _ _ _ G 49 [some (vR 80), some (vz i_), some (vz 1)] [] _
          refine ab_iload_n d_MO_quote_49 rfl ?_
          refine zz_if_ne (tgt := 74) d_MO_quote_50 (by decide) (by decide) (fun c10 => ?_) (fun c10 => absurd c10 (by decide))
          refine ab_aload_n d_MO_quote_74 rfl ?_
          refine ab_getf (fs := mof m_thrown m_taped m_length m_out m_wide m_gathered m_sets m_ranges m_nodes m_at m_flags m_fault m_place m_numbered m_depth m_value m_isNot m_least0 m_most0 m_slot m_work m_got m_rowMany m_charAt m_charWide m_trail m_isMatch m_matchGroups m_allFrom m_allBefore m_founds m_pieces m_writtenMany m_templateWide m_tooMuch) f_MO_25 d_MO_quote_75 h80.2.2 rfl ?_
          refine ab_aload_n d_MO_quote_78 rfl ?_
          refine ab_getf (fs := mof m_thrown m_taped m_length m_out m_wide m_gathered m_sets m_ranges m_nodes m_at m_flags m_fault m_place m_numbered m_depth m_value m_isNot m_least0 m_most0 m_slot m_work m_got m_rowMany m_charAt m_charWide m_trail m_isMatch m_matchGroups m_allFrom m_allBefore m_founds m_pieces m_writtenMany m_templateWide m_tooMuch) f_MO_618 d_MO_quote_79 h80.2.2 rfl ?_
          refine ab_aload_n d_MO_quote_82 rfl ?_
          refine ab_getf (fs := mof m_thrown m_taped m_length m_out m_wide m_gathered m_sets m_ranges m_nodes m_at m_flags m_fault m_place m_numbered m_depth m_value m_isNot m_least0 m_most0 m_slot m_work m_got m_rowMany m_charAt m_charWide m_trail m_isMatch m_matchGroups m_allFrom m_allBefore m_founds m_pieces m_writtenMany m_templateWide m_tooMuch) f_MO_19 d_MO_quote_83 h80.2.2 rfl ?_
          refine ab_iload_n d_MO_quote_86 rfl ?_
          refine zz_iald d_MO_quote_87 h84 (by omega) ?_
          refine zz_iast d_MO_quote_88 h86 (by omega) (h86.2.1 (by decide)) ?_
          obtain ⟨G11, eG11⟩ : ∃ z : ab_G, z = List.set G 86 (za 6000 (zu A_output m_out (A_tape i_))) := ⟨_, rfl⟩
          have h80 := h80.keep h86 eG11 (by decide)
          have h84 := h84.keep h86 eG11 (by decide)
          have hlen := (z_len eG11).trans hlen
          have hsl := (z_sl h86 eG11 rfl).trans hsl
          have hfr := hfr.wr h86 eG11 (by decide)
          have h86 := h86.kept eG11
          change ab_W _ _ _ (List.set G 86 (za 6000 (zu A_output m_out (A_tape i_)))) 89 [some (vR 80), some (vz i_), some (vz 1)] [] _
          rw [← eG11]
          refine ab_aload_n d_MO_quote_89 rfl ?_
          refine ab_dup d_MO_quote_90 rfl ?_
          refine ab_getf (fs := mof m_thrown m_taped m_length m_out m_wide m_gathered m_sets m_ranges m_nodes m_at m_flags m_fault m_place m_numbered m_depth m_value m_isNot m_least0 m_most0 m_slot m_work m_got m_rowMany m_charAt m_charWide m_trail m_isMatch m_matchGroups m_allFrom m_allBefore m_founds m_pieces m_writtenMany m_templateWide m_tooMuch) f_MO_618 d_MO_quote_91 h80.2.2 rfl ?_
          refine zz_iconst d_MO_quote_94 ?_
          refine zz_iadd d_MO_quote_95 ?_
          refine ab_putf (fs := mof m_thrown m_taped m_length m_out m_wide m_gathered m_sets m_ranges m_nodes m_at m_flags m_fault m_place m_numbered m_depth m_value m_isNot m_least0 m_most0 m_slot m_work m_got m_rowMany m_charAt m_charWide m_trail m_isMatch m_matchGroups m_allFrom m_allBefore m_founds m_pieces m_writtenMany m_templateWide m_tooMuch) f_MO_618 (Or.inl rfl) d_MO_quote_96 h80.2.2 (Nat.le_of_ble_eq_true rfl) (fun _ => ⟨rfl, rfl⟩) (h80.2.1 (by decide)) ?_
          obtain ⟨G12, eG12⟩ : ∃ z : ab_G, z = List.set G11 80 (ab_ob 12 (mof m_thrown m_taped m_length (m_out + 1) m_wide m_gathered m_sets m_ranges m_nodes m_at m_flags m_fault m_place m_numbered m_depth m_value m_isNot m_least0 m_most0 m_slot m_work m_got m_rowMany m_charAt m_charWide m_trail m_isMatch m_matchGroups m_allFrom m_allBefore m_founds m_pieces m_writtenMany m_templateWide m_tooMuch)) := ⟨_, rfl⟩
          have h86 := h86.keep h80 eG12 (by decide)
          have h84 := h84.keep h80 eG12 (by decide)
          have hlen := (z_len eG12).trans hlen
          have hsl := (z_sl h80 eG12 rfl).trans hsl
          have hfr := hfr.wr h80 eG12 (by decide)
          have h80 := h80.kept eG12
          change ab_W _ _ _ (List.set G11 80 (ab_ob 12 (mof m_thrown m_taped m_length (m_out + 1) m_wide m_gathered m_sets m_ranges m_nodes m_at m_flags m_fault m_place m_numbered m_depth m_value m_isNot m_least0 m_most0 m_slot m_work m_got m_rowMany m_charAt m_charWide m_trail m_isMatch m_matchGroups m_allFrom m_allBefore m_founds m_pieces m_writtenMany m_templateWide m_tooMuch))) 99 [some (vR 80), some (vz i_), some (vz 1)] [] _
          rw [← eG12]
          refine zz_iinc d_MO_quote_99 rfl (Nat.le_of_ble_eq_true rfl) (Nat.le_of_ble_eq_true rfl) rfl ?_
          change ab_W _ _ _ G12 102 [some (vR 80), some (vz (i_ + 1)), some (vz 1)] [] _
          refine ab_goto (tgt := 12) d_MO_quote_102 (by decide) ?_
          refine ab_less (L' := [some (vR 80), some (vz (i_ + 1)), none]) (fun i v h => by rcases i with _ | _ | _ | i <;> first | exact h | (simp at h)) ?_
          exact ih (i_ := (i_ + 1)) (m_out := (m_out + 1)) (A_output := (zu A_output m_out (A_tape i_))) h80 h86 h84 (by omega) (qlI_1 (by omega) jql rfl (Or.inr hq7)) (qtI_1 jqc (Or.inr hq7)) hfr hlen hsl (by omega) hk0
        · cases hv
          rw [hGe]
          change ab_W _ _ _ G 40 [some (vR 80), some (vz i_), none] [vz 0] _
          refine zz_if_eq (tgt := 47) d_MO_quote_40 (by decide) (by decide) (fun c13 => ?_) (fun c13 => absurd c13 (by decide))
          refine zz_iconst d_MO_quote_47 ?_
          refine ab_istore_n d_MO_quote_48 (Nat.le_of_ble_eq_true rfl) (Nat.le_of_ble_eq_true rfl) rfl ?_
          change ab_W _ _ _ G 49 [some (vR 80), some (vz i_), some (vz 0)] [] _
          refine ab_iload_n d_MO_quote_49 rfl ?_
          refine zz_if_ne (tgt := 74) d_MO_quote_50 (by decide) (by decide) (fun c14 => absurd c14 (by decide)) (fun c14 => ?_)
          refine ab_aload_n d_MO_quote_53 rfl ?_
          refine ab_getf (fs := mof m_thrown m_taped m_length m_out m_wide m_gathered m_sets m_ranges m_nodes m_at m_flags m_fault m_place m_numbered m_depth m_value m_isNot m_least0 m_most0 m_slot m_work m_got m_rowMany m_charAt m_charWide m_trail m_isMatch m_matchGroups m_allFrom m_allBefore m_founds m_pieces m_writtenMany m_templateWide m_tooMuch) f_MO_25 d_MO_quote_54 h80.2.2 rfl ?_
          refine ab_aload_n d_MO_quote_57 rfl ?_
          refine ab_getf (fs := mof m_thrown m_taped m_length m_out m_wide m_gathered m_sets m_ranges m_nodes m_at m_flags m_fault m_place m_numbered m_depth m_value m_isNot m_least0 m_most0 m_slot m_work m_got m_rowMany m_charAt m_charWide m_trail m_isMatch m_matchGroups m_allFrom m_allBefore m_founds m_pieces m_writtenMany m_templateWide m_tooMuch) f_MO_618 d_MO_quote_58 h80.2.2 rfl ?_
          refine zz_bipush d_MO_quote_61 (by decide) ?_
          refine zz_iast d_MO_quote_63 h86 (by omega) (h86.2.1 (by decide)) ?_
          obtain ⟨G15, eG15⟩ : ∃ z : ab_G, z = List.set G 86 (za 6000 (zu A_output m_out 92)) := ⟨_, rfl⟩
          have h80 := h80.keep h86 eG15 (by decide)
          have h84 := h84.keep h86 eG15 (by decide)
          have hlen := (z_len eG15).trans hlen
          have hsl := (z_sl h86 eG15 rfl).trans hsl
          have hfr := hfr.wr h86 eG15 (by decide)
          have h86 := h86.kept eG15
          change ab_W _ _ _ (List.set G 86 (za 6000 (zu A_output m_out 92))) 64 [some (vR 80), some (vz i_), some (vz 0)] [] _
          rw [← eG15]
          refine ab_aload_n d_MO_quote_64 rfl ?_
          refine ab_dup d_MO_quote_65 rfl ?_
          refine ab_getf (fs := mof m_thrown m_taped m_length m_out m_wide m_gathered m_sets m_ranges m_nodes m_at m_flags m_fault m_place m_numbered m_depth m_value m_isNot m_least0 m_most0 m_slot m_work m_got m_rowMany m_charAt m_charWide m_trail m_isMatch m_matchGroups m_allFrom m_allBefore m_founds m_pieces m_writtenMany m_templateWide m_tooMuch) f_MO_618 d_MO_quote_66 h80.2.2 rfl ?_
          refine zz_iconst d_MO_quote_69 ?_
          refine zz_iadd d_MO_quote_70 ?_
          refine ab_putf (fs := mof m_thrown m_taped m_length m_out m_wide m_gathered m_sets m_ranges m_nodes m_at m_flags m_fault m_place m_numbered m_depth m_value m_isNot m_least0 m_most0 m_slot m_work m_got m_rowMany m_charAt m_charWide m_trail m_isMatch m_matchGroups m_allFrom m_allBefore m_founds m_pieces m_writtenMany m_templateWide m_tooMuch) f_MO_618 (Or.inl rfl) d_MO_quote_71 h80.2.2 (Nat.le_of_ble_eq_true rfl) (fun _ => ⟨rfl, rfl⟩) (h80.2.1 (by decide)) ?_
          obtain ⟨G16, eG16⟩ : ∃ z : ab_G, z = List.set G15 80 (ab_ob 12 (mof m_thrown m_taped m_length (m_out + 1) m_wide m_gathered m_sets m_ranges m_nodes m_at m_flags m_fault m_place m_numbered m_depth m_value m_isNot m_least0 m_most0 m_slot m_work m_got m_rowMany m_charAt m_charWide m_trail m_isMatch m_matchGroups m_allFrom m_allBefore m_founds m_pieces m_writtenMany m_templateWide m_tooMuch)) := ⟨_, rfl⟩
          have h86 := h86.keep h80 eG16 (by decide)
          have h84 := h84.keep h80 eG16 (by decide)
          have hlen := (z_len eG16).trans hlen
          have hsl := (z_sl h80 eG16 rfl).trans hsl
          have hfr := hfr.wr h80 eG16 (by decide)
          have h80 := h80.kept eG16
          change ab_W _ _ _ (List.set G15 80 (ab_ob 12 (mof m_thrown m_taped m_length (m_out + 1) m_wide m_gathered m_sets m_ranges m_nodes m_at m_flags m_fault m_place m_numbered m_depth m_value m_isNot m_least0 m_most0 m_slot m_work m_got m_rowMany m_charAt m_charWide m_trail m_isMatch m_matchGroups m_allFrom m_allBefore m_founds m_pieces m_writtenMany m_templateWide m_tooMuch))) 74 [some (vR 80), some (vz i_), some (vz 0)] [] _
          rw [← eG16]
          refine ab_aload_n d_MO_quote_74 rfl ?_
          refine ab_getf (fs := mof m_thrown m_taped m_length (m_out + 1) m_wide m_gathered m_sets m_ranges m_nodes m_at m_flags m_fault m_place m_numbered m_depth m_value m_isNot m_least0 m_most0 m_slot m_work m_got m_rowMany m_charAt m_charWide m_trail m_isMatch m_matchGroups m_allFrom m_allBefore m_founds m_pieces m_writtenMany m_templateWide m_tooMuch) f_MO_25 d_MO_quote_75 h80.2.2 rfl ?_
          refine ab_aload_n d_MO_quote_78 rfl ?_
          refine ab_getf (fs := mof m_thrown m_taped m_length (m_out + 1) m_wide m_gathered m_sets m_ranges m_nodes m_at m_flags m_fault m_place m_numbered m_depth m_value m_isNot m_least0 m_most0 m_slot m_work m_got m_rowMany m_charAt m_charWide m_trail m_isMatch m_matchGroups m_allFrom m_allBefore m_founds m_pieces m_writtenMany m_templateWide m_tooMuch) f_MO_618 d_MO_quote_79 h80.2.2 rfl ?_
          refine ab_aload_n d_MO_quote_82 rfl ?_
          refine ab_getf (fs := mof m_thrown m_taped m_length (m_out + 1) m_wide m_gathered m_sets m_ranges m_nodes m_at m_flags m_fault m_place m_numbered m_depth m_value m_isNot m_least0 m_most0 m_slot m_work m_got m_rowMany m_charAt m_charWide m_trail m_isMatch m_matchGroups m_allFrom m_allBefore m_founds m_pieces m_writtenMany m_templateWide m_tooMuch) f_MO_19 d_MO_quote_83 h80.2.2 rfl ?_
          refine ab_iload_n d_MO_quote_86 rfl ?_
          refine zz_iald d_MO_quote_87 h84 (by omega) ?_
          refine zz_iast d_MO_quote_88 h86 (by omega) (h86.2.1 (by decide)) ?_
          obtain ⟨G17, eG17⟩ : ∃ z : ab_G, z = List.set G16 86 (za 6000 (zu (zu A_output m_out 92) (m_out + 1) (A_tape i_))) := ⟨_, rfl⟩
          have h80 := h80.keep h86 eG17 (by decide)
          have h84 := h84.keep h86 eG17 (by decide)
          have hlen := (z_len eG17).trans hlen
          have hsl := (z_sl h86 eG17 rfl).trans hsl
          have hfr := hfr.wr h86 eG17 (by decide)
          have h86 := h86.kept eG17
          change ab_W _ _ _ (List.set G16 86 (za 6000 (zu (zu A_output m_out 92) (m_out + 1) (A_tape i_)))) 89 [some (vR 80), some (vz i_), some (vz 0)] [] _
          rw [← eG17]
          refine ab_aload_n d_MO_quote_89 rfl ?_
          refine ab_dup d_MO_quote_90 rfl ?_
          refine ab_getf (fs := mof m_thrown m_taped m_length (m_out + 1) m_wide m_gathered m_sets m_ranges m_nodes m_at m_flags m_fault m_place m_numbered m_depth m_value m_isNot m_least0 m_most0 m_slot m_work m_got m_rowMany m_charAt m_charWide m_trail m_isMatch m_matchGroups m_allFrom m_allBefore m_founds m_pieces m_writtenMany m_templateWide m_tooMuch) f_MO_618 d_MO_quote_91 h80.2.2 rfl ?_
          refine zz_iconst d_MO_quote_94 ?_
          refine zz_iadd d_MO_quote_95 ?_
          refine ab_putf (fs := mof m_thrown m_taped m_length (m_out + 1) m_wide m_gathered m_sets m_ranges m_nodes m_at m_flags m_fault m_place m_numbered m_depth m_value m_isNot m_least0 m_most0 m_slot m_work m_got m_rowMany m_charAt m_charWide m_trail m_isMatch m_matchGroups m_allFrom m_allBefore m_founds m_pieces m_writtenMany m_templateWide m_tooMuch) f_MO_618 (Or.inl rfl) d_MO_quote_96 h80.2.2 (Nat.le_of_ble_eq_true rfl) (fun _ => ⟨rfl, rfl⟩) (h80.2.1 (by decide)) ?_
          obtain ⟨G18, eG18⟩ : ∃ z : ab_G, z = List.set G17 80 (ab_ob 12 (mof m_thrown m_taped m_length ((m_out + 1) + 1) m_wide m_gathered m_sets m_ranges m_nodes m_at m_flags m_fault m_place m_numbered m_depth m_value m_isNot m_least0 m_most0 m_slot m_work m_got m_rowMany m_charAt m_charWide m_trail m_isMatch m_matchGroups m_allFrom m_allBefore m_founds m_pieces m_writtenMany m_templateWide m_tooMuch)) := ⟨_, rfl⟩
          have h86 := h86.keep h80 eG18 (by decide)
          have h84 := h84.keep h80 eG18 (by decide)
          have hlen := (z_len eG18).trans hlen
          have hsl := (z_sl h80 eG18 rfl).trans hsl
          have hfr := hfr.wr h80 eG18 (by decide)
          have h80 := h80.kept eG18
          change ab_W _ _ _ (List.set G17 80 (ab_ob 12 (mof m_thrown m_taped m_length ((m_out + 1) + 1) m_wide m_gathered m_sets m_ranges m_nodes m_at m_flags m_fault m_place m_numbered m_depth m_value m_isNot m_least0 m_most0 m_slot m_work m_got m_rowMany m_charAt m_charWide m_trail m_isMatch m_matchGroups m_allFrom m_allBefore m_founds m_pieces m_writtenMany m_templateWide m_tooMuch))) 99 [some (vR 80), some (vz i_), some (vz 0)] [] _
          rw [← eG18]
          refine zz_iinc d_MO_quote_99 rfl (Nat.le_of_ble_eq_true rfl) (Nat.le_of_ble_eq_true rfl) rfl ?_
          change ab_W _ _ _ G18 102 [some (vR 80), some (vz (i_ + 1)), some (vz 0)] [] _
          refine ab_goto (tgt := 12) d_MO_quote_102 (by decide) ?_
          refine ab_less (L' := [some (vR 80), some (vz (i_ + 1)), none]) (fun i v h => by rcases i with _ | _ | _ | i <;> first | exact h | (simp at h)) ?_
          exact ih (i_ := (i_ + 1)) (m_out := ((m_out + 1) + 1)) (A_output := (zu (zu A_output m_out 92) (m_out + 1) (A_tape i_))) h80 h86 h84 (by omega) (qlI_2 (by omega) jql rfl (by omega) hq8) (qtI_2 jqc (by omega) hq8) hfr hlen hsl (by omega) hk0
set_option maxRecDepth 100000 in
set_option maxHeartbeats 4000000 in
theorem x_MO_quote {X : ab_X} {d : Nat} {o : Nat → Nat} {G : ab_G} {m_thrown : Int} {m_taped : Int} {m_length : Int} {m_out : Int} {m_wide : Int} {m_gathered : Int} {m_sets : Int} {m_ranges : Int} {m_nodes : Int} {m_at : Int} {m_flags : Int} {m_fault : Int} {m_place : Int} {m_numbered : Int} {m_depth : Int} {m_value : Int} {m_isNot : Int} {m_least0 : Int} {m_most0 : Int} {m_slot : Int} {m_work : Int} {m_got : Int} {m_rowMany : Int} {m_charAt : Int} {m_charWide : Int} {m_trail : Int} {m_isMatch : Int} {m_matchGroups : Int} {m_allFrom : Int} {m_allBefore : Int} {m_founds : Int} {m_pieces : Int} {m_writtenMany : Int} {m_templateWide : Int} {m_tooMuch : Int} {A_output : Int → Int} {A_tape : Int → Int} (h80 : cc o G 80 280 (ab_ob 12 (mof m_thrown m_taped m_length m_out m_wide m_gathered m_sets m_ranges m_nodes m_at m_flags m_fault m_place m_numbered m_depth m_value m_isNot m_least0 m_most0 m_slot m_work m_got m_rowMany m_charAt m_charWide m_trail m_isMatch m_matchGroups m_allFrom m_allBefore m_founds m_pieces m_writtenMany m_templateWide m_tooMuch))) (h86 : cc o G 86 286 (za 6000 A_output)) (h84 : cc o G 84 284 (za 2000 A_tape)) (n18 : ab_n0 = 18) (jtp : rgs A_tape 2000 0 255) (cta : 0 ≤ m_taped ∧ m_taped ≤ 2000) (hd : 2 ≤ d) : ab_F X d y_MO_quote (.code y_MO_quote b_MO_quote 3 (some (.int))) [vR 80] G (fun oc G2 => ∃ v : Int, ∃ B_output : Int → Int, oc = .returned (some (vz v)) ∧ fx o o [280, 286] G G2 ∧ G2.length = G.length ∧ ab_slots G2 = ab_slots G ∧ cc o G2 80 280 (ab_ob 12 (mof 0 0 m_length v m_wide m_gathered m_sets m_ranges m_nodes m_at m_flags m_fault m_place m_numbered m_depth m_value m_isNot m_least0 m_most0 m_slot m_work m_got m_rowMany m_charAt m_charWide m_trail m_isMatch m_matchGroups m_allFrom m_allBefore m_founds m_pieces m_writtenMany m_templateWide m_tooMuch)) ∧ cc o G2 86 286 (za 6000 B_output) ∧ (0 ≤ v ∧ v ≤ 4000) ∧ (v = qlI A_tape m_taped) ∧ (qtI A_tape m_taped B_output v)) := by
  refine ab_F_of (by decide +kernel) (Nat.le_of_ble_eq_true rfl) ?_
  obtain ⟨Q, hQ⟩ : ∃ z : Outcome → ab_G → Prop, z = (fun oc G2 => ∃ v : Int, ∃ B_output : Int → Int, oc = .returned (some (vz v)) ∧ fx o o [280, 286] G G2 ∧ G2.length = G.length ∧ ab_slots G2 = ab_slots G ∧ cc o G2 80 280 (ab_ob 12 (mof 0 0 m_length v m_wide m_gathered m_sets m_ranges m_nodes m_at m_flags m_fault m_place m_numbered m_depth m_value m_isNot m_least0 m_most0 m_slot m_work m_got m_rowMany m_charAt m_charWide m_trail m_isMatch m_matchGroups m_allFrom m_allBefore m_founds m_pieces m_writtenMany m_templateWide m_tooMuch)) ∧ cc o G2 86 286 (za 6000 B_output) ∧ (0 ≤ v ∧ v ≤ 4000) ∧ (v = qlI A_tape m_taped) ∧ (qtI A_tape m_taped B_output v)) := ⟨_, rfl⟩
  rw [← hQ]
  change ab_W X (ab_pl y_MO_quote b_MO_quote 3 (some (.int))) d G 0 [some (vR 80), none, none] [] Q
  have hfr : fx o o [280, 286] G G := fx.rf
  have hlen : G.length = G.length := rfl
  have hsl : ab_slots G = ab_slots G := rfl
  refine ab_aload_n d_MO_quote_0 rfl ?_
  refine zz_iconst d_MO_quote_1 ?_
  refine ab_putf (fs := mof m_thrown m_taped m_length m_out m_wide m_gathered m_sets m_ranges m_nodes m_at m_flags m_fault m_place m_numbered m_depth m_value m_isNot m_least0 m_most0 m_slot m_work m_got m_rowMany m_charAt m_charWide m_trail m_isMatch m_matchGroups m_allFrom m_allBefore m_founds m_pieces m_writtenMany m_templateWide m_tooMuch) f_MO_220 (Or.inl rfl) d_MO_quote_2 h80.2.2 (Nat.le_of_ble_eq_true rfl) (fun _ => ⟨rfl, rfl⟩) (h80.2.1 (by decide)) ?_
  obtain ⟨G1, eG1⟩ : ∃ z : ab_G, z = List.set G 80 (ab_ob 12 (mof 0 m_taped m_length m_out m_wide m_gathered m_sets m_ranges m_nodes m_at m_flags m_fault m_place m_numbered m_depth m_value m_isNot m_least0 m_most0 m_slot m_work m_got m_rowMany m_charAt m_charWide m_trail m_isMatch m_matchGroups m_allFrom m_allBefore m_founds m_pieces m_writtenMany m_templateWide m_tooMuch)) := ⟨_, rfl⟩
  have h86 := h86.keep h80 eG1 (by decide)
  have h84 := h84.keep h80 eG1 (by decide)
  have hlen := (z_len eG1).trans hlen
  have hsl := (z_sl h80 eG1 rfl).trans hsl
  have hfr := hfr.wr h80 eG1 (by decide)
  have h80 := h80.kept eG1
  change ab_W _ _ _ (List.set G 80 (ab_ob 12 (mof 0 m_taped m_length m_out m_wide m_gathered m_sets m_ranges m_nodes m_at m_flags m_fault m_place m_numbered m_depth m_value m_isNot m_least0 m_most0 m_slot m_work m_got m_rowMany m_charAt m_charWide m_trail m_isMatch m_matchGroups m_allFrom m_allBefore m_founds m_pieces m_writtenMany m_templateWide m_tooMuch))) 5 [some (vR 80), none, none] [] _
  rw [← eG1]
  refine ab_aload_n d_MO_quote_5 rfl ?_
  refine zz_iconst d_MO_quote_6 ?_
  refine ab_putf (fs := mof 0 m_taped m_length m_out m_wide m_gathered m_sets m_ranges m_nodes m_at m_flags m_fault m_place m_numbered m_depth m_value m_isNot m_least0 m_most0 m_slot m_work m_got m_rowMany m_charAt m_charWide m_trail m_isMatch m_matchGroups m_allFrom m_allBefore m_founds m_pieces m_writtenMany m_templateWide m_tooMuch) f_MO_618 (Or.inl rfl) d_MO_quote_7 h80.2.2 (Nat.le_of_ble_eq_true rfl) (fun _ => ⟨rfl, rfl⟩) (h80.2.1 (by decide)) ?_
  obtain ⟨G2, eG2⟩ : ∃ z : ab_G, z = List.set G1 80 (ab_ob 12 (mof 0 m_taped m_length 0 m_wide m_gathered m_sets m_ranges m_nodes m_at m_flags m_fault m_place m_numbered m_depth m_value m_isNot m_least0 m_most0 m_slot m_work m_got m_rowMany m_charAt m_charWide m_trail m_isMatch m_matchGroups m_allFrom m_allBefore m_founds m_pieces m_writtenMany m_templateWide m_tooMuch)) := ⟨_, rfl⟩
  have h86 := h86.keep h80 eG2 (by decide)
  have h84 := h84.keep h80 eG2 (by decide)
  have hlen := (z_len eG2).trans hlen
  have hsl := (z_sl h80 eG2 rfl).trans hsl
  have hfr := hfr.wr h80 eG2 (by decide)
  have h80 := h80.kept eG2
  change ab_W _ _ _ (List.set G1 80 (ab_ob 12 (mof 0 m_taped m_length 0 m_wide m_gathered m_sets m_ranges m_nodes m_at m_flags m_fault m_place m_numbered m_depth m_value m_isNot m_least0 m_most0 m_slot m_work m_got m_rowMany m_charAt m_charWide m_trail m_isMatch m_matchGroups m_allFrom m_allBefore m_founds m_pieces m_writtenMany m_templateWide m_tooMuch))) 10 [some (vR 80), none, none] [] _
  rw [← eG2]
  refine zz_iconst d_MO_quote_10 ?_
  refine ab_istore_n d_MO_quote_11 (Nat.le_of_ble_eq_true rfl) (Nat.le_of_ble_eq_true rfl) rfl ?_
  change ab_W _ _ _ G2 12 [some (vR 80), some (vz 0), none] [] _
  refine xy_MO_quote_12 (m_thrown := 0) (m_taped := m_taped) (m_length := m_length) (m_wide := m_wide) (m_gathered := m_gathered) (m_sets := m_sets) (m_ranges := m_ranges) (m_nodes := m_nodes) (m_at := m_at) (m_flags := m_flags) (m_fault := m_fault) (m_place := m_place) (m_numbered := m_numbered) (m_depth := m_depth) (m_value := m_value) (m_isNot := m_isNot) (m_least0 := m_least0) (m_most0 := m_most0) (m_slot := m_slot) (m_work := m_work) (m_got := m_got) (m_rowMany := m_rowMany) (m_charAt := m_charAt) (m_charWide := m_charWide) (m_trail := m_trail) (m_isMatch := m_isMatch) (m_matchGroups := m_matchGroups) (m_allFrom := m_allFrom) (m_allBefore := m_allBefore) (m_founds := m_founds) (m_pieces := m_pieces) (m_writtenMany := m_writtenMany) (m_templateWide := m_templateWide) (m_tooMuch := m_tooMuch) (A_tape := A_tape) (G0 := G2) (i_ := 0) (m_out := 0) (A_output := A_output) (by omega) jtp (by omega) (by omega) (Int.toNat (m_taped - 0) + 1) h80 h86 h84 (by omega) qlI_0.symm (qtI_0 rfl) fx.rf rfl rfl (by omega) (fun G3 o_4 B_output5 hN80 hN86 hq6 hq7 hq8 hfk hlk hsk => ?_)
  · have h84 := hfk.get h84 (by decide)
    have hfr := hfr.tr hfk (by decide)
    have hlen := hlk.trans hlen
    have hsl := hsk.trans hsl
    have h80 := hN80
    have h86 := hN86
    change ab_W _ _ _ G3 105 [some (vR 80), none, none] [] _
    refine ab_aload_n d_MO_quote_105 rfl ?_
    refine zz_iconst d_MO_quote_106 ?_
    refine ab_putf (fs := mof 0 m_taped m_length o_4 m_wide m_gathered m_sets m_ranges m_nodes m_at m_flags m_fault m_place m_numbered m_depth m_value m_isNot m_least0 m_most0 m_slot m_work m_got m_rowMany m_charAt m_charWide m_trail m_isMatch m_matchGroups m_allFrom m_allBefore m_founds m_pieces m_writtenMany m_templateWide m_tooMuch) f_MO_223 (Or.inl rfl) d_MO_quote_107 h80.2.2 (Nat.le_of_ble_eq_true rfl) (fun _ => ⟨rfl, rfl⟩) (h80.2.1 (by decide)) ?_
    obtain ⟨G9, eG9⟩ : ∃ z : ab_G, z = List.set G3 80 (ab_ob 12 (mof 0 0 m_length o_4 m_wide m_gathered m_sets m_ranges m_nodes m_at m_flags m_fault m_place m_numbered m_depth m_value m_isNot m_least0 m_most0 m_slot m_work m_got m_rowMany m_charAt m_charWide m_trail m_isMatch m_matchGroups m_allFrom m_allBefore m_founds m_pieces m_writtenMany m_templateWide m_tooMuch)) := ⟨_, rfl⟩
    have h86 := h86.keep h80 eG9 (by decide)
    have h84 := h84.keep h80 eG9 (by decide)
    have hlen := (z_len eG9).trans hlen
    have hsl := (z_sl h80 eG9 rfl).trans hsl
    have hfr := hfr.wr h80 eG9 (by decide)
    have h80 := h80.kept eG9
    change ab_W _ _ _ (List.set G3 80 (ab_ob 12 (mof 0 0 m_length o_4 m_wide m_gathered m_sets m_ranges m_nodes m_at m_flags m_fault m_place m_numbered m_depth m_value m_isNot m_least0 m_most0 m_slot m_work m_got m_rowMany m_charAt m_charWide m_trail m_isMatch m_matchGroups m_allFrom m_allBefore m_founds m_pieces m_writtenMany m_templateWide m_tooMuch))) 110 [some (vR 80), none, none] [] _
    rw [← eG9]
    refine ab_aload_n d_MO_quote_110 rfl ?_
    refine ab_getf (fs := mof 0 0 m_length o_4 m_wide m_gathered m_sets m_ranges m_nodes m_at m_flags m_fault m_place m_numbered m_depth m_value m_isNot m_least0 m_most0 m_slot m_work m_got m_rowMany m_charAt m_charWide m_trail m_isMatch m_matchGroups m_allFrom m_allBefore m_founds m_pieces m_writtenMany m_templateWide m_tooMuch) f_MO_618 d_MO_quote_111 h80.2.2 rfl ?_
    refine zz_iret rfl d_MO_quote_114 ?_
    rw [hQ]; exact ⟨_, _, rfl, hfr, hlen, hsl, h80, h86, (by omega), (by exact hq7), (by exact hq8)⟩
set_option maxRecDepth 100000 in
set_option maxHeartbeats 4000000 in
theorem x_MO_output {X : ab_X} {d : Nat} {o : Nat → Nat} {G : ab_G} {m_thrown : Int} {m_taped : Int} {m_length : Int} {m_out : Int} {m_wide : Int} {m_gathered : Int} {m_sets : Int} {m_ranges : Int} {m_nodes : Int} {m_at : Int} {m_flags : Int} {m_fault : Int} {m_place : Int} {m_numbered : Int} {m_depth : Int} {m_value : Int} {m_isNot : Int} {m_least0 : Int} {m_most0 : Int} {m_slot : Int} {m_work : Int} {m_got : Int} {m_rowMany : Int} {m_charAt : Int} {m_charWide : Int} {m_trail : Int} {m_isMatch : Int} {m_matchGroups : Int} {m_allFrom : Int} {m_allBefore : Int} {m_founds : Int} {m_pieces : Int} {m_writtenMany : Int} {m_templateWide : Int} {m_tooMuch : Int} {A_output : Int → Int} {x : Int} (h80 : cc o G 80 280 (ab_ob 12 (mof m_thrown m_taped m_length m_out m_wide m_gathered m_sets m_ranges m_nodes m_at m_flags m_fault m_place m_numbered m_depth m_value m_isNot m_least0 m_most0 m_slot m_work m_got m_rowMany m_charAt m_charWide m_trail m_isMatch m_matchGroups m_allFrom m_allBefore m_founds m_pieces m_writtenMany m_templateWide m_tooMuch))) (h86 : cc o G 86 286 (za 6000 A_output)) (n18 : ab_n0 = 18) (cr : -2147483648 ≤ x ∧ x ≤ 2147483647) (co : 0 ≤ m_out ∧ m_out ≤ 6000) : ab_F X d y_MO_output (.code y_MO_output b_MO_output 2 (some (.int))) [vR 80, vz x] G (fun oc G2 => ∃ v : Int, oc = .returned (some (vz v)) ∧ fx o o [280] G G2 ∧ G2.length = G.length ∧ ab_slots G2 = ab_slots G ∧ cc o G2 80 280 (ab_ob 12 (mof 0 m_taped m_length m_out m_wide m_gathered m_sets m_ranges m_nodes m_at m_flags m_fault m_place m_numbered m_depth m_value m_isNot m_least0 m_most0 m_slot m_work m_got m_rowMany m_charAt m_charWide m_trail m_isMatch m_matchGroups m_allFrom m_allBefore m_founds m_pieces m_writtenMany m_templateWide m_tooMuch)) ∧ (ouR A_output m_out x v)) := by
  refine ab_F_of (by decide +kernel) (Nat.le_of_ble_eq_true rfl) ?_
  obtain ⟨Q, hQ⟩ : ∃ z : Outcome → ab_G → Prop, z = (fun oc G2 => ∃ v : Int, oc = .returned (some (vz v)) ∧ fx o o [280] G G2 ∧ G2.length = G.length ∧ ab_slots G2 = ab_slots G ∧ cc o G2 80 280 (ab_ob 12 (mof 0 m_taped m_length m_out m_wide m_gathered m_sets m_ranges m_nodes m_at m_flags m_fault m_place m_numbered m_depth m_value m_isNot m_least0 m_most0 m_slot m_work m_got m_rowMany m_charAt m_charWide m_trail m_isMatch m_matchGroups m_allFrom m_allBefore m_founds m_pieces m_writtenMany m_templateWide m_tooMuch)) ∧ (ouR A_output m_out x v)) := ⟨_, rfl⟩
  rw [← hQ]
  change ab_W X (ab_pl y_MO_output b_MO_output 2 (some (.int))) d G 0 [some (vR 80), some (vz x)] [] Q
  have hfr : fx o o [280] G G := fx.rf
  have hlen : G.length = G.length := rfl
  have hsl : ab_slots G = ab_slots G := rfl
  refine ab_aload_n d_MO_output_0 rfl ?_
  refine zz_iconst d_MO_output_1 ?_
  refine ab_putf (fs := mof m_thrown m_taped m_length m_out m_wide m_gathered m_sets m_ranges m_nodes m_at m_flags m_fault m_place m_numbered m_depth m_value m_isNot m_least0 m_most0 m_slot m_work m_got m_rowMany m_charAt m_charWide m_trail m_isMatch m_matchGroups m_allFrom m_allBefore m_founds m_pieces m_writtenMany m_templateWide m_tooMuch) f_MO_220 (Or.inl rfl) d_MO_output_2 h80.2.2 (Nat.le_of_ble_eq_true rfl) (fun _ => ⟨rfl, rfl⟩) (h80.2.1 (by decide)) ?_
  obtain ⟨G1, eG1⟩ : ∃ z : ab_G, z = List.set G 80 (ab_ob 12 (mof 0 m_taped m_length m_out m_wide m_gathered m_sets m_ranges m_nodes m_at m_flags m_fault m_place m_numbered m_depth m_value m_isNot m_least0 m_most0 m_slot m_work m_got m_rowMany m_charAt m_charWide m_trail m_isMatch m_matchGroups m_allFrom m_allBefore m_founds m_pieces m_writtenMany m_templateWide m_tooMuch)) := ⟨_, rfl⟩
  have h86 := h86.keep h80 eG1 (by decide)
  have hlen := (z_len eG1).trans hlen
  have hsl := (z_sl h80 eG1 rfl).trans hsl
  have hfr := hfr.wr h80 eG1 (by decide)
  have h80 := h80.kept eG1
  change ab_W _ _ _ (List.set G 80 (ab_ob 12 (mof 0 m_taped m_length m_out m_wide m_gathered m_sets m_ranges m_nodes m_at m_flags m_fault m_place m_numbered m_depth m_value m_isNot m_least0 m_most0 m_slot m_work m_got m_rowMany m_charAt m_charWide m_trail m_isMatch m_matchGroups m_allFrom m_allBefore m_founds m_pieces m_writtenMany m_templateWide m_tooMuch))) 5 [some (vR 80), some (vz x)] [] _
  rw [← eG1]
  refine ab_iload_n d_MO_output_5 rfl ?_
  refine zz_if_lt (tgt := 17) d_MO_output_6 (by decide) (by omega) (fun c2 => ?_) (fun c2 => ?_)
  · refine zz_iconst d_MO_output_17 ?_
    refine ab_goto (tgt := 27) d_MO_output_18 (by decide) ?_
    refine zz_iret rfl d_MO_output_27 ?_
    rw [hQ]; exact ⟨_, rfl, hfr, hlen, hsl, h80, (by first | exact Or.inl ⟨by omega, by omega, rfl⟩ | exact Or.inr ⟨by omega, rfl⟩)⟩
  · refine ab_iload_n d_MO_output_9 rfl ?_
    refine ab_aload_n d_MO_output_10 rfl ?_
    refine ab_getf (fs := mof 0 m_taped m_length m_out m_wide m_gathered m_sets m_ranges m_nodes m_at m_flags m_fault m_place m_numbered m_depth m_value m_isNot m_least0 m_most0 m_slot m_work m_got m_rowMany m_charAt m_charWide m_trail m_isMatch m_matchGroups m_allFrom m_allBefore m_founds m_pieces m_writtenMany m_templateWide m_tooMuch) f_MO_618 d_MO_output_11 h80.2.2 rfl ?_
    refine zz_icmp_lt (tgt := 21) d_MO_output_14 (by decide) (by omega) (by omega) (fun c3 => ?_) (fun c3 => ?_)
    · refine ab_aload_n d_MO_output_21 rfl ?_
      refine ab_getf (fs := mof 0 m_taped m_length m_out m_wide m_gathered m_sets m_ranges m_nodes m_at m_flags m_fault m_place m_numbered m_depth m_value m_isNot m_least0 m_most0 m_slot m_work m_got m_rowMany m_charAt m_charWide m_trail m_isMatch m_matchGroups m_allFrom m_allBefore m_founds m_pieces m_writtenMany m_templateWide m_tooMuch) f_MO_25 d_MO_output_22 h80.2.2 rfl ?_
      refine ab_iload_n d_MO_output_25 rfl ?_
      refine zz_iald d_MO_output_26 h86 (by omega) ?_
      refine zz_iret rfl d_MO_output_27 ?_
      rw [hQ]; exact ⟨_, rfl, hfr, hlen, hsl, h80, (by first | exact Or.inl ⟨by omega, by omega, rfl⟩ | exact Or.inr ⟨by omega, rfl⟩)⟩
    · refine zz_iconst d_MO_output_17 ?_
      refine ab_goto (tgt := 27) d_MO_output_18 (by decide) ?_
      refine zz_iret rfl d_MO_output_27 ?_
      rw [hQ]; exact ⟨_, rfl, hfr, hlen, hsl, h80, (by first | exact Or.inl ⟨by omega, by omega, rfl⟩ | exact Or.inr ⟨by omega, rfl⟩)⟩
