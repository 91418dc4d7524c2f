set_option maxRecDepth 100000 in
set_option maxHeartbeats 4000000 in
theorem x_MO_group {X : ab_X} {d : Nat} {o : Nat → Nat} {G : ab_G} {m_thrown : Int} {m_taped : Int} {m_length : Int} {m_out : Int} {m_wide : Int} {m_gathered : Int} {m_sets : Int} {m_ranges : Int} {m_nodes : Int} {m_at : Int} {m_flags : Int} {m_fault : Int} {m_place : Int} {m_numbered : Int} {m_depth : Int} {m_value : Int} {m_isNot : Int} {m_least0 : Int} {m_most0 : Int} {m_slot : Int} {m_work : Int} {m_got : Int} {m_rowMany : Int} {m_charAt : Int} {m_charWide : Int} {m_trail : Int} {m_isMatch : Int} {m_matchGroups : Int} {m_allFrom : Int} {m_allBefore : Int} {m_founds : Int} {m_pieces : Int} {m_writtenMany : Int} {m_templateWide : Int} {m_tooMuch : Int} {A_kept : Int → Int} {x : Int} {y : Int} (h80 : cc o G 80 280 (ab_ob 12 (mof m_thrown m_taped m_length m_out m_wide m_gathered m_sets m_ranges m_nodes m_at m_flags m_fault m_place m_numbered m_depth m_value m_isNot m_least0 m_most0 m_slot m_work m_got m_rowMany m_charAt m_charWide m_trail m_isMatch m_matchGroups m_allFrom m_allBefore m_founds m_pieces m_writtenMany m_templateWide m_tooMuch))) (h139 : cc o G 139 339 (za 20 A_kept)) (n18 : ab_n0 = 18) (cr : -2147483648 ≤ x ∧ x ≤ 2147483647 ∧ -2147483648 ≤ y ∧ y ≤ 2147483647) (co : 0 ≤ m_matchGroups ∧ m_matchGroups ≤ 9 ∧ 0 ≤ m_isMatch ∧ m_isMatch ≤ 1) : ab_F X d y_MO_group (.code y_MO_group b_MO_group 3 (some (.int))) [vR 80, vz x, vz y] G (fun oc G2 => ∃ v : Int, oc = .returned (some (vz v)) ∧ fx o o [280] G G2 ∧ G2.length = G.length ∧ ab_slots G2 = ab_slots G ∧ cc o G2 80 280 (ab_ob 12 (mof 0 m_taped m_length m_out m_wide m_gathered m_sets m_ranges m_nodes m_at m_flags m_fault m_place m_numbered m_depth m_value m_isNot m_least0 m_most0 m_slot m_work m_got m_rowMany m_charAt m_charWide m_trail m_isMatch m_matchGroups m_allFrom m_allBefore m_founds m_pieces m_writtenMany m_templateWide m_tooMuch)) ∧ (grX m_isMatch m_matchGroups A_kept x y v)) := by
  refine ab_F_of (by decide +kernel) (Nat.le_of_ble_eq_true rfl) ?_
  obtain ⟨Q, hQ⟩ : ∃ z : Outcome → ab_G → Prop, z = (fun oc G2 => ∃ v : Int, oc = .returned (some (vz v)) ∧ fx o o [280] G G2 ∧ G2.length = G.length ∧ ab_slots G2 = ab_slots G ∧ cc o G2 80 280 (ab_ob 12 (mof 0 m_taped m_length m_out m_wide m_gathered m_sets m_ranges m_nodes m_at m_flags m_fault m_place m_numbered m_depth m_value m_isNot m_least0 m_most0 m_slot m_work m_got m_rowMany m_charAt m_charWide m_trail m_isMatch m_matchGroups m_allFrom m_allBefore m_founds m_pieces m_writtenMany m_templateWide m_tooMuch)) ∧ (grX m_isMatch m_matchGroups A_kept x y v)) := ⟨_, rfl⟩
  rw [← hQ]
  change ab_W X (ab_pl y_MO_group b_MO_group 3 (some (.int))) d G 0 [some (vR 80), some (vz x), some (vz y)] [] Q
  have hfr : fx o o [280] G G := fx.rf
  have hlen : G.length = G.length := rfl
  have hsl : ab_slots G = ab_slots G := rfl
  refine ab_aload_n d_MO_group_0 rfl ?_
  refine zz_iconst d_MO_group_1 ?_
  refine ab_putf (fs := mof m_thrown m_taped m_length m_out m_wide m_gathered m_sets m_ranges m_nodes m_at m_flags m_fault m_place m_numbered m_depth m_value m_isNot m_least0 m_most0 m_slot m_work m_got m_rowMany m_charAt m_charWide m_trail m_isMatch m_matchGroups m_allFrom m_allBefore m_founds m_pieces m_writtenMany m_templateWide m_tooMuch) f_MO_220 (Or.inl rfl) d_MO_group_2 h80.2.2 (Nat.le_of_ble_eq_true rfl) (fun _ => ⟨rfl, rfl⟩) (h80.2.1 (by decide)) ?_
  obtain ⟨G1, eG1⟩ : ∃ z : ab_G, z = List.set G 80 (ab_ob 12 (mof 0 m_taped m_length m_out m_wide m_gathered m_sets m_ranges m_nodes m_at m_flags m_fault m_place m_numbered m_depth m_value m_isNot m_least0 m_most0 m_slot m_work m_got m_rowMany m_charAt m_charWide m_trail m_isMatch m_matchGroups m_allFrom m_allBefore m_founds m_pieces m_writtenMany m_templateWide m_tooMuch)) := ⟨_, rfl⟩
  have h139 := h139.keep h80 eG1 (by decide)
  have hlen := (z_len eG1).trans hlen
  have hsl := (z_sl h80 eG1 rfl).trans hsl
  have hfr := hfr.wr h80 eG1 (by decide)
  have h80 := h80.kept eG1
  change ab_W _ _ _ (List.set G 80 (ab_ob 12 (mof 0 m_taped m_length m_out m_wide m_gathered m_sets m_ranges m_nodes m_at m_flags m_fault m_place m_numbered m_depth m_value m_isNot m_least0 m_most0 m_slot m_work m_got m_rowMany m_charAt m_charWide m_trail m_isMatch m_matchGroups m_allFrom m_allBefore m_founds m_pieces m_writtenMany m_templateWide m_tooMuch))) 5 [some (vR 80), some (vz x), some (vz y)] [] _
  rw [← eG1]
  refine ab_aload_n d_MO_group_5 rfl ?_
  refine ab_getf (fs := mof 0 m_taped m_length m_out m_wide m_gathered m_sets m_ranges m_nodes m_at m_flags m_fault m_place m_numbered m_depth m_value m_isNot m_least0 m_most0 m_slot m_work m_got m_rowMany m_charAt m_charWide m_trail m_isMatch m_matchGroups m_allFrom m_allBefore m_founds m_pieces m_writtenMany m_templateWide m_tooMuch) f_MO_563 d_MO_group_6 h80.2.2 rfl ?_
  refine zz_if_eq (tgt := 33) d_MO_group_9 (by decide) (by omega) (fun c2 => ?_) (fun c2 => ?_)
  · refine zz_iconst d_MO_group_33 ?_
    refine ab_goto (tgt := 47) d_MO_group_34 (by decide) ?_
    refine zz_iret rfl d_MO_group_47 ?_
    rw [hQ]; exact ⟨_, rfl, hfr, hlen, hsl, h80, (by first | exact Or.inl ⟨Or.inl (by omega), rfl⟩ | exact Or.inl ⟨Or.inr (by omega), rfl⟩ | exact Or.inr ⟨by omega, rfl⟩)⟩
  · refine ab_iload_n d_MO_group_12 rfl ?_
    refine zz_if_lt (tgt := 33) d_MO_group_13 (by decide) (by omega) (fun c3 => ?_) (fun c3 => ?_)
    · refine zz_iconst d_MO_group_33 ?_
      refine ab_goto (tgt := 47) d_MO_group_34 (by decide) ?_
      refine zz_iret rfl d_MO_group_47 ?_
      rw [hQ]; exact ⟨_, rfl, hfr, hlen, hsl, h80, (by first | exact Or.inl ⟨Or.inl (by omega), rfl⟩ | exact Or.inl ⟨Or.inr (by omega), rfl⟩ | exact Or.inr ⟨by omega, rfl⟩)⟩
    · refine ab_iload_n d_MO_group_16 rfl ?_
      refine ab_aload_n d_MO_group_17 rfl ?_
      refine ab_getf (fs := mof 0 m_taped m_length m_out m_wide m_gathered m_sets m_ranges m_nodes m_at m_flags m_fault m_place m_numbered m_depth m_value m_isNot m_least0 m_most0 m_slot m_work m_got m_rowMany m_charAt m_charWide m_trail m_isMatch m_matchGroups m_allFrom m_allBefore m_founds m_pieces m_writtenMany m_templateWide m_tooMuch) f_MO_570 d_MO_group_18 h80.2.2 rfl ?_
      refine zz_icmp_gt (tgt := 33) d_MO_group_21 (by decide) (by omega) (by omega) (fun c4 => ?_) (fun c4 => ?_)
      · refine zz_iconst d_MO_group_33 ?_
        refine ab_goto (tgt := 47) d_MO_group_34 (by decide) ?_
        refine zz_iret rfl d_MO_group_47 ?_
        rw [hQ]; exact ⟨_, rfl, hfr, hlen, hsl, h80, (by first | exact Or.inl ⟨Or.inl (by omega), rfl⟩ | exact Or.inl ⟨Or.inr (by omega), rfl⟩ | exact Or.inr ⟨by omega, rfl⟩)⟩
      · refine ab_iload_n d_MO_group_24 rfl ?_
        refine zz_if_lt (tgt := 33) d_MO_group_25 (by decide) (by omega) (fun c5 => ?_) (fun c5 => ?_)
        · refine zz_iconst d_MO_group_33 ?_
          refine ab_goto (tgt := 47) d_MO_group_34 (by decide) ?_
          refine zz_iret rfl d_MO_group_47 ?_
          rw [hQ]; exact ⟨_, rfl, hfr, hlen, hsl, h80, (by first | exact Or.inl ⟨Or.inl (by omega), rfl⟩ | exact Or.inl ⟨Or.inr (by omega), rfl⟩ | exact Or.inr ⟨by omega, rfl⟩)⟩
        · refine ab_iload_n d_MO_group_28 rfl ?_
          refine zz_iconst d_MO_group_29 ?_
          refine zz_icmp_le (tgt := 37) d_MO_group_30 (by decide) (by omega) (by decide) (fun c6 => ?_) (fun c6 => ?_)
          · refine ab_aload_n d_MO_group_37 rfl ?_
            refine ab_getf (fs := mof 0 m_taped m_length m_out m_wide m_gathered m_sets m_ranges m_nodes m_at m_flags m_fault m_place m_numbered m_depth m_value m_isNot m_least0 m_most0 m_slot m_work m_got m_rowMany m_charAt m_charWide m_trail m_isMatch m_matchGroups m_allFrom m_allBefore m_founds m_pieces m_writtenMany m_templateWide m_tooMuch) f_MO_193 d_MO_group_38 h80.2.2 rfl ?_
            refine zz_iconst d_MO_group_41 ?_
            refine ab_iload_n d_MO_group_42 rfl ?_
            refine zz_imul d_MO_group_43 ?_
            refine ab_iload_n d_MO_group_44 rfl ?_
            refine zz_iadd d_MO_group_45 ?_
            refine zz_iald d_MO_group_46 h139 (by omega) ?_
            refine zz_iret rfl d_MO_group_47 ?_
            rw [hQ]; exact ⟨_, rfl, hfr, hlen, hsl, h80, (by first | exact Or.inl ⟨Or.inl (by omega), rfl⟩ | exact Or.inl ⟨Or.inr (by omega), rfl⟩ | exact Or.inr ⟨by omega, rfl⟩)⟩
          · refine zz_iconst d_MO_group_33 ?_
            refine ab_goto (tgt := 47) d_MO_group_34 (by decide) ?_
            refine zz_iret rfl d_MO_group_47 ?_
            rw [hQ]; exact ⟨_, rfl, hfr, hlen, hsl, h80, (by first | exact Or.inl ⟨Or.inl (by omega), rfl⟩ | exact Or.inl ⟨Or.inr (by omega), rfl⟩ | exact Or.inr ⟨by omega, rfl⟩)⟩
