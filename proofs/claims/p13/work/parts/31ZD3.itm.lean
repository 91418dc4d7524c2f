set_option maxRecDepth 100000 in
set_option maxHeartbeats 4000000 in
theorem z_MO_spells {X : ab_X} {d : Nat} {o : Nat → Nat} {G : ab_G} {ar : Nat} {la : Nat} {m : Nat} {f : Int → Int} {p : Int} {n : Int} {c1 : Int} {c2 : Int} {c3 : Int} {c4 : Int} {c5 : Int} (har : cc o G ar la (za m f)) (cp : 0 ≤ p ∧ p ≤ 4000 ∧ n ≤ ↑m ∧ 0 ≤ n) (cm : ↑m ≤ (2000 : Int)) (hf : rgs f ↑m 0 255) (cc5 : 0 ≤ c1 ∧ c1 ≤ 255 ∧ 0 ≤ c2 ∧ c2 ≤ 255 ∧ 0 ≤ c3 ∧ c3 ≤ 255 ∧ 0 ≤ c4 ∧ c4 ≤ 255 ∧ 0 ≤ c5 ∧ c5 ≤ 255) : ab_F X d y_MO_spells (.code y_MO_spells b_MO_spells 8 (some (.boolean))) [vR ar, vz p, vz n, vz c1, vz c2, vz c3, vz c4, vz c5] G (fun oc G2 => ∃ v : Int, oc = .returned (some (vz v)) ∧ G2 = G ∧ (0 ≤ v ∧ v ≤ 1) ∧ (v = 1 → p + 5 < n)) := by
  refine ab_F_of (by decide +kernel) (Nat.le_of_ble_eq_true rfl) ?_
  obtain ⟨Q, hQ⟩ : ∃ z : Outcome → ab_G → Prop, z = (fun oc G2 => ∃ v : Int, oc = .returned (some (vz v)) ∧ G2 = G ∧ (0 ≤ v ∧ v ≤ 1) ∧ (v = 1 → p + 5 < n)) := ⟨_, rfl⟩
  rw [← hQ]
  change ab_W X (ab_pl y_MO_spells b_MO_spells 8 (some (.boolean))) d G 0 [some (vR ar), some (vz p), some (vz n), some (vz c1), some (vz c2), some (vz c3), some (vz c4), some (vz c5)] [] Q
  have hfr : fx o o [] G G := fx.rf
  have hlen : G.length = G.length := rfl
  have hsl : ab_slots G = ab_slots G := rfl
  refine ab_iload_n d_MO_spells_0 rfl ?_
  refine zz_iconst d_MO_spells_1 ?_
  refine zz_iadd d_MO_spells_2 ?_
  refine ab_iload_n d_MO_spells_3 rfl ?_
  refine zz_icmp_ge (tgt := 58) d_MO_spells_4 (by decide) (by omega) (by omega) (fun c1 => ?_) (fun c1 => ?_)
  · refine zz_iconst d_MO_spells_58 ?_
    refine zz_bret rfl (by decide) d_MO_spells_59 ?_
    rw [hQ]; exact ⟨_, rfl, rfl, (by omega), (by intro _; omega)⟩
  · refine ab_aload_n d_MO_spells_7 rfl ?_
    refine ab_iload_n d_MO_spells_8 rfl ?_
    refine zz_iald d_MO_spells_9 har (by omega) ?_
    have hq2 := hf p (by omega) (by omega)
    refine ab_iload_n d_MO_spells_10 rfl ?_
    refine zz_icmp_ne (tgt := 58) d_MO_spells_11 (by decide) (by omega) (by omega) (fun c3 => ?_) (fun c3 => ?_)
    · refine zz_iconst d_MO_spells_58 ?_
      refine zz_bret rfl (by decide) d_MO_spells_59 ?_
      rw [hQ]; exact ⟨_, rfl, rfl, (by omega), (by intro _; omega)⟩
    · refine ab_aload_n d_MO_spells_14 rfl ?_
      refine ab_iload_n d_MO_spells_15 rfl ?_
      refine zz_iconst d_MO_spells_16 ?_
      refine zz_iadd d_MO_spells_17 ?_
      refine zz_iald d_MO_spells_18 har (by omega) ?_
      have hq4 := hf (p + 1) (by omega) (by omega)
      refine ab_iload d_MO_spells_19 rfl ?_
      refine zz_icmp_ne (tgt := 58) d_MO_spells_21 (by decide) (by omega) (by omega) (fun c5 => ?_) (fun c5 => ?_)
      · refine zz_iconst d_MO_spells_58 ?_
        refine zz_bret rfl (by decide) d_MO_spells_59 ?_
        rw [hQ]; exact ⟨_, rfl, rfl, (by omega), (by intro _; omega)⟩
      · refine ab_aload_n d_MO_spells_24 rfl ?_
        refine ab_iload_n d_MO_spells_25 rfl ?_
        refine zz_iconst d_MO_spells_26 ?_
        refine zz_iadd d_MO_spells_27 ?_
        refine zz_iald d_MO_spells_28 har (by omega) ?_
        have hq6 := hf (p + 2) (by omega) (by omega)
        refine ab_iload d_MO_spells_29 rfl ?_
        refine zz_icmp_ne (tgt := 58) d_MO_spells_31 (by decide) (by omega) (by omega) (fun c7 => ?_) (fun c7 => ?_)
        · refine zz_iconst d_MO_spells_58 ?_
          refine zz_bret rfl (by decide) d_MO_spells_59 ?_
          rw [hQ]; exact ⟨_, rfl, rfl, (by omega), (by intro _; omega)⟩
        · refine ab_aload_n d_MO_spells_34 rfl ?_
          refine ab_iload_n d_MO_spells_35 rfl ?_
          refine zz_iconst d_MO_spells_36 ?_
          refine zz_iadd d_MO_spells_37 ?_
          refine zz_iald d_MO_spells_38 har (by omega) ?_
          have hq8 := hf (p + 3) (by omega) (by omega)
          refine ab_iload d_MO_spells_39 rfl ?_
          refine zz_icmp_ne (tgt := 58) d_MO_spells_41 (by decide) (by omega) (by omega) (fun c9 => ?_) (fun c9 => ?_)
          · refine zz_iconst d_MO_spells_58 ?_
            refine zz_bret rfl (by decide) d_MO_spells_59 ?_
            rw [hQ]; exact ⟨_, rfl, rfl, (by omega), (by intro _; omega)⟩
          · refine ab_aload_n d_MO_spells_44 rfl ?_
            refine ab_iload_n d_MO_spells_45 rfl ?_
            refine zz_iconst d_MO_spells_46 ?_
            refine zz_iadd d_MO_spells_47 ?_
            refine zz_iald d_MO_spells_48 har (by omega) ?_
            have hq10 := hf (p + 4) (by omega) (by omega)
            refine ab_iload d_MO_spells_49 rfl ?_
            refine zz_icmp_ne (tgt := 58) d_MO_spells_51 (by decide) (by omega) (by omega) (fun c11 => ?_) (fun c11 => ?_)
            · refine zz_iconst d_MO_spells_58 ?_
              refine zz_bret rfl (by decide) d_MO_spells_59 ?_
              rw [hQ]; exact ⟨_, rfl, rfl, (by omega), (by intro _; omega)⟩
            · refine zz_iconst d_MO_spells_54 ?_
              refine ab_goto (tgt := 59) d_MO_spells_55 (by decide) ?_
              refine zz_bret rfl (by decide) d_MO_spells_59 ?_
              rw [hQ]; exact ⟨_, rfl, rfl, (by omega), (by intro _; omega)⟩
set_option maxRecDepth 100000 in
set_option maxHeartbeats 4000000 in
theorem z_MO_posix {X : ab_X} {d : Nat} {o : Nat → Nat} {G : ab_G} {m_thrown : Int} {m_taped : Int} {m_length : Int} {m_out : Int} {m_wide : Int} {m_gathered : Int} {m_sets : Int} {m_ranges : Int} {m_nodes : Int} {m_at : Int} {m_flags : Int} {m_fault : Int} {m_place : Int} {m_numbered : Int} {m_depth : Int} {m_value : Int} {m_isNot : Int} {m_least0 : Int} {m_most0 : Int} {m_slot : Int} {m_work : Int} {m_got : Int} {m_rowMany : Int} {m_charAt : Int} {m_charWide : Int} {m_trail : Int} {m_isMatch : Int} {m_matchGroups : Int} {m_allFrom : Int} {m_allBefore : Int} {m_founds : Int} {m_pieces : Int} {m_writtenMany : Int} {m_templateWide : Int} {m_tooMuch : Int} {A_tape : Int → Int} {LO : Int → Int} {HI : Int → Int} {MK : Int → Int} {P : Int → Prop} {mm : Int} (h80 : cc o G 80 280 (ab_ob 12 (mof m_thrown m_taped m_length m_out m_wide m_gathered m_sets m_ranges m_nodes m_at m_flags m_fault m_place m_numbered m_depth m_value m_isNot m_least0 m_most0 m_slot m_work m_got m_rowMany m_charAt m_charWide m_trail m_isMatch m_matchGroups m_allFrom m_allBefore m_founds m_pieces m_writtenMany m_templateWide m_tooMuch))) (h84 : cc o G 84 284 (za 2000 A_tape)) (h87 : cc o G 87 287 (za 9000 LO)) (h88 : cc o G 88 288 (za 9000 HI)) (h81 : cc o G 81 281 (za 13 tbA)) (h82 : cc o G 82 282 (za 66 tbT)) (n18 : ab_n0 = 18) (cta : 0 ≤ m_taped ∧ m_taped ≤ 2000) (jtp : rgs A_tape 2000 0 255) (cat : 0 ≤ m_at ∧ m_at + 2 ≤ m_taped) (cf : m_fault = 0) (cga : 0 ≤ m_gathered ∧ m_gathered ≤ 6700) (jc : clsI LO HI m_gathered MK P) (jl : lfc P mm) (hd : 3 ≤ d) : ab_F X d y_MO_posix (.code y_MO_posix b_MO_posix 5 none) [vR 80] G (fun oc G2 => (∃ a2 : Int, ∃ f2 : Int, ∃ p2 : Int, oc = .returned none ∧ fx o o [280, 287, 288] G G2 ∧ G2.length = G.length ∧ ab_slots G2 = ab_slots G ∧ cc o G2 80 280 (ab_ob 12 (mof m_thrown m_taped m_length m_out m_wide m_gathered m_sets m_ranges m_nodes a2 m_flags f2 p2 m_numbered m_depth m_value m_isNot m_least0 m_most0 m_slot m_work m_got m_rowMany m_charAt m_charWide m_trail m_isMatch m_matchGroups m_allFrom m_allBefore m_founds m_pieces m_writtenMany m_templateWide m_tooMuch)) ∧ cc o G2 87 287 (za 9000 LO) ∧ cc o G2 88 288 (za 9000 HI) ∧ (1 ≤ f2 ∧ f2 ≤ 14 ∧ 0 ≤ a2 ∧ a2 ≤ 4000)) ∨ (∃ a2 : Int, ∃ g2 : Int, ∃ LO2 : Int → Int, ∃ HI2 : Int → Int, ∃ P2 : Int → Prop, oc = .returned none ∧ fx o o [280, 287, 288] G G2 ∧ G2.length = G.length ∧ ab_slots G2 = ab_slots G ∧ cc o G2 80 280 (ab_ob 12 (mof m_thrown m_taped m_length m_out m_wide g2 m_sets m_ranges m_nodes a2 m_flags m_fault m_place m_numbered m_depth m_value m_isNot m_least0 m_most0 m_slot m_work m_got m_rowMany m_charAt m_charWide m_trail m_isMatch m_matchGroups m_allFrom m_allBefore m_founds m_pieces m_writtenMany m_templateWide m_tooMuch)) ∧ cc o G2 87 287 (za 9000 LO2) ∧ cc o G2 88 288 (za 9000 HI2) ∧ (m_at + 9 ≤ a2 ∧ a2 ≤ m_taped ∧ m_gathered ≤ g2 ∧ g2 ≤ m_gathered + 10) ∧ (clsI LO2 HI2 g2 MK P2) ∧ (lfc P2 (mm + 10)))) := by
  refine ab_F_of (by decide +kernel) (Nat.le_of_ble_eq_true rfl) ?_
  obtain ⟨Q, hQ⟩ : ∃ z : Outcome → ab_G → Prop, z = (fun oc G2 => (∃ a2 : Int, ∃ f2 : Int, ∃ p2 : Int, oc = .returned none ∧ fx o o [280, 287, 288] G G2 ∧ G2.length = G.length ∧ ab_slots G2 = ab_slots G ∧ cc o G2 80 280 (ab_ob 12 (mof m_thrown m_taped m_length m_out m_wide m_gathered m_sets m_ranges m_nodes a2 m_flags f2 p2 m_numbered m_depth m_value m_isNot m_least0 m_most0 m_slot m_work m_got m_rowMany m_charAt m_charWide m_trail m_isMatch m_matchGroups m_allFrom m_allBefore m_founds m_pieces m_writtenMany m_templateWide m_tooMuch)) ∧ cc o G2 87 287 (za 9000 LO) ∧ cc o G2 88 288 (za 9000 HI) ∧ (1 ≤ f2 ∧ f2 ≤ 14 ∧ 0 ≤ a2 ∧ a2 ≤ 4000)) ∨ (∃ a2 : Int, ∃ g2 : Int, ∃ LO2 : Int → Int, ∃ HI2 : Int → Int, ∃ P2 : Int → Prop, oc = .returned none ∧ fx o o [280, 287, 288] G G2 ∧ G2.length = G.length ∧ ab_slots G2 = ab_slots G ∧ cc o G2 80 280 (ab_ob 12 (mof m_thrown m_taped m_length m_out m_wide g2 m_sets m_ranges m_nodes a2 m_flags m_fault m_place m_numbered m_depth m_value m_isNot m_least0 m_most0 m_slot m_work m_got m_rowMany m_charAt m_charWide m_trail m_isMatch m_matchGroups m_allFrom m_allBefore m_founds m_pieces m_writtenMany m_templateWide m_tooMuch)) ∧ cc o G2 87 287 (za 9000 LO2) ∧ cc o G2 88 288 (za 9000 HI2) ∧ (m_at + 9 ≤ a2 ∧ a2 ≤ m_taped ∧ m_gathered ≤ g2 ∧ g2 ≤ m_gathered + 10) ∧ (clsI LO2 HI2 g2 MK P2) ∧ (lfc P2 (mm + 10)))) := ⟨_, rfl⟩
  rw [← hQ]
  change ab_W X (ab_pl y_MO_posix b_MO_posix 5 none) d G 0 [some (vR 80), none, none, none, none] [] Q
  have hfr : fx o o [280, 287, 288] G G := fx.rf
  have hlen : G.length = G.length := rfl
  have hsl : ab_slots G = ab_slots G := rfl
  refine ab_aload_n d_MO_posix_0 rfl ?_
  refine ab_getf (fs := mof m_thrown m_taped m_length m_out m_wide m_gathered m_sets m_ranges m_nodes m_at m_flags m_fault m_place m_numbered m_depth m_value m_isNot m_least0 m_most0 m_slot m_work m_got m_rowMany m_charAt m_charWide m_trail m_isMatch m_matchGroups m_allFrom m_allBefore m_founds m_pieces m_writtenMany m_templateWide m_tooMuch) f_MO_279 d_MO_posix_1 h80.2.2 rfl ?_
  refine ab_istore_n d_MO_posix_4 (Nat.le_of_ble_eq_true rfl) (Nat.le_of_ble_eq_true rfl) rfl ?_
  change ab_W _ _ _ G 5 [some (vR 80), some (vz m_at), none, none, none] [] _
  refine ab_aload_n d_MO_posix_5 rfl ?_
  refine ab_dup d_MO_posix_6 rfl ?_
  refine ab_getf (fs := mof m_thrown m_taped m_length m_out m_wide m_gathered m_sets m_ranges m_nodes m_at m_flags m_fault m_place m_numbered m_depth m_value m_isNot m_least0 m_most0 m_slot m_work m_got m_rowMany m_charAt m_charWide m_trail m_isMatch m_matchGroups m_allFrom m_allBefore m_founds m_pieces m_writtenMany m_templateWide m_tooMuch) f_MO_279 d_MO_posix_7 h80.2.2 rfl ?_
  refine zz_iconst d_MO_posix_10 ?_
  refine zz_iadd d_MO_posix_11 ?_
  refine ab_putf (fs := mof m_thrown m_taped m_length m_out m_wide m_gathered m_sets m_ranges m_nodes m_at m_flags m_fault m_place m_numbered m_depth m_value m_isNot m_least0 m_most0 m_slot m_work m_got m_rowMany m_charAt m_charWide m_trail m_isMatch m_matchGroups m_allFrom m_allBefore m_founds m_pieces m_writtenMany m_templateWide m_tooMuch) f_MO_279 (Or.inl rfl) d_MO_posix_12 h80.2.2 (Nat.le_of_ble_eq_true rfl) (fun _ => ⟨rfl, rfl⟩) (h80.2.1 (by decide)) ?_
  obtain ⟨G1, eG1⟩ : ∃ z : ab_G, z = List.set G 80 (ab_ob 12 (mof m_thrown m_taped m_length m_out m_wide m_gathered m_sets m_ranges m_nodes (m_at + 2) m_flags m_fault m_place m_numbered m_depth m_value m_isNot m_least0 m_most0 m_slot m_work m_got m_rowMany m_charAt m_charWide m_trail m_isMatch m_matchGroups m_allFrom m_allBefore m_founds m_pieces m_writtenMany m_templateWide m_tooMuch)) := ⟨_, rfl⟩
  have h84 := h84.keep h80 eG1 (by decide)
  have h87 := h87.keep h80 eG1 (by decide)
  have h88 := h88.keep h80 eG1 (by decide)
  have h81 := h81.keep h80 eG1 (by decide)
  have h82 := h82.keep h80 eG1 (by decide)
  have hlen := (z_len eG1).trans hlen
  have hsl := (z_sl h80 eG1 rfl).trans hsl
  have hfr := hfr.wr h80 eG1 (by decide)
  have h80 := h80.kept eG1
  change ab_W _ _ _ (List.set G 80 (ab_ob 12 (mof m_thrown m_taped m_length m_out m_wide m_gathered m_sets m_ranges m_nodes (m_at + 2) m_flags m_fault m_place m_numbered m_depth m_value m_isNot m_least0 m_most0 m_slot m_work m_got m_rowMany m_charAt m_charWide m_trail m_isMatch m_matchGroups m_allFrom m_allBefore m_founds m_pieces m_writtenMany m_templateWide m_tooMuch))) 15 [some (vR 80), some (vz m_at), none, none, none] [] _
  rw [← eG1]
  refine ab_aload_n d_MO_posix_15 rfl ?_
  refine zz_iconst d_MO_posix_16 ?_
  refine ab_callV (d' := d - 1) (as := [vz 0]) (st := []) (r := _) (z_MO_here (o := o) (m_thrown := m_thrown) (m_taped := m_taped) (m_length := m_length) (m_out := m_out) (m_wide := m_wide) (m_gathered := m_gathered) (m_sets := m_sets) (m_ranges := m_ranges) (m_nodes := m_nodes) (m_at := (m_at + 2)) (m_flags := m_flags) (m_fault := m_fault) (m_place := m_place) (m_numbered := m_numbered) (m_depth := m_depth) (m_value := m_value) (m_isNot := m_isNot) (m_least0 := m_least0) (m_most0 := m_most0) (m_slot := m_slot) (m_work := m_work) (m_got := m_got) (m_rowMany := m_rowMany) (m_charAt := m_charAt) (m_charWide := m_charWide) (m_trail := m_trail) (m_isMatch := m_isMatch) (m_matchGroups := m_matchGroups) (m_allFrom := m_allFrom) (m_allBefore := m_allBefore) (m_founds := m_founds) (m_pieces := m_pieces) (m_writtenMany := m_writtenMany) (m_templateWide := m_templateWide) (m_tooMuch := m_tooMuch) (A_tape := A_tape) (k := 0) h80 h84 (by omega) (by omega) jtp (by omega)) (fun oc G2 h => by rcases h with ⟨h, _⟩ | ⟨h, _⟩ <;> exact ⟨_, h⟩) (by omega) m_MO_here ml_MO_297 im_MO_here se_MO_here c_MO h80.2.2 (Nat.le_of_ble_eq_true rfl) d_MO_posix_17 rfl ?_
  intro v G2 hq
  rcases hq with ⟨hv, hGe, hq3⟩ | ⟨hv, hGe, hq4⟩
  · cases hv
    rw [hGe]
    change ab_W _ _ _ G1 20 [some (vR 80), some (vz m_at), none, none, none] [vz (A_tape ((m_at + 2) + 0))] _
    refine zz_bipush d_MO_posix_20 (by decide) ?_
    refine zz_icmp_ne (tgt := 29) d_MO_posix_22 (by decide) (by omega) (by decide) (fun c5 => ?_) (fun c5 => ?_)
    · refine zz_iconst d_MO_posix_29 ?_
      refine ab_istore_n d_MO_posix_30 (Nat.le_of_ble_eq_true rfl) (Nat.le_of_ble_eq_true rfl) rfl ?_
      change ab_W _ _ _ G1 31 [some (vR 80), some (vz m_at), some (vz 0), none, none] [] _
      refine ab_aload_n d_MO_posix_31 rfl ?_
      refine ab_dup d_MO_posix_32 rfl ?_
      refine ab_getf (fs := mof m_thrown m_taped m_length m_out m_wide m_gathered m_sets m_ranges m_nodes (m_at + 2) m_flags m_fault m_place m_numbered m_depth m_value m_isNot m_least0 m_most0 m_slot m_work m_got m_rowMany m_charAt m_charWide m_trail m_isMatch m_matchGroups m_allFrom m_allBefore m_founds m_pieces m_writtenMany m_templateWide m_tooMuch) f_MO_279 d_MO_posix_33 h80.2.2 rfl ?_
      refine ab_iload_n d_MO_posix_36 rfl ?_
      refine zz_if_eq (tgt := 44) d_MO_posix_37 (by decide) (by decide) (fun c6 => ?_) (fun c6 => absurd c6 (by decide))
      refine zz_iconst d_MO_posix_44 ?_
      refine zz_iadd d_MO_posix_45 ?_
      refine ab_putf (fs := mof m_thrown m_taped m_length m_out m_wide m_gathered m_sets m_ranges m_nodes (m_at + 2) m_flags m_fault m_place m_numbered m_depth m_value m_isNot m_least0 m_most0 m_slot m_work m_got m_rowMany m_charAt m_charWide m_trail m_isMatch m_matchGroups m_allFrom m_allBefore m_founds m_pieces m_writtenMany m_templateWide m_tooMuch) f_MO_279 (Or.inl rfl) d_MO_posix_46 h80.2.2 (Nat.le_of_ble_eq_true rfl) (fun _ => ⟨rfl, rfl⟩) (h80.2.1 (by decide)) ?_
      obtain ⟨G7, eG7⟩ : ∃ z : ab_G, z = List.set G1 80 (ab_ob 12 (mof m_thrown m_taped m_length m_out m_wide m_gathered m_sets m_ranges m_nodes ((m_at + 2) + 0) m_flags m_fault m_place m_numbered m_depth m_value m_isNot m_least0 m_most0 m_slot m_work m_got m_rowMany m_charAt m_charWide m_trail m_isMatch m_matchGroups m_allFrom m_allBefore m_founds m_pieces m_writtenMany m_templateWide m_tooMuch)) := ⟨_, rfl⟩
      have h84 := h84.keep h80 eG7 (by decide)
      have h87 := h87.keep h80 eG7 (by decide)
      have h88 := h88.keep h80 eG7 (by decide)
      have h81 := h81.keep h80 eG7 (by decide)
      have h82 := h82.keep h80 eG7 (by decide)
      have hlen := (z_len eG7).trans hlen
      have hsl := (z_sl h80 eG7 rfl).trans hsl
      have hfr := hfr.wr h80 eG7 (by decide)
      have h80 := h80.kept eG7
      change ab_W _ _ _ (List.set G1 80 (ab_ob 12 (mof m_thrown m_taped m_length m_out m_wide m_gathered m_sets m_ranges m_nodes ((m_at + 2) + 0) m_flags m_fault m_place m_numbered m_depth m_value m_isNot m_least0 m_most0 m_slot m_work m_got m_rowMany m_charAt m_charWide m_trail m_isMatch m_matchGroups m_allFrom m_allBefore m_founds m_pieces m_writtenMany m_templateWide m_tooMuch))) 49 [some (vR 80), some (vz m_at), some (vz 0), none, none] [] _
      rw [← eG7]
      refine ab_aload_n d_MO_posix_49 rfl ?_
      refine ab_getf (fs := mof m_thrown m_taped m_length m_out m_wide m_gathered m_sets m_ranges m_nodes ((m_at + 2) + 0) m_flags m_fault m_place m_numbered m_depth m_value m_isNot m_least0 m_most0 m_slot m_work m_got m_rowMany m_charAt m_charWide m_trail m_isMatch m_matchGroups m_allFrom m_allBefore m_founds m_pieces m_writtenMany m_templateWide m_tooMuch) f_MO_223 d_MO_posix_50 h80.2.2 rfl ?_
      refine ab_istore_n d_MO_posix_53 (Nat.le_of_ble_eq_true rfl) (Nat.le_of_ble_eq_true rfl) rfl ?_
      change ab_W _ _ _ G7 54 [some (vR 80), some (vz m_at), some (vz 0), some (vz m_taped), none] [] _
      refine ab_aload_n d_MO_posix_54 rfl ?_
      refine ab_getf (fs := mof m_thrown m_taped m_length m_out m_wide m_gathered m_sets m_ranges m_nodes ((m_at + 2) + 0) m_flags m_fault m_place m_numbered m_depth m_value m_isNot m_least0 m_most0 m_slot m_work m_got m_rowMany m_charAt m_charWide m_trail m_isMatch m_matchGroups m_allFrom m_allBefore m_founds m_pieces m_writtenMany m_templateWide m_tooMuch) f_MO_19 d_MO_posix_55 h80.2.2 rfl ?_
      refine ab_aload_n d_MO_posix_58 rfl ?_
      refine ab_getf (fs := mof m_thrown m_taped m_length m_out m_wide m_gathered m_sets m_ranges m_nodes ((m_at + 2) + 0) m_flags m_fault m_place m_numbered m_depth m_value m_isNot m_least0 m_most0 m_slot m_work m_got m_rowMany m_charAt m_charWide m_trail m_isMatch m_matchGroups m_allFrom m_allBefore m_founds m_pieces m_writtenMany m_templateWide m_tooMuch) f_MO_279 d_MO_posix_59 h80.2.2 rfl ?_
      refine ab_iload_n d_MO_posix_62 rfl ?_
      refine zz_bipush d_MO_posix_63 (by decide) ?_
      refine zz_bipush d_MO_posix_65 (by decide) ?_
      refine zz_bipush d_MO_posix_67 (by decide) ?_
      refine zz_bipush d_MO_posix_69 (by decide) ?_
      refine zz_bipush d_MO_posix_71 (by decide) ?_
      refine ab_callS (d' := d - 1) (as := [vR 84, vz ((m_at + 2) + 0), vz m_taped, vz 100, vz 105, vz 103, vz 105, vz 116]) (st := []) (z_MO_spells (o := o) (ar := 84) (la := 284) (m := 2000) (f := A_tape) (p := ((m_at + 2) + 0)) (n := m_taped) (c1 := 100) (c2 := 105) (c3 := 103) (c4 := 105) (c5 := 116) h84 (by omega) (by omega) jtp (by omega)) (fun oc G2 h => by rcases h with ⟨_, h, _⟩ <;> exact ⟨_, h⟩) (by omega) m_MO_spells ml_MO_333 st_MO_spells (Nat.le_of_ble_eq_true rfl) d_MO_posix_73 rfl ?_
      intro v G8 hq
      rcases hq with ⟨v9, hv, hGe, hq10, hq11⟩
      cases hv
      rw [hGe]
      change ab_W _ _ _ G7 76 [some (vR 80), some (vz m_at), some (vz 0), some (vz m_taped), none] [vz v9] _
      refine zz_if_eq (tgt := 83) d_MO_posix_76 (by decide) (by omega) (fun c12 => ?_) (fun c12 => ?_)
      · refine ab_aload_n d_MO_posix_83 rfl ?_
        refine ab_getf (fs := mof m_thrown m_taped m_length m_out m_wide m_gathered m_sets m_ranges m_nodes ((m_at + 2) + 0) m_flags m_fault m_place m_numbered m_depth m_value m_isNot m_least0 m_most0 m_slot m_work m_got m_rowMany m_charAt m_charWide m_trail m_isMatch m_matchGroups m_allFrom m_allBefore m_founds m_pieces m_writtenMany m_templateWide m_tooMuch) f_MO_19 d_MO_posix_84 h80.2.2 rfl ?_
        refine ab_aload_n d_MO_posix_87 rfl ?_
        refine ab_getf (fs := mof m_thrown m_taped m_length m_out m_wide m_gathered m_sets m_ranges m_nodes ((m_at + 2) + 0) m_flags m_fault m_place m_numbered m_depth m_value m_isNot m_least0 m_most0 m_slot m_work m_got m_rowMany m_charAt m_charWide m_trail m_isMatch m_matchGroups m_allFrom m_allBefore m_founds m_pieces m_writtenMany m_templateWide m_tooMuch) f_MO_279 d_MO_posix_88 h80.2.2 rfl ?_
        refine ab_iload_n d_MO_posix_91 rfl ?_
        refine zz_bipush d_MO_posix_92 (by decide) ?_
        refine zz_bipush d_MO_posix_94 (by decide) ?_
        refine zz_bipush d_MO_posix_96 (by decide) ?_
        refine zz_bipush d_MO_posix_98 (by decide) ?_
        refine zz_bipush d_MO_posix_100 (by decide) ?_
        refine ab_callS (d' := d - 1) (as := [vR 84, vz ((m_at + 2) + 0), vz m_taped, vz 97, vz 108, vz 112, vz 104, vz 97]) (st := []) (z_MO_spells (o := o) (ar := 84) (la := 284) (m := 2000) (f := A_tape) (p := ((m_at + 2) + 0)) (n := m_taped) (c1 := 97) (c2 := 108) (c3 := 112) (c4 := 104) (c5 := 97) h84 (by omega) (by omega) jtp (by omega)) (fun oc G2 h => by rcases h with ⟨_, h, _⟩ <;> exact ⟨_, h⟩) (by omega) m_MO_spells ml_MO_333 st_MO_spells (Nat.le_of_ble_eq_true rfl) d_MO_posix_102 rfl ?_
        intro v G13 hq
        rcases hq with ⟨v14, hv, hGe, hq15, hq16⟩
        cases hv
        rw [hGe]
        change ab_W _ _ _ G7 105 [some (vR 80), some (vz m_at), some (vz 0), some (vz m_taped), none] [vz v14] _
        refine zz_if_eq (tgt := 113) d_MO_posix_105 (by decide) (by omega) (fun c17 => ?_) (fun c17 => ?_)
        · refine ab_aload_n d_MO_posix_113 rfl ?_
          refine ab_getf (fs := mof m_thrown m_taped m_length m_out m_wide m_gathered m_sets m_ranges m_nodes ((m_at + 2) + 0) m_flags m_fault m_place m_numbered m_depth m_value m_isNot m_least0 m_most0 m_slot m_work m_got m_rowMany m_charAt m_charWide m_trail m_isMatch m_matchGroups m_allFrom m_allBefore m_founds m_pieces m_writtenMany m_templateWide m_tooMuch) f_MO_19 d_MO_posix_114 h80.2.2 rfl ?_
          refine ab_aload_n d_MO_posix_117 rfl ?_
          refine ab_getf (fs := mof m_thrown m_taped m_length m_out m_wide m_gathered m_sets m_ranges m_nodes ((m_at + 2) + 0) m_flags m_fault m_place m_numbered m_depth m_value m_isNot m_least0 m_most0 m_slot m_work m_got m_rowMany m_charAt m_charWide m_trail m_isMatch m_matchGroups m_allFrom m_allBefore m_founds m_pieces m_writtenMany m_templateWide m_tooMuch) f_MO_279 d_MO_posix_118 h80.2.2 rfl ?_
          refine ab_iload_n d_MO_posix_121 rfl ?_
          refine zz_bipush d_MO_posix_122 (by decide) ?_
          refine zz_bipush d_MO_posix_124 (by decide) ?_
          refine zz_bipush d_MO_posix_126 (by decide) ?_
          refine zz_bipush d_MO_posix_128 (by decide) ?_
          refine zz_bipush d_MO_posix_130 (by decide) ?_
          refine ab_callS (d' := d - 1) (as := [vR 84, vz ((m_at + 2) + 0), vz m_taped, vz 117, vz 112, vz 112, vz 101, vz 114]) (st := []) (z_MO_spells (o := o) (ar := 84) (la := 284) (m := 2000) (f := A_tape) (p := ((m_at + 2) + 0)) (n := m_taped) (c1 := 117) (c2 := 112) (c3 := 112) (c4 := 101) (c5 := 114) h84 (by omega) (by omega) jtp (by omega)) (fun oc G2 h => by rcases h with ⟨_, h, _⟩ <;> exact ⟨_, h⟩) (by omega) m_MO_spells ml_MO_333 st_MO_spells (Nat.le_of_ble_eq_true rfl) d_MO_posix_132 rfl ?_
          intro v G18 hq
          rcases hq with ⟨v19, hv, hGe, hq20, hq21⟩
          cases hv
          rw [hGe]
          change ab_W _ _ _ G7 135 [some (vR 80), some (vz m_at), some (vz 0), some (vz m_taped), none] [vz v19] _
          refine zz_if_eq (tgt := 143) d_MO_posix_135 (by decide) (by omega) (fun c22 => ?_) (fun c22 => ?_)
          · refine ab_aload_n d_MO_posix_143 rfl ?_
            refine ab_getf (fs := mof m_thrown m_taped m_length m_out m_wide m_gathered m_sets m_ranges m_nodes ((m_at + 2) + 0) m_flags m_fault m_place m_numbered m_depth m_value m_isNot m_least0 m_most0 m_slot m_work m_got m_rowMany m_charAt m_charWide m_trail m_isMatch m_matchGroups m_allFrom m_allBefore m_founds m_pieces m_writtenMany m_templateWide m_tooMuch) f_MO_19 d_MO_posix_144 h80.2.2 rfl ?_
            refine ab_aload_n d_MO_posix_147 rfl ?_
            refine ab_getf (fs := mof m_thrown m_taped m_length m_out m_wide m_gathered m_sets m_ranges m_nodes ((m_at + 2) + 0) m_flags m_fault m_place m_numbered m_depth m_value m_isNot m_least0 m_most0 m_slot m_work m_got m_rowMany m_charAt m_charWide m_trail m_isMatch m_matchGroups m_allFrom m_allBefore m_founds m_pieces m_writtenMany m_templateWide m_tooMuch) f_MO_279 d_MO_posix_148 h80.2.2 rfl ?_
            refine ab_iload_n d_MO_posix_151 rfl ?_
            refine zz_bipush d_MO_posix_152 (by decide) ?_
            refine zz_bipush d_MO_posix_154 (by decide) ?_
            refine zz_bipush d_MO_posix_156 (by decide) ?_
            refine zz_bipush d_MO_posix_158 (by decide) ?_
            refine zz_bipush d_MO_posix_160 (by decide) ?_
            refine ab_callS (d' := d - 1) (as := [vR 84, vz ((m_at + 2) + 0), vz m_taped, vz 108, vz 111, vz 119, vz 101, vz 114]) (st := []) (z_MO_spells (o := o) (ar := 84) (la := 284) (m := 2000) (f := A_tape) (p := ((m_at + 2) + 0)) (n := m_taped) (c1 := 108) (c2 := 111) (c3 := 119) (c4 := 101) (c5 := 114) h84 (by omega) (by omega) jtp (by omega)) (fun oc G2 h => by rcases h with ⟨_, h, _⟩ <;> exact ⟨_, h⟩) (by omega) m_MO_spells ml_MO_333 st_MO_spells (Nat.le_of_ble_eq_true rfl) d_MO_posix_162 rfl ?_
            intro v G23 hq
            rcases hq with ⟨v24, hv, hGe, hq25, hq26⟩
            cases hv
            rw [hGe]
            change ab_W _ _ _ G7 165 [some (vR 80), some (vz m_at), some (vz 0), some (vz m_taped), none] [vz v24] _
            refine zz_if_eq (tgt := 173) d_MO_posix_165 (by decide) (by omega) (fun c27 => ?_) (fun c27 => ?_)
            · refine ab_aload_n d_MO_posix_173 rfl ?_
              refine ab_getf (fs := mof m_thrown m_taped m_length m_out m_wide m_gathered m_sets m_ranges m_nodes ((m_at + 2) + 0) m_flags m_fault m_place m_numbered m_depth m_value m_isNot m_least0 m_most0 m_slot m_work m_got m_rowMany m_charAt m_charWide m_trail m_isMatch m_matchGroups m_allFrom m_allBefore m_founds m_pieces m_writtenMany m_templateWide m_tooMuch) f_MO_19 d_MO_posix_174 h80.2.2 rfl ?_
              refine ab_aload_n d_MO_posix_177 rfl ?_
              refine ab_getf (fs := mof m_thrown m_taped m_length m_out m_wide m_gathered m_sets m_ranges m_nodes ((m_at + 2) + 0) m_flags m_fault m_place m_numbered m_depth m_value m_isNot m_least0 m_most0 m_slot m_work m_got m_rowMany m_charAt m_charWide m_trail m_isMatch m_matchGroups m_allFrom m_allBefore m_founds m_pieces m_writtenMany m_templateWide m_tooMuch) f_MO_279 d_MO_posix_178 h80.2.2 rfl ?_
              refine ab_iload_n d_MO_posix_181 rfl ?_
              refine zz_bipush d_MO_posix_182 (by decide) ?_
              refine zz_bipush d_MO_posix_184 (by decide) ?_
              refine zz_bipush d_MO_posix_186 (by decide) ?_
              refine zz_bipush d_MO_posix_188 (by decide) ?_
              refine zz_bipush d_MO_posix_190 (by decide) ?_
              refine ab_callS (d' := d - 1) (as := [vR 84, vz ((m_at + 2) + 0), vz m_taped, vz 112, vz 117, vz 110, vz 99, vz 116]) (st := []) (z_MO_spells (o := o) (ar := 84) (la := 284) (m := 2000) (f := A_tape) (p := ((m_at + 2) + 0)) (n := m_taped) (c1 := 112) (c2 := 117) (c3 := 110) (c4 := 99) (c5 := 116) h84 (by omega) (by omega) jtp (by omega)) (fun oc G2 h => by rcases h with ⟨_, h, _⟩ <;> exact ⟨_, h⟩) (by omega) m_MO_spells ml_MO_333 st_MO_spells (Nat.le_of_ble_eq_true rfl) d_MO_posix_192 rfl ?_
              intro v G28 hq
              rcases hq with ⟨v29, hv, hGe, hq30, hq31⟩
              cases hv
              rw [hGe]
              change ab_W _ _ _ G7 195 [some (vR 80), some (vz m_at), some (vz 0), some (vz m_taped), none] [vz v29] _
              refine zz_if_eq (tgt := 203) d_MO_posix_195 (by decide) (by omega) (fun c32 => ?_) (fun c32 => ?_)
              · refine ab_aload_n d_MO_posix_203 rfl ?_
                refine ab_getf (fs := mof m_thrown m_taped m_length m_out m_wide m_gathered m_sets m_ranges m_nodes ((m_at + 2) + 0) m_flags m_fault m_place m_numbered m_depth m_value m_isNot m_least0 m_most0 m_slot m_work m_got m_rowMany m_charAt m_charWide m_trail m_isMatch m_matchGroups m_allFrom m_allBefore m_founds m_pieces m_writtenMany m_templateWide m_tooMuch) f_MO_19 d_MO_posix_204 h80.2.2 rfl ?_
                refine ab_aload_n d_MO_posix_207 rfl ?_
                refine ab_getf (fs := mof m_thrown m_taped m_length m_out m_wide m_gathered m_sets m_ranges m_nodes ((m_at + 2) + 0) m_flags m_fault m_place m_numbered m_depth m_value m_isNot m_least0 m_most0 m_slot m_work m_got m_rowMany m_charAt m_charWide m_trail m_isMatch m_matchGroups m_allFrom m_allBefore m_founds m_pieces m_writtenMany m_templateWide m_tooMuch) f_MO_279 d_MO_posix_208 h80.2.2 rfl ?_
                refine ab_iload_n d_MO_posix_211 rfl ?_
                refine zz_bipush d_MO_posix_212 (by decide) ?_
                refine zz_bipush d_MO_posix_214 (by decide) ?_
                refine zz_bipush d_MO_posix_216 (by decide) ?_
                refine zz_bipush d_MO_posix_218 (by decide) ?_
                refine zz_bipush d_MO_posix_220 (by decide) ?_
                refine ab_callS (d' := d - 1) (as := [vR 84, vz ((m_at + 2) + 0), vz m_taped, vz 115, vz 112, vz 97, vz 99, vz 101]) (st := []) (z_MO_spells (o := o) (ar := 84) (la := 284) (m := 2000) (f := A_tape) (p := ((m_at + 2) + 0)) (n := m_taped) (c1 := 115) (c2 := 112) (c3 := 97) (c4 := 99) (c5 := 101) h84 (by omega) (by omega) jtp (by omega)) (fun oc G2 h => by rcases h with ⟨_, h, _⟩ <;> exact ⟨_, h⟩) (by omega) m_MO_spells ml_MO_333 st_MO_spells (Nat.le_of_ble_eq_true rfl) d_MO_posix_222 rfl ?_
                intro v G33 hq
                rcases hq with ⟨v34, hv, hGe, hq35, hq36⟩
                cases hv
                rw [hGe]
                change ab_W _ _ _ G7 225 [some (vR 80), some (vz m_at), some (vz 0), some (vz m_taped), none] [vz v34] _
                refine zz_if_eq (tgt := 233) d_MO_posix_225 (by decide) (by omega) (fun c37 => ?_) (fun c37 => ?_)
                · refine zz_iconst d_MO_posix_233 ?_
                  refine ab_istore d_MO_posix_234 (Nat.le_of_ble_eq_true rfl) (Nat.le_of_ble_eq_true rfl) rfl ?_
                  change ab_W _ _ _ G7 236 [some (vR 80), some (vz m_at), some (vz 0), some (vz m_taped), some (vz (-1))] [] _
                  refine ab_iload d_MO_posix_236 rfl ?_
                  refine zz_if_lt (tgt := 262) d_MO_posix_238 (by decide) (by decide) (fun c38 => ?_) (fun c38 => absurd c38 (by decide))
                  refine ab_aload_n d_MO_posix_262 rfl ?_
                  refine zz_bipush d_MO_posix_263 (by decide) ?_
                  refine ab_iload_n d_MO_posix_265 rfl ?_
                  refine ab_callV (d' := d - 1) (as := [vz 7, vz m_at]) (st := []) (r := _) (z_MO_wrong (o := o) (m_thrown := m_thrown) (m_taped := m_taped) (m_length := m_length) (m_out := m_out) (m_wide := m_wide) (m_gathered := m_gathered) (m_sets := m_sets) (m_ranges := m_ranges) (m_nodes := m_nodes) (m_at := ((m_at + 2) + 0)) (m_flags := m_flags) (m_fault := m_fault) (m_place := m_place) (m_numbered := m_numbered) (m_depth := m_depth) (m_value := m_value) (m_isNot := m_isNot) (m_least0 := m_least0) (m_most0 := m_most0) (m_slot := m_slot) (m_work := m_work) (m_got := m_got) (m_rowMany := m_rowMany) (m_charAt := m_charAt) (m_charWide := m_charWide) (m_trail := m_trail) (m_isMatch := m_isMatch) (m_matchGroups := m_matchGroups) (m_allFrom := m_allFrom) (m_allBefore := m_allBefore) (m_founds := m_founds) (m_pieces := m_pieces) (m_writtenMany := m_writtenMany) (m_templateWide := m_templateWide) (m_tooMuch := m_tooMuch) (x := 7) (y := m_at) h80 (by omega) (by omega)) (fun oc G2 h => by rcases h with ⟨_, _, h, _⟩ <;> exact ⟨_, h⟩) (by omega) m_MO_wrong ml_MO_304 im_MO_wrong se_MO_wrong c_MO h80.2.2 (Nat.le_of_ble_eq_true rfl) d_MO_posix_266 rfl ?_
                  intro v G39 hq
                  rcases hq with ⟨f240, p241, hv, hfk, hlk, hsk, hN80, hq42⟩
                  cases hv
                  have h84 := hfk.get h84 (by decide)
                  have h87 := hfk.get h87 (by decide)
                  have h88 := hfk.get h88 (by decide)
                  have h81 := hfk.get h81 (by decide)
                  have h82 := hfk.get h82 (by decide)
                  have hfr := hfr.tr hfk (by decide)
                  have hlen := hlk.trans hlen
                  have hsl := hsk.trans hsl
                  have h80 := hN80
                  change ab_W _ _ _ G39 269 [some (vR 80), some (vz m_at), some (vz 0), some (vz m_taped), some (vz (-1))] [] _
                  refine ab_vret rfl d_MO_posix_269 ?_
                  rw [hQ]; exact (Or.inl ⟨_, _, _, rfl, hfr, hlen, hsl, h80, h87, h88, (by omega)⟩)
                · refine zz_bipush d_MO_posix_228 (by decide) ?_
                  refine ab_goto (tgt := 234) d_MO_posix_230 (by decide) ?_
                  refine ab_istore d_MO_posix_234 (Nat.le_of_ble_eq_true rfl) (Nat.le_of_ble_eq_true rfl) rfl ?_
                  change ab_W _ _ _ G7 236 [some (vR 80), some (vz m_at), some (vz 0), some (vz m_taped), some (vz 11)] [] _
                  refine ab_iload d_MO_posix_236 rfl ?_
                  refine zz_if_lt (tgt := 262) d_MO_posix_238 (by decide) (by decide) (fun c43 => absurd c43 (by decide)) (fun c43 => ?_)
                  refine ab_aload_n d_MO_posix_241 rfl ?_
                  refine zz_iconst d_MO_posix_242 ?_
                  refine ab_callV (d' := d - 1) (as := [vz 5]) (st := []) (r := _) (z_MO_here (o := o) (m_thrown := m_thrown) (m_taped := m_taped) (m_length := m_length) (m_out := m_out) (m_wide := m_wide) (m_gathered := m_gathered) (m_sets := m_sets) (m_ranges := m_ranges) (m_nodes := m_nodes) (m_at := ((m_at + 2) + 0)) (m_flags := m_flags) (m_fault := m_fault) (m_place := m_place) (m_numbered := m_numbered) (m_depth := m_depth) (m_value := m_value) (m_isNot := m_isNot) (m_least0 := m_least0) (m_most0 := m_most0) (m_slot := m_slot) (m_work := m_work) (m_got := m_got) (m_rowMany := m_rowMany) (m_charAt := m_charAt) (m_charWide := m_charWide) (m_trail := m_trail) (m_isMatch := m_isMatch) (m_matchGroups := m_matchGroups) (m_allFrom := m_allFrom) (m_allBefore := m_allBefore) (m_founds := m_founds) (m_pieces := m_pieces) (m_writtenMany := m_writtenMany) (m_templateWide := m_templateWide) (m_tooMuch := m_tooMuch) (A_tape := A_tape) (k := 5) h80 h84 (by omega) (by omega) jtp (by omega)) (fun oc G2 h => by rcases h with ⟨h, _⟩ | ⟨h, _⟩ <;> exact ⟨_, h⟩) (by omega) m_MO_here ml_MO_297 im_MO_here se_MO_here c_MO h80.2.2 (Nat.le_of_ble_eq_true rfl) d_MO_posix_243 rfl ?_
                  intro v G44 hq
                  rcases hq with ⟨hv, hGe, hq45⟩ | ⟨hv, hGe, hq46⟩
                  · cases hv
                    rw [hGe]
                    change ab_W _ _ _ G7 246 [some (vR 80), some (vz m_at), some (vz 0), some (vz m_taped), some (vz 11)] [vz (A_tape (((m_at + 2) + 0) + 5))] _
                    refine zz_bipush d_MO_posix_246 (by decide) ?_
                    refine zz_icmp_ne (tgt := 262) d_MO_posix_248 (by decide) (by omega) (by decide) (fun c47 => ?_) (fun c47 => ?_)
                    · refine ab_aload_n d_MO_posix_262 rfl ?_
                      refine zz_bipush d_MO_posix_263 (by decide) ?_
                      refine ab_iload_n d_MO_posix_265 rfl ?_
                      refine ab_callV (d' := d - 1) (as := [vz 7, vz m_at]) (st := []) (r := _) (z_MO_wrong (o := o) (m_thrown := m_thrown) (m_taped := m_taped) (m_length := m_length) (m_out := m_out) (m_wide := m_wide) (m_gathered := m_gathered) (m_sets := m_sets) (m_ranges := m_ranges) (m_nodes := m_nodes) (m_at := ((m_at + 2) + 0)) (m_flags := m_flags) (m_fault := m_fault) (m_place := m_place) (m_numbered := m_numbered) (m_depth := m_depth) (m_value := m_value) (m_isNot := m_isNot) (m_least0 := m_least0) (m_most0 := m_most0) (m_slot := m_slot) (m_work := m_work) (m_got := m_got) (m_rowMany := m_rowMany) (m_charAt := m_charAt) (m_charWide := m_charWide) (m_trail := m_trail) (m_isMatch := m_isMatch) (m_matchGroups := m_matchGroups) (m_allFrom := m_allFrom) (m_allBefore := m_allBefore) (m_founds := m_founds) (m_pieces := m_pieces) (m_writtenMany := m_writtenMany) (m_templateWide := m_templateWide) (m_tooMuch := m_tooMuch) (x := 7) (y := m_at) h80 (by omega) (by omega)) (fun oc G2 h => by rcases h with ⟨_, _, h, _⟩ <;> exact ⟨_, h⟩) (by omega) m_MO_wrong ml_MO_304 im_MO_wrong se_MO_wrong c_MO h80.2.2 (Nat.le_of_ble_eq_true rfl) d_MO_posix_266 rfl ?_
                      intro v G48 hq
                      rcases hq with ⟨f249, p250, hv, hfk, hlk, hsk, hN80, hq51⟩
                      cases hv
                      have h84 := hfk.get h84 (by decide)
                      have h87 := hfk.get h87 (by decide)
                      have h88 := hfk.get h88 (by decide)
                      have h81 := hfk.get h81 (by decide)
                      have h82 := hfk.get h82 (by decide)
                      have hfr := hfr.tr hfk (by decide)
                      have hlen := hlk.trans hlen
                      have hsl := hsk.trans hsl
                      have h80 := hN80
                      change ab_W _ _ _ G48 269 [some (vR 80), some (vz m_at), some (vz 0), some (vz m_taped), some (vz 11)] [] _
                      refine ab_vret rfl d_MO_posix_269 ?_
                      rw [hQ]; exact (Or.inl ⟨_, _, _, rfl, hfr, hlen, hsl, h80, h87, h88, (by omega)⟩)
                    · refine ab_aload_n d_MO_posix_251 rfl ?_
                      refine zz_bipush d_MO_posix_252 (by decide) ?_
                      refine ab_callV (d' := d - 1) (as := [vz 6]) (st := []) (r := _) (z_MO_here (o := o) (m_thrown := m_thrown) (m_taped := m_taped) (m_length := m_length) (m_out := m_out) (m_wide := m_wide) (m_gathered := m_gathered) (m_sets := m_sets) (m_ranges := m_ranges) (m_nodes := m_nodes) (m_at := ((m_at + 2) + 0)) (m_flags := m_flags) (m_fault := m_fault) (m_place := m_place) (m_numbered := m_numbered) (m_depth := m_depth) (m_value := m_value) (m_isNot := m_isNot) (m_least0 := m_least0) (m_most0 := m_most0) (m_slot := m_slot) (m_work := m_work) (m_got := m_got) (m_rowMany := m_rowMany) (m_charAt := m_charAt) (m_charWide := m_charWide) (m_trail := m_trail) (m_isMatch := m_isMatch) (m_matchGroups := m_matchGroups) (m_allFrom := m_allFrom) (m_allBefore := m_allBefore) (m_founds := m_founds) (m_pieces := m_pieces) (m_writtenMany := m_writtenMany) (m_templateWide := m_templateWide) (m_tooMuch := m_tooMuch) (A_tape := A_tape) (k := 6) h80 h84 (by omega) (by omega) jtp (by omega)) (fun oc G2 h => by rcases h with ⟨h, _⟩ | ⟨h, _⟩ <;> exact ⟨_, h⟩) (by omega) m_MO_here ml_MO_297 im_MO_here se_MO_here c_MO h80.2.2 (Nat.le_of_ble_eq_true rfl) d_MO_posix_254 rfl ?_
                      intro v G52 hq
                      rcases hq with ⟨hv, hGe, hq53⟩ | ⟨hv, hGe, hq54⟩
                      · cases hv
                        rw [hGe]
                        change ab_W _ _ _ G7 257 [some (vR 80), some (vz m_at), some (vz 0), some (vz m_taped), some (vz 11)] [vz (A_tape (((m_at + 2) + 0) + 6))] _
                        refine zz_bipush d_MO_posix_257 (by decide) ?_
                        refine zz_icmp_eq (tgt := 270) d_MO_posix_259 (by decide) (by omega) (by decide) (fun c55 => ?_) (fun c55 => ?_)
                        · refine ab_aload_n d_MO_posix_270 rfl ?_
                          refine ab_iload d_MO_posix_271 rfl ?_
                          refine ab_iload_n d_MO_posix_273 rfl ?_
                          refine ab_callV (d' := d - 1) (as := [vz 11, vz 0]) (st := []) (r := _) (z_MO_gatherNamed (o := o) (m_thrown := m_thrown) (m_taped := m_taped) (m_length := m_length) (m_out := m_out) (m_wide := m_wide) (m_gathered := m_gathered) (m_sets := m_sets) (m_ranges := m_ranges) (m_nodes := m_nodes) (m_at := ((m_at + 2) + 0)) (m_flags := m_flags) (m_fault := m_fault) (m_place := m_place) (m_numbered := m_numbered) (m_depth := m_depth) (m_value := m_value) (m_isNot := m_isNot) (m_least0 := m_least0) (m_most0 := m_most0) (m_slot := m_slot) (m_work := m_work) (m_got := m_got) (m_rowMany := m_rowMany) (m_charAt := m_charAt) (m_charWide := m_charWide) (m_trail := m_trail) (m_isMatch := m_isMatch) (m_matchGroups := m_matchGroups) (m_allFrom := m_allFrom) (m_allBefore := m_allBefore) (m_founds := m_founds) (m_pieces := m_pieces) (m_writtenMany := m_writtenMany) (m_templateWide := m_templateWide) (m_tooMuch := m_tooMuch) (LO := LO) (HI := HI) (MK := MK) (P := P) (w := 11) (nt := 0) (mm := mm) h80 h87 h88 h81 h82 (by omega) (by omega) jc jl (by omega)) (fun oc G2 h => by rcases h with ⟨_, _, _, _, h, _⟩ <;> exact ⟨_, h⟩) (by omega) m_MO_gatherNamed ml_MO_337 im_MO_gatherNamed se_MO_gatherNamed c_MO h80.2.2 (Nat.le_of_ble_eq_true rfl) d_MO_posix_274 rfl ?_
                          intro v G56 hq
                          rcases hq with ⟨g257, LO258, HI259, P260, hv, hfk, hlk, hsk, hN80, hN87, hN88, hq61, hq62, hq63, hq64⟩
                          cases hv
                          have h84 := hfk.get h84 (by decide)
                          have h81 := hfk.get h81 (by decide)
                          have h82 := hfk.get h82 (by decide)
                          have hfr := hfr.tr hfk (by decide)
                          have hlen := hlk.trans hlen
                          have hsl := hsk.trans hsl
                          have h80 := hN80
                          have h87 := hN87
                          have h88 := hN88
                          change ab_W _ _ _ G56 277 [some (vR 80), some (vz m_at), some (vz 0), some (vz m_taped), some (vz 11)] [] _
                          refine ab_aload_n d_MO_posix_277 rfl ?_
                          refine ab_dup d_MO_posix_278 rfl ?_
                          refine ab_getf (fs := mof m_thrown m_taped m_length m_out m_wide g257 m_sets m_ranges m_nodes ((m_at + 2) + 0) m_flags m_fault m_place m_numbered m_depth m_value m_isNot m_least0 m_most0 m_slot m_work m_got m_rowMany m_charAt m_charWide m_trail m_isMatch m_matchGroups m_allFrom m_allBefore m_founds m_pieces m_writtenMany m_templateWide m_tooMuch) f_MO_279 d_MO_posix_279 h80.2.2 rfl ?_
                          refine zz_bipush d_MO_posix_282 (by decide) ?_
                          refine zz_iadd d_MO_posix_284 ?_
                          refine ab_putf (fs := mof m_thrown m_taped m_length m_out m_wide g257 m_sets m_ranges m_nodes ((m_at + 2) + 0) m_flags m_fault m_place m_numbered m_depth m_value m_isNot m_least0 m_most0 m_slot m_work m_got m_rowMany m_charAt m_charWide m_trail m_isMatch m_matchGroups m_allFrom m_allBefore m_founds m_pieces m_writtenMany m_templateWide m_tooMuch) f_MO_279 (Or.inl rfl) d_MO_posix_285 h80.2.2 (Nat.le_of_ble_eq_true rfl) (fun _ => ⟨rfl, rfl⟩) (h80.2.1 (by decide)) ?_
                          obtain ⟨G65, eG65⟩ : ∃ z : ab_G, z = List.set G56 80 (ab_ob 12 (mof m_thrown m_taped m_length m_out m_wide g257 m_sets m_ranges m_nodes (((m_at + 2) + 0) + 7) m_flags m_fault m_place m_numbered m_depth m_value m_isNot m_least0 m_most0 m_slot m_work m_got m_rowMany m_charAt m_charWide m_trail m_isMatch m_matchGroups m_allFrom m_allBefore m_founds m_pieces m_writtenMany m_templateWide m_tooMuch)) := ⟨_, rfl⟩
                          have h84 := h84.keep h80 eG65 (by decide)
                          have h87 := h87.keep h80 eG65 (by decide)
                          have h88 := h88.keep h80 eG65 (by decide)
                          have h81 := h81.keep h80 eG65 (by decide)
                          have h82 := h82.keep h80 eG65 (by decide)
                          have hlen := (z_len eG65).trans hlen
                          have hsl := (z_sl h80 eG65 rfl).trans hsl
                          have hfr := hfr.wr h80 eG65 (by decide)
                          have h80 := h80.kept eG65
                          change ab_W _ _ _ (List.set G56 80 (ab_ob 12 (mof m_thrown m_taped m_length m_out m_wide g257 m_sets m_ranges m_nodes (((m_at + 2) + 0) + 7) m_flags m_fault m_place m_numbered m_depth m_value m_isNot m_least0 m_most0 m_slot m_work m_got m_rowMany m_charAt m_charWide m_trail m_isMatch m_matchGroups m_allFrom m_allBefore m_founds m_pieces m_writtenMany m_templateWide m_tooMuch))) 288 [some (vR 80), some (vz m_at), some (vz 0), some (vz m_taped), some (vz 11)] [] _
                          rw [← eG65]
                          refine ab_vret rfl d_MO_posix_288 ?_
                          rw [hQ]; exact (Or.inr ⟨_, _, _, _, _, rfl, hfr, hlen, hsl, h80, h87, h88, (by omega), (by exact hq63), (by exact lfc_w hq64 (by omega))⟩)
                        · refine ab_aload_n d_MO_posix_262 rfl ?_
                          refine zz_bipush d_MO_posix_263 (by decide) ?_
                          refine ab_iload_n d_MO_posix_265 rfl ?_
                          refine ab_callV (d' := d - 1) (as := [vz 7, vz m_at]) (st := []) (r := _) (z_MO_wrong (o := o) (m_thrown := m_thrown) (m_taped := m_taped) (m_length := m_length) (m_out := m_out) (m_wide := m_wide) (m_gathered := m_gathered) (m_sets := m_sets) (m_ranges := m_ranges) (m_nodes := m_nodes) (m_at := ((m_at + 2) + 0)) (m_flags := m_flags) (m_fault := m_fault) (m_place := m_place) (m_numbered := m_numbered) (m_depth := m_depth) (m_value := m_value) (m_isNot := m_isNot) (m_least0 := m_least0) (m_most0 := m_most0) (m_slot := m_slot) (m_work := m_work) (m_got := m_got) (m_rowMany := m_rowMany) (m_charAt := m_charAt) (m_charWide := m_charWide) (m_trail := m_trail) (m_isMatch := m_isMatch) (m_matchGroups := m_matchGroups) (m_allFrom := m_allFrom) (m_allBefore := m_allBefore) (m_founds := m_founds) (m_pieces := m_pieces) (m_writtenMany := m_writtenMany) (m_templateWide := m_templateWide) (m_tooMuch := m_tooMuch) (x := 7) (y := m_at) h80 (by omega) (by omega)) (fun oc G2 h => by rcases h with ⟨_, _, h, _⟩ <;> exact ⟨_, h⟩) (by omega) m_MO_wrong ml_MO_304 im_MO_wrong se_MO_wrong c_MO h80.2.2 (Nat.le_of_ble_eq_true rfl) d_MO_posix_266 rfl ?_
                          intro v G66 hq
                          rcases hq with ⟨f267, p268, hv, hfk, hlk, hsk, hN80, hq69⟩
                          cases hv
                          have h84 := hfk.get h84 (by decide)
                          have h87 := hfk.get h87 (by decide)
                          have h88 := hfk.get h88 (by decide)
                          have h81 := hfk.get h81 (by decide)
                          have h82 := hfk.get h82 (by decide)
                          have hfr := hfr.tr hfk (by decide)
                          have hlen := hlk.trans hlen
                          have hsl := hsk.trans hsl
                          have h80 := hN80
                          change ab_W _ _ _ G66 269 [some (vR 80), some (vz m_at), some (vz 0), some (vz m_taped), some (vz 11)] [] _
                          refine ab_vret rfl d_MO_posix_269 ?_
                          rw [hQ]; exact (Or.inl ⟨_, _, _, rfl, hfr, hlen, hsl, h80, h87, h88, (by omega)⟩)
                      · cases hv
                        rw [hGe]
                        change ab_W _ _ _ G7 257 [some (vR 80), some (vz m_at), some (vz 0), some (vz m_taped), some (vz 11)] [vz (-1)] _
                        refine zz_bipush d_MO_posix_257 (by decide) ?_
                        refine zz_icmp_eq (tgt := 270) d_MO_posix_259 (by decide) (by decide) (by decide) (fun c70 => absurd c70 (by decide)) (fun c70 => ?_)
                        refine ab_aload_n d_MO_posix_262 rfl ?_
                        refine zz_bipush d_MO_posix_263 (by decide) ?_
                        refine ab_iload_n d_MO_posix_265 rfl ?_
                        refine ab_callV (d' := d - 1) (as := [vz 7, vz m_at]) (st := []) (r := _) (z_MO_wrong (o := o) (m_thrown := m_thrown) (m_taped := m_taped) (m_length := m_length) (m_out := m_out) (m_wide := m_wide) (m_gathered := m_gathered) (m_sets := m_sets) (m_ranges := m_ranges) (m_nodes := m_nodes) (m_at := ((m_at + 2) + 0)) (m_flags := m_flags) (m_fault := m_fault) (m_place := m_place) (m_numbered := m_numbered) (m_depth := m_depth) (m_value := m_value) (m_isNot := m_isNot) (m_least0 := m_least0) (m_most0 := m_most0) (m_slot := m_slot) (m_work := m_work) (m_got := m_got) (m_rowMany := m_rowMany) (m_charAt := m_charAt) (m_charWide := m_charWide) (m_trail := m_trail) (m_isMatch := m_isMatch) (m_matchGroups := m_matchGroups) (m_allFrom := m_allFrom) (m_allBefore := m_allBefore) (m_founds := m_founds) (m_pieces := m_pieces) (m_writtenMany := m_writtenMany) (m_templateWide := m_templateWide) (m_tooMuch := m_tooMuch) (x := 7) (y := m_at) h80 (by omega) (by omega)) (fun oc G2 h => by rcases h with ⟨_, _, h, _⟩ <;> exact ⟨_, h⟩) (by omega) m_MO_wrong ml_MO_304 im_MO_wrong se_MO_wrong c_MO h80.2.2 (Nat.le_of_ble_eq_true rfl) d_MO_posix_266 rfl ?_
                        intro v G71 hq
                        rcases hq with ⟨f272, p273, hv, hfk, hlk, hsk, hN80, hq74⟩
                        cases hv
                        have h84 := hfk.get h84 (by decide)
                        have h87 := hfk.get h87 (by decide)
                        have h88 := hfk.get h88 (by decide)
                        have h81 := hfk.get h81 (by decide)
                        have h82 := hfk.get h82 (by decide)
                        have hfr := hfr.tr hfk (by decide)
                        have hlen := hlk.trans hlen
                        have hsl := hsk.trans hsl
                        have h80 := hN80
                        change ab_W _ _ _ G71 269 [some (vR 80), some (vz m_at), some (vz 0), some (vz m_taped), some (vz 11)] [] _
                        refine ab_vret rfl d_MO_posix_269 ?_
                        rw [hQ]; exact (Or.inl ⟨_, _, _, rfl, hfr, hlen, hsl, h80, h87, h88, (by omega)⟩)
                  · cases hv
                    rw [hGe]
                    change ab_W _ _ _ G7 246 [some (vR 80), some (vz m_at), some (vz 0), some (vz m_taped), some (vz 11)] [vz (-1)] _
                    refine zz_bipush d_MO_posix_246 (by decide) ?_
                    refine zz_icmp_ne (tgt := 262) d_MO_posix_248 (by decide) (by decide) (by decide) (fun c75 => ?_) (fun c75 => absurd c75 (by decide))
                    refine ab_aload_n d_MO_posix_262 rfl ?_
                    refine zz_bipush d_MO_posix_263 (by decide) ?_
                    refine ab_iload_n d_MO_posix_265 rfl ?_
                    refine ab_callV (d' := d - 1) (as := [vz 7, vz m_at]) (st := []) (r := _) (z_MO_wrong (o := o) (m_thrown := m_thrown) (m_taped := m_taped) (m_length := m_length) (m_out := m_out) (m_wide := m_wide) (m_gathered := m_gathered) (m_sets := m_sets) (m_ranges := m_ranges) (m_nodes := m_nodes) (m_at := ((m_at + 2) + 0)) (m_flags := m_flags) (m_fault := m_fault) (m_place := m_place) (m_numbered := m_numbered) (m_depth := m_depth) (m_value := m_value) (m_isNot := m_isNot) (m_least0 := m_least0) (m_most0 := m_most0) (m_slot := m_slot) (m_work := m_work) (m_got := m_got) (m_rowMany := m_rowMany) (m_charAt := m_charAt) (m_charWide := m_charWide) (m_trail := m_trail) (m_isMatch := m_isMatch) (m_matchGroups := m_matchGroups) (m_allFrom := m_allFrom) (m_allBefore := m_allBefore) (m_founds := m_founds) (m_pieces := m_pieces) (m_writtenMany := m_writtenMany) (m_templateWide := m_templateWide) (m_tooMuch := m_tooMuch) (x := 7) (y := m_at) h80 (by omega) (by omega)) (fun oc G2 h => by rcases h with ⟨_, _, h, _⟩ <;> exact ⟨_, h⟩) (by omega) m_MO_wrong ml_MO_304 im_MO_wrong se_MO_wrong c_MO h80.2.2 (Nat.le_of_ble_eq_true rfl) d_MO_posix_266 rfl ?_
                    intro v G76 hq
                    rcases hq with ⟨f277, p278, hv, hfk, hlk, hsk, hN80, hq79⟩
                    cases hv
                    have h84 := hfk.get h84 (by decide)
                    have h87 := hfk.get h87 (by decide)
                    have h88 := hfk.get h88 (by decide)
                    have h81 := hfk.get h81 (by decide)
                    have h82 := hfk.get h82 (by decide)
                    have hfr := hfr.tr hfk (by decide)
                    have hlen := hlk.trans hlen
                    have hsl := hsk.trans hsl
                    have h80 := hN80
                    change ab_W _ _ _ G76 269 [some (vR 80), some (vz m_at), some (vz 0), some (vz m_taped), some (vz 11)] [] _
                    refine ab_vret rfl d_MO_posix_269 ?_
                    rw [hQ]; exact (Or.inl ⟨_, _, _, rfl, hfr, hlen, hsl, h80, h87, h88, (by omega)⟩)
              · refine zz_bipush d_MO_posix_198 (by decide) ?_
                refine ab_goto (tgt := 234) d_MO_posix_200 (by decide) ?_
                refine ab_istore d_MO_posix_234 (Nat.le_of_ble_eq_true rfl) (Nat.le_of_ble_eq_true rfl) rfl ?_
                change ab_W _ _ _ G7 236 [some (vR 80), some (vz m_at), some (vz 0), some (vz m_taped), some (vz 10)] [] _
                refine ab_iload d_MO_posix_236 rfl ?_
                refine zz_if_lt (tgt := 262) d_MO_posix_238 (by decide) (by decide) (fun c80 => absurd c80 (by decide)) (fun c80 => ?_)
                refine ab_aload_n d_MO_posix_241 rfl ?_
                refine zz_iconst d_MO_posix_242 ?_
                refine ab_callV (d' := d - 1) (as := [vz 5]) (st := []) (r := _) (z_MO_here (o := o) (m_thrown := m_thrown) (m_taped := m_taped) (m_length := m_length) (m_out := m_out) (m_wide := m_wide) (m_gathered := m_gathered) (m_sets := m_sets) (m_ranges := m_ranges) (m_nodes := m_nodes) (m_at := ((m_at + 2) + 0)) (m_flags := m_flags) (m_fault := m_fault) (m_place := m_place) (m_numbered := m_numbered) (m_depth := m_depth) (m_value := m_value) (m_isNot := m_isNot) (m_least0 := m_least0) (m_most0 := m_most0) (m_slot := m_slot) (m_work := m_work) (m_got := m_got) (m_rowMany := m_rowMany) (m_charAt := m_charAt) (m_charWide := m_charWide) (m_trail := m_trail) (m_isMatch := m_isMatch) (m_matchGroups := m_matchGroups) (m_allFrom := m_allFrom) (m_allBefore := m_allBefore) (m_founds := m_founds) (m_pieces := m_pieces) (m_writtenMany := m_writtenMany) (m_templateWide := m_templateWide) (m_tooMuch := m_tooMuch) (A_tape := A_tape) (k := 5) h80 h84 (by omega) (by omega) jtp (by omega)) (fun oc G2 h => by rcases h with ⟨h, _⟩ | ⟨h, _⟩ <;> exact ⟨_, h⟩) (by omega) m_MO_here ml_MO_297 im_MO_here se_MO_here c_MO h80.2.2 (Nat.le_of_ble_eq_true rfl) d_MO_posix_243 rfl ?_
                intro v G81 hq
                rcases hq with ⟨hv, hGe, hq82⟩ | ⟨hv, hGe, hq83⟩
                · cases hv
                  rw [hGe]
                  change ab_W _ _ _ G7 246 [some (vR 80), some (vz m_at), some (vz 0), some (vz m_taped), some (vz 10)] [vz (A_tape (((m_at + 2) + 0) + 5))] _
                  refine zz_bipush d_MO_posix_246 (by decide) ?_
                  refine zz_icmp_ne (tgt := 262) d_MO_posix_248 (by decide) (by omega) (by decide) (fun c84 => ?_) (fun c84 => ?_)
                  · refine ab_aload_n d_MO_posix_262 rfl ?_
                    refine zz_bipush d_MO_posix_263 (by decide) ?_
                    refine ab_iload_n d_MO_posix_265 rfl ?_
                    refine ab_callV (d' := d - 1) (as := [vz 7, vz m_at]) (st := []) (r := _) (z_MO_wrong (o := o) (m_thrown := m_thrown) (m_taped := m_taped) (m_length := m_length) (m_out := m_out) (m_wide := m_wide) (m_gathered := m_gathered) (m_sets := m_sets) (m_ranges := m_ranges) (m_nodes := m_nodes) (m_at := ((m_at + 2) + 0)) (m_flags := m_flags) (m_fault := m_fault) (m_place := m_place) (m_numbered := m_numbered) (m_depth := m_depth) (m_value := m_value) (m_isNot := m_isNot) (m_least0 := m_least0) (m_most0 := m_most0) (m_slot := m_slot) (m_work := m_work) (m_got := m_got) (m_rowMany := m_rowMany) (m_charAt := m_charAt) (m_charWide := m_charWide) (m_trail := m_trail) (m_isMatch := m_isMatch) (m_matchGroups := m_matchGroups) (m_allFrom := m_allFrom) (m_allBefore := m_allBefore) (m_founds := m_founds) (m_pieces := m_pieces) (m_writtenMany := m_writtenMany) (m_templateWide := m_templateWide) (m_tooMuch := m_tooMuch) (x := 7) (y := m_at) h80 (by omega) (by omega)) (fun oc G2 h => by rcases h with ⟨_, _, h, _⟩ <;> exact ⟨_, h⟩) (by omega) m_MO_wrong ml_MO_304 im_MO_wrong se_MO_wrong c_MO h80.2.2 (Nat.le_of_ble_eq_true rfl) d_MO_posix_266 rfl ?_
                    intro v G85 hq
                    rcases hq with ⟨f286, p287, hv, hfk, hlk, hsk, hN80, hq88⟩
                    cases hv
                    have h84 := hfk.get h84 (by decide)
                    have h87 := hfk.get h87 (by decide)
                    have h88 := hfk.get h88 (by decide)
                    have h81 := hfk.get h81 (by decide)
                    have h82 := hfk.get h82 (by decide)
                    have hfr := hfr.tr hfk (by decide)
                    have hlen := hlk.trans hlen
                    have hsl := hsk.trans hsl
                    have h80 := hN80
                    change ab_W _ _ _ G85 269 [some (vR 80), some (vz m_at), some (vz 0), some (vz m_taped), some (vz 10)] [] _
                    refine ab_vret rfl d_MO_posix_269 ?_
                    rw [hQ]; exact (Or.inl ⟨_, _, _, rfl, hfr, hlen, hsl, h80, h87, h88, (by omega)⟩)
                  · refine ab_aload_n d_MO_posix_251 rfl ?_
                    refine zz_bipush d_MO_posix_252 (by decide) ?_
                    refine ab_callV (d' := d - 1) (as := [vz 6]) (st := []) (r := _) (z_MO_here (o := o) (m_thrown := m_thrown) (m_taped := m_taped) (m_length := m_length) (m_out := m_out) (m_wide := m_wide) (m_gathered := m_gathered) (m_sets := m_sets) (m_ranges := m_ranges) (m_nodes := m_nodes) (m_at := ((m_at + 2) + 0)) (m_flags := m_flags) (m_fault := m_fault) (m_place := m_place) (m_numbered := m_numbered) (m_depth := m_depth) (m_value := m_value) (m_isNot := m_isNot) (m_least0 := m_least0) (m_most0 := m_most0) (m_slot := m_slot) (m_work := m_work) (m_got := m_got) (m_rowMany := m_rowMany) (m_charAt := m_charAt) (m_charWide := m_charWide) (m_trail := m_trail) (m_isMatch := m_isMatch) (m_matchGroups := m_matchGroups) (m_allFrom := m_allFrom) (m_allBefore := m_allBefore) (m_founds := m_founds) (m_pieces := m_pieces) (m_writtenMany := m_writtenMany) (m_templateWide := m_templateWide) (m_tooMuch := m_tooMuch) (A_tape := A_tape) (k := 6) h80 h84 (by omega) (by omega) jtp (by omega)) (fun oc G2 h => by rcases h with ⟨h, _⟩ | ⟨h, _⟩ <;> exact ⟨_, h⟩) (by omega) m_MO_here ml_MO_297 im_MO_here se_MO_here c_MO h80.2.2 (Nat.le_of_ble_eq_true rfl) d_MO_posix_254 rfl ?_
                    intro v G89 hq
                    rcases hq with ⟨hv, hGe, hq90⟩ | ⟨hv, hGe, hq91⟩
                    · cases hv
                      rw [hGe]
                      change ab_W _ _ _ G7 257 [some (vR 80), some (vz m_at), some (vz 0), some (vz m_taped), some (vz 10)] [vz (A_tape (((m_at + 2) + 0) + 6))] _
                      refine zz_bipush d_MO_posix_257 (by decide) ?_
                      refine zz_icmp_eq (tgt := 270) d_MO_posix_259 (by decide) (by omega) (by decide) (fun c92 => ?_) (fun c92 => ?_)
                      · refine ab_aload_n d_MO_posix_270 rfl ?_
                        refine ab_iload d_MO_posix_271 rfl ?_
                        refine ab_iload_n d_MO_posix_273 rfl ?_
                        refine ab_callV (d' := d - 1) (as := [vz 10, vz 0]) (st := []) (r := _) (z_MO_gatherNamed (o := o) (m_thrown := m_thrown) (m_taped := m_taped) (m_length := m_length) (m_out := m_out) (m_wide := m_wide) (m_gathered := m_gathered) (m_sets := m_sets) (m_ranges := m_ranges) (m_nodes := m_nodes) (m_at := ((m_at + 2) + 0)) (m_flags := m_flags) (m_fault := m_fault) (m_place := m_place) (m_numbered := m_numbered) (m_depth := m_depth) (m_value := m_value) (m_isNot := m_isNot) (m_least0 := m_least0) (m_most0 := m_most0) (m_slot := m_slot) (m_work := m_work) (m_got := m_got) (m_rowMany := m_rowMany) (m_charAt := m_charAt) (m_charWide := m_charWide) (m_trail := m_trail) (m_isMatch := m_isMatch) (m_matchGroups := m_matchGroups) (m_allFrom := m_allFrom) (m_allBefore := m_allBefore) (m_founds := m_founds) (m_pieces := m_pieces) (m_writtenMany := m_writtenMany) (m_templateWide := m_templateWide) (m_tooMuch := m_tooMuch) (LO := LO) (HI := HI) (MK := MK) (P := P) (w := 10) (nt := 0) (mm := mm) h80 h87 h88 h81 h82 (by omega) (by omega) jc jl (by omega)) (fun oc G2 h => by rcases h with ⟨_, _, _, _, h, _⟩ <;> exact ⟨_, h⟩) (by omega) m_MO_gatherNamed ml_MO_337 im_MO_gatherNamed se_MO_gatherNamed c_MO h80.2.2 (Nat.le_of_ble_eq_true rfl) d_MO_posix_274 rfl ?_
                        intro v G93 hq
                        rcases hq with ⟨g294, LO295, HI296, P297, hv, hfk, hlk, hsk, hN80, hN87, hN88, hq98, hq99, hq100, hq101⟩
                        cases hv
                        have h84 := hfk.get h84 (by decide)
                        have h81 := hfk.get h81 (by decide)
                        have h82 := hfk.get h82 (by decide)
                        have hfr := hfr.tr hfk (by decide)
                        have hlen := hlk.trans hlen
                        have hsl := hsk.trans hsl
                        have h80 := hN80
                        have h87 := hN87
                        have h88 := hN88
                        change ab_W _ _ _ G93 277 [some (vR 80), some (vz m_at), some (vz 0), some (vz m_taped), some (vz 10)] [] _
                        refine ab_aload_n d_MO_posix_277 rfl ?_
                        refine ab_dup d_MO_posix_278 rfl ?_
                        refine ab_getf (fs := mof m_thrown m_taped m_length m_out m_wide g294 m_sets m_ranges m_nodes ((m_at + 2) + 0) m_flags m_fault m_place m_numbered m_depth m_value m_isNot m_least0 m_most0 m_slot m_work m_got m_rowMany m_charAt m_charWide m_trail m_isMatch m_matchGroups m_allFrom m_allBefore m_founds m_pieces m_writtenMany m_templateWide m_tooMuch) f_MO_279 d_MO_posix_279 h80.2.2 rfl ?_
                        refine zz_bipush d_MO_posix_282 (by decide) ?_
                        refine zz_iadd d_MO_posix_284 ?_
                        refine ab_putf (fs := mof m_thrown m_taped m_length m_out m_wide g294 m_sets m_ranges m_nodes ((m_at + 2) + 0) m_flags m_fault m_place m_numbered m_depth m_value m_isNot m_least0 m_most0 m_slot m_work m_got m_rowMany m_charAt m_charWide m_trail m_isMatch m_matchGroups m_allFrom m_allBefore m_founds m_pieces m_writtenMany m_templateWide m_tooMuch) f_MO_279 (Or.inl rfl) d_MO_posix_285 h80.2.2 (Nat.le_of_ble_eq_true rfl) (fun _ => ⟨rfl, rfl⟩) (h80.2.1 (by decide)) ?_
                        obtain ⟨G102, eG102⟩ : ∃ z : ab_G, z = List.set G93 80 (ab_ob 12 (mof m_thrown m_taped m_length m_out m_wide g294 m_sets m_ranges m_nodes (((m_at + 2) + 0) + 7) m_flags m_fault m_place m_numbered m_depth m_value m_isNot m_least0 m_most0 m_slot m_work m_got m_rowMany m_charAt m_charWide m_trail m_isMatch m_matchGroups m_allFrom m_allBefore m_founds m_pieces m_writtenMany m_templateWide m_tooMuch)) := ⟨_, rfl⟩
                        have h84 := h84.keep h80 eG102 (by decide)
                        have h87 := h87.keep h80 eG102 (by decide)
                        have h88 := h88.keep h80 eG102 (by decide)
                        have h81 := h81.keep h80 eG102 (by decide)
                        have h82 := h82.keep h80 eG102 (by decide)
                        have hlen := (z_len eG102).trans hlen
                        have hsl := (z_sl h80 eG102 rfl).trans hsl
                        have hfr := hfr.wr h80 eG102 (by decide)
                        have h80 := h80.kept eG102
                        change ab_W _ _ _ (List.set G93 80 (ab_ob 12 (mof m_thrown m_taped m_length m_out m_wide g294 m_sets m_ranges m_nodes (((m_at + 2) + 0) + 7) m_flags m_fault m_place m_numbered m_depth m_value m_isNot m_least0 m_most0 m_slot m_work m_got m_rowMany m_charAt m_charWide m_trail m_isMatch m_matchGroups m_allFrom m_allBefore m_founds m_pieces m_writtenMany m_templateWide m_tooMuch))) 288 [some (vR 80), some (vz m_at), some (vz 0), some (vz m_taped), some (vz 10)] [] _
                        rw [← eG102]
                        refine ab_vret rfl d_MO_posix_288 ?_
                        rw [hQ]; exact (Or.inr ⟨_, _, _, _, _, rfl, hfr, hlen, hsl, h80, h87, h88, (by omega), (by exact hq100), (by exact lfc_w hq101 (by omega))⟩)
                      · refine ab_aload_n d_MO_posix_262 rfl ?_
                        refine zz_bipush d_MO_posix_263 (by decide) ?_
                        refine ab_iload_n d_MO_posix_265 rfl ?_
                        refine ab_callV (d' := d - 1) (as := [vz 7, vz m_at]) (st := []) (r := _) (z_MO_wrong (o := o) (m_thrown := m_thrown) (m_taped := m_taped) (m_length := m_length) (m_out := m_out) (m_wide := m_wide) (m_gathered := m_gathered) (m_sets := m_sets) (m_ranges := m_ranges) (m_nodes := m_nodes) (m_at := ((m_at + 2) + 0)) (m_flags := m_flags) (m_fault := m_fault) (m_place := m_place) (m_numbered := m_numbered) (m_depth := m_depth) (m_value := m_value) (m_isNot := m_isNot) (m_least0 := m_least0) (m_most0 := m_most0) (m_slot := m_slot) (m_work := m_work) (m_got := m_got) (m_rowMany := m_rowMany) (m_charAt := m_charAt) (m_charWide := m_charWide) (m_trail := m_trail) (m_isMatch := m_isMatch) (m_matchGroups := m_matchGroups) (m_allFrom := m_allFrom) (m_allBefore := m_allBefore) (m_founds := m_founds) (m_pieces := m_pieces) (m_writtenMany := m_writtenMany) (m_templateWide := m_templateWide) (m_tooMuch := m_tooMuch) (x := 7) (y := m_at) h80 (by omega) (by omega)) (fun oc G2 h => by rcases h with ⟨_, _, h, _⟩ <;> exact ⟨_, h⟩) (by omega) m_MO_wrong ml_MO_304 im_MO_wrong se_MO_wrong c_MO h80.2.2 (Nat.le_of_ble_eq_true rfl) d_MO_posix_266 rfl ?_
                        intro v G103 hq
                        rcases hq with ⟨f2104, p2105, hv, hfk, hlk, hsk, hN80, hq106⟩
                        cases hv
                        have h84 := hfk.get h84 (by decide)
                        have h87 := hfk.get h87 (by decide)
                        have h88 := hfk.get h88 (by decide)
                        have h81 := hfk.get h81 (by decide)
                        have h82 := hfk.get h82 (by decide)
                        have hfr := hfr.tr hfk (by decide)
                        have hlen := hlk.trans hlen
                        have hsl := hsk.trans hsl
                        have h80 := hN80
                        change ab_W _ _ _ G103 269 [some (vR 80), some (vz m_at), some (vz 0), some (vz m_taped), some (vz 10)] [] _
                        refine ab_vret rfl d_MO_posix_269 ?_
                        rw [hQ]; exact (Or.inl ⟨_, _, _, rfl, hfr, hlen, hsl, h80, h87, h88, (by omega)⟩)
                    · cases hv
                      rw [hGe]
                      change ab_W _ _ _ G7 257 [some (vR 80), some (vz m_at), some (vz 0), some (vz m_taped), some (vz 10)] [vz (-1)] _
                      refine zz_bipush d_MO_posix_257 (by decide) ?_
                      refine zz_icmp_eq (tgt := 270) d_MO_posix_259 (by decide) (by decide) (by decide) (fun c107 => absurd c107 (by decide)) (fun c107 => ?_)
                      refine ab_aload_n d_MO_posix_262 rfl ?_
                      refine zz_bipush d_MO_posix_263 (by decide) ?_
                      refine ab_iload_n d_MO_posix_265 rfl ?_
                      refine ab_callV (d' := d - 1) (as := [vz 7, vz m_at]) (st := []) (r := _) (z_MO_wrong (o := o) (m_thrown := m_thrown) (m_taped := m_taped) (m_length := m_length) (m_out := m_out) (m_wide := m_wide) (m_gathered := m_gathered) (m_sets := m_sets) (m_ranges := m_ranges) (m_nodes := m_nodes) (m_at := ((m_at + 2) + 0)) (m_flags := m_flags) (m_fault := m_fault) (m_place := m_place) (m_numbered := m_numbered) (m_depth := m_depth) (m_value := m_value) (m_isNot := m_isNot) (m_least0 := m_least0) (m_most0 := m_most0) (m_slot := m_slot) (m_work := m_work) (m_got := m_got) (m_rowMany := m_rowMany) (m_charAt := m_charAt) (m_charWide := m_charWide) (m_trail := m_trail) (m_isMatch := m_isMatch) (m_matchGroups := m_matchGroups) (m_allFrom := m_allFrom) (m_allBefore := m_allBefore) (m_founds := m_founds) (m_pieces := m_pieces) (m_writtenMany := m_writtenMany) (m_templateWide := m_templateWide) (m_tooMuch := m_tooMuch) (x := 7) (y := m_at) h80 (by omega) (by omega)) (fun oc G2 h => by rcases h with ⟨_, _, h, _⟩ <;> exact ⟨_, h⟩) (by omega) m_MO_wrong ml_MO_304 im_MO_wrong se_MO_wrong c_MO h80.2.2 (Nat.le_of_ble_eq_true rfl) d_MO_posix_266 rfl ?_
                      intro v G108 hq
                      rcases hq with ⟨f2109, p2110, hv, hfk, hlk, hsk, hN80, hq111⟩
                      cases hv
                      have h84 := hfk.get h84 (by decide)
                      have h87 := hfk.get h87 (by decide)
                      have h88 := hfk.get h88 (by decide)
                      have h81 := hfk.get h81 (by decide)
                      have h82 := hfk.get h82 (by decide)
                      have hfr := hfr.tr hfk (by decide)
                      have hlen := hlk.trans hlen
                      have hsl := hsk.trans hsl
                      have h80 := hN80
                      change ab_W _ _ _ G108 269 [some (vR 80), some (vz m_at), some (vz 0), some (vz m_taped), some (vz 10)] [] _
                      refine ab_vret rfl d_MO_posix_269 ?_
                      rw [hQ]; exact (Or.inl ⟨_, _, _, rfl, hfr, hlen, hsl, h80, h87, h88, (by omega)⟩)
                · cases hv
                  rw [hGe]
                  change ab_W _ _ _ G7 246 [some (vR 80), some (vz m_at), some (vz 0), some (vz m_taped), some (vz 10)] [vz (-1)] _
                  refine zz_bipush d_MO_posix_246 (by decide) ?_
                  refine zz_icmp_ne (tgt := 262) d_MO_posix_248 (by decide) (by decide) (by decide) (fun c112 => ?_) (fun c112 => absurd c112 (by decide))
                  refine ab_aload_n d_MO_posix_262 rfl ?_
                  refine zz_bipush d_MO_posix_263 (by decide) ?_
                  refine ab_iload_n d_MO_posix_265 rfl ?_
                  refine ab_callV (d' := d - 1) (as := [vz 7, vz m_at]) (st := []) (r := _) (z_MO_wrong (o := o) (m_thrown := m_thrown) (m_taped := m_taped) (m_length := m_length) (m_out := m_out) (m_wide := m_wide) (m_gathered := m_gathered) (m_sets := m_sets) (m_ranges := m_ranges) (m_nodes := m_nodes) (m_at := ((m_at + 2) + 0)) (m_flags := m_flags) (m_fault := m_fault) (m_place := m_place) (m_numbered := m_numbered) (m_depth := m_depth) (m_value := m_value) (m_isNot := m_isNot) (m_least0 := m_least0) (m_most0 := m_most0) (m_slot := m_slot) (m_work := m_work) (m_got := m_got) (m_rowMany := m_rowMany) (m_charAt := m_charAt) (m_charWide := m_charWide) (m_trail := m_trail) (m_isMatch := m_isMatch) (m_matchGroups := m_matchGroups) (m_allFrom := m_allFrom) (m_allBefore := m_allBefore) (m_founds := m_founds) (m_pieces := m_pieces) (m_writtenMany := m_writtenMany) (m_templateWide := m_templateWide) (m_tooMuch := m_tooMuch) (x := 7) (y := m_at) h80 (by omega) (by omega)) (fun oc G2 h => by rcases h with ⟨_, _, h, _⟩ <;> exact ⟨_, h⟩) (by omega) m_MO_wrong ml_MO_304 im_MO_wrong se_MO_wrong c_MO h80.2.2 (Nat.le_of_ble_eq_true rfl) d_MO_posix_266 rfl ?_
                  intro v G113 hq
                  rcases hq with ⟨f2114, p2115, hv, hfk, hlk, hsk, hN80, hq116⟩
                  cases hv
                  have h84 := hfk.get h84 (by decide)
                  have h87 := hfk.get h87 (by decide)
                  have h88 := hfk.get h88 (by decide)
                  have h81 := hfk.get h81 (by decide)
                  have h82 := hfk.get h82 (by decide)
                  have hfr := hfr.tr hfk (by decide)
                  have hlen := hlk.trans hlen
                  have hsl := hsk.trans hsl
                  have h80 := hN80
                  change ab_W _ _ _ G113 269 [some (vR 80), some (vz m_at), some (vz 0), some (vz m_taped), some (vz 10)] [] _
                  refine ab_vret rfl d_MO_posix_269 ?_
                  rw [hQ]; exact (Or.inl ⟨_, _, _, rfl, hfr, hlen, hsl, h80, h87, h88, (by omega)⟩)
            · refine zz_bipush d_MO_posix_168 (by decide) ?_
              refine ab_goto (tgt := 234) d_MO_posix_170 (by decide) ?_
              refine ab_istore d_MO_posix_234 (Nat.le_of_ble_eq_true rfl) (Nat.le_of_ble_eq_true rfl) rfl ?_
              change ab_W _ _ _ G7 236 [some (vR 80), some (vz m_at), some (vz 0), some (vz m_taped), some (vz 9)] [] _
              refine ab_iload d_MO_posix_236 rfl ?_
              refine zz_if_lt (tgt := 262) d_MO_posix_238 (by decide) (by decide) (fun c117 => absurd c117 (by decide)) (fun c117 => ?_)
              refine ab_aload_n d_MO_posix_241 rfl ?_
              refine zz_iconst d_MO_posix_242 ?_
              refine ab_callV (d' := d - 1) (as := [vz 5]) (st := []) (r := _) (z_MO_here (o := o) (m_thrown := m_thrown) (m_taped := m_taped) (m_length := m_length) (m_out := m_out) (m_wide := m_wide) (m_gathered := m_gathered) (m_sets := m_sets) (m_ranges := m_ranges) (m_nodes := m_nodes) (m_at := ((m_at + 2) + 0)) (m_flags := m_flags) (m_fault := m_fault) (m_place := m_place) (m_numbered := m_numbered) (m_depth := m_depth) (m_value := m_value) (m_isNot := m_isNot) (m_least0 := m_least0) (m_most0 := m_most0) (m_slot := m_slot) (m_work := m_work) (m_got := m_got) (m_rowMany := m_rowMany) (m_charAt := m_charAt) (m_charWide := m_charWide) (m_trail := m_trail) (m_isMatch := m_isMatch) (m_matchGroups := m_matchGroups) (m_allFrom := m_allFrom) (m_allBefore := m_allBefore) (m_founds := m_founds) (m_pieces := m_pieces) (m_writtenMany := m_writtenMany) (m_templateWide := m_templateWide) (m_tooMuch := m_tooMuch) (A_tape := A_tape) (k := 5) h80 h84 (by omega) (by omega) jtp (by omega)) (fun oc G2 h => by rcases h with ⟨h, _⟩ | ⟨h, _⟩ <;> exact ⟨_, h⟩) (by omega) m_MO_here ml_MO_297 im_MO_here se_MO_here c_MO h80.2.2 (Nat.le_of_ble_eq_true rfl) d_MO_posix_243 rfl ?_
              intro v G118 hq
              rcases hq with ⟨hv, hGe, hq119⟩ | ⟨hv, hGe, hq120⟩
              · cases hv
                rw [hGe]
                change ab_W _ _ _ G7 246 [some (vR 80), some (vz m_at), some (vz 0), some (vz m_taped), some (vz 9)] [vz (A_tape (((m_at + 2) + 0) + 5))] _
                refine zz_bipush d_MO_posix_246 (by decide) ?_
                refine zz_icmp_ne (tgt := 262) d_MO_posix_248 (by decide) (by omega) (by decide) (fun c121 => ?_) (fun c121 => ?_)
                · refine ab_aload_n d_MO_posix_262 rfl ?_
                  refine zz_bipush d_MO_posix_263 (by decide) ?_
                  refine ab_iload_n d_MO_posix_265 rfl ?_
                  refine ab_callV (d' := d - 1) (as := [vz 7, vz m_at]) (st := []) (r := _) (z_MO_wrong (o := o) (m_thrown := m_thrown) (m_taped := m_taped) (m_length := m_length) (m_out := m_out) (m_wide := m_wide) (m_gathered := m_gathered) (m_sets := m_sets) (m_ranges := m_ranges) (m_nodes := m_nodes) (m_at := ((m_at + 2) + 0)) (m_flags := m_flags) (m_fault := m_fault) (m_place := m_place) (m_numbered := m_numbered) (m_depth := m_depth) (m_value := m_value) (m_isNot := m_isNot) (m_least0 := m_least0) (m_most0 := m_most0) (m_slot := m_slot) (m_work := m_work) (m_got := m_got) (m_rowMany := m_rowMany) (m_charAt := m_charAt) (m_charWide := m_charWide) (m_trail := m_trail) (m_isMatch := m_isMatch) (m_matchGroups := m_matchGroups) (m_allFrom := m_allFrom) (m_allBefore := m_allBefore) (m_founds := m_founds) (m_pieces := m_pieces) (m_writtenMany := m_writtenMany) (m_templateWide := m_templateWide) (m_tooMuch := m_tooMuch) (x := 7) (y := m_at) h80 (by omega) (by omega)) (fun oc G2 h => by rcases h with ⟨_, _, h, _⟩ <;> exact ⟨_, h⟩) (by omega) m_MO_wrong ml_MO_304 im_MO_wrong se_MO_wrong c_MO h80.2.2 (Nat.le_of_ble_eq_true rfl) d_MO_posix_266 rfl ?_
                  intro v G122 hq
                  rcases hq with ⟨f2123, p2124, hv, hfk, hlk, hsk, hN80, hq125⟩
                  cases hv
                  have h84 := hfk.get h84 (by decide)
                  have h87 := hfk.get h87 (by decide)
                  have h88 := hfk.get h88 (by decide)
                  have h81 := hfk.get h81 (by decide)
                  have h82 := hfk.get h82 (by decide)
                  have hfr := hfr.tr hfk (by decide)
                  have hlen := hlk.trans hlen
                  have hsl := hsk.trans hsl
                  have h80 := hN80
                  change ab_W _ _ _ G122 269 [some (vR 80), some (vz m_at), some (vz 0), some (vz m_taped), some (vz 9)] [] _
                  refine ab_vret rfl d_MO_posix_269 ?_
                  rw [hQ]; exact (Or.inl ⟨_, _, _, rfl, hfr, hlen, hsl, h80, h87, h88, (by omega)⟩)
                · refine ab_aload_n d_MO_posix_251 rfl ?_
                  refine zz_bipush d_MO_posix_252 (by decide) ?_
                  refine ab_callV (d' := d - 1) (as := [vz 6]) (st := []) (r := _) (z_MO_here (o := o) (m_thrown := m_thrown) (m_taped := m_taped) (m_length := m_length) (m_out := m_out) (m_wide := m_wide) (m_gathered := m_gathered) (m_sets := m_sets) (m_ranges := m_ranges) (m_nodes := m_nodes) (m_at := ((m_at + 2) + 0)) (m_flags := m_flags) (m_fault := m_fault) (m_place := m_place) (m_numbered := m_numbered) (m_depth := m_depth) (m_value := m_value) (m_isNot := m_isNot) (m_least0 := m_least0) (m_most0 := m_most0) (m_slot := m_slot) (m_work := m_work) (m_got := m_got) (m_rowMany := m_rowMany) (m_charAt := m_charAt) (m_charWide := m_charWide) (m_trail := m_trail) (m_isMatch := m_isMatch) (m_matchGroups := m_matchGroups) (m_allFrom := m_allFrom) (m_allBefore := m_allBefore) (m_founds := m_founds) (m_pieces := m_pieces) (m_writtenMany := m_writtenMany) (m_templateWide := m_templateWide) (m_tooMuch := m_tooMuch) (A_tape := A_tape) (k := 6) h80 h84 (by omega) (by omega) jtp (by omega)) (fun oc G2 h => by rcases h with ⟨h, _⟩ | ⟨h, _⟩ <;> exact ⟨_, h⟩) (by omega) m_MO_here ml_MO_297 im_MO_here se_MO_here c_MO h80.2.2 (Nat.le_of_ble_eq_true rfl) d_MO_posix_254 rfl ?_
                  intro v G126 hq
                  rcases hq with ⟨hv, hGe, hq127⟩ | ⟨hv, hGe, hq128⟩
                  · cases hv
                    rw [hGe]
                    change ab_W _ _ _ G7 257 [some (vR 80), some (vz m_at), some (vz 0), some (vz m_taped), some (vz 9)] [vz (A_tape (((m_at + 2) + 0) + 6))] _
                    refine zz_bipush d_MO_posix_257 (by decide) ?_
                    refine zz_icmp_eq (tgt := 270) d_MO_posix_259 (by decide) (by omega) (by decide) (fun c129 => ?_) (fun c129 => ?_)
                    · refine ab_aload_n d_MO_posix_270 rfl ?_
                      refine ab_iload d_MO_posix_271 rfl ?_
                      refine ab_iload_n d_MO_posix_273 rfl ?_
                      refine ab_callV (d' := d - 1) (as := [vz 9, vz 0]) (st := []) (r := _) (z_MO_gatherNamed (o := o) (m_thrown := m_thrown) (m_taped := m_taped) (m_length := m_length) (m_out := m_out) (m_wide := m_wide) (m_gathered := m_gathered) (m_sets := m_sets) (m_ranges := m_ranges) (m_nodes := m_nodes) (m_at := ((m_at + 2) + 0)) (m_flags := m_flags) (m_fault := m_fault) (m_place := m_place) (m_numbered := m_numbered) (m_depth := m_depth) (m_value := m_value) (m_isNot := m_isNot) (m_least0 := m_least0) (m_most0 := m_most0) (m_slot := m_slot) (m_work := m_work) (m_got := m_got) (m_rowMany := m_rowMany) (m_charAt := m_charAt) (m_charWide := m_charWide) (m_trail := m_trail) (m_isMatch := m_isMatch) (m_matchGroups := m_matchGroups) (m_allFrom := m_allFrom) (m_allBefore := m_allBefore) (m_founds := m_founds) (m_pieces := m_pieces) (m_writtenMany := m_writtenMany) (m_templateWide := m_templateWide) (m_tooMuch := m_tooMuch) (LO := LO) (HI := HI) (MK := MK) (P := P) (w := 9) (nt := 0) (mm := mm) h80 h87 h88 h81 h82 (by omega) (by omega) jc jl (by omega)) (fun oc G2 h => by rcases h with ⟨_, _, _, _, h, _⟩ <;> exact ⟨_, h⟩) (by omega) m_MO_gatherNamed ml_MO_337 im_MO_gatherNamed se_MO_gatherNamed c_MO h80.2.2 (Nat.le_of_ble_eq_true rfl) d_MO_posix_274 rfl ?_
                      intro v G130 hq
                      rcases hq with ⟨g2131, LO2132, HI2133, P2134, hv, hfk, hlk, hsk, hN80, hN87, hN88, hq135, hq136, hq137, hq138⟩
                      cases hv
                      have h84 := hfk.get h84 (by decide)
                      have h81 := hfk.get h81 (by decide)
                      have h82 := hfk.get h82 (by decide)
                      have hfr := hfr.tr hfk (by decide)
                      have hlen := hlk.trans hlen
                      have hsl := hsk.trans hsl
                      have h80 := hN80
                      have h87 := hN87
                      have h88 := hN88
                      change ab_W _ _ _ G130 277 [some (vR 80), some (vz m_at), some (vz 0), some (vz m_taped), some (vz 9)] [] _
                      refine ab_aload_n d_MO_posix_277 rfl ?_
                      refine ab_dup d_MO_posix_278 rfl ?_
                      refine ab_getf (fs := mof m_thrown m_taped m_length m_out m_wide g2131 m_sets m_ranges m_nodes ((m_at + 2) + 0) m_flags m_fault m_place m_numbered m_depth m_value m_isNot m_least0 m_most0 m_slot m_work m_got m_rowMany m_charAt m_charWide m_trail m_isMatch m_matchGroups m_allFrom m_allBefore m_founds m_pieces m_writtenMany m_templateWide m_tooMuch) f_MO_279 d_MO_posix_279 h80.2.2 rfl ?_
                      refine zz_bipush d_MO_posix_282 (by decide) ?_
                      refine zz_iadd d_MO_posix_284 ?_
                      refine ab_putf (fs := mof m_thrown m_taped m_length m_out m_wide g2131 m_sets m_ranges m_nodes ((m_at + 2) + 0) m_flags m_fault m_place m_numbered m_depth m_value m_isNot m_least0 m_most0 m_slot m_work m_got m_rowMany m_charAt m_charWide m_trail m_isMatch m_matchGroups m_allFrom m_allBefore m_founds m_pieces m_writtenMany m_templateWide m_tooMuch) f_MO_279 (Or.inl rfl) d_MO_posix_285 h80.2.2 (Nat.le_of_ble_eq_true rfl) (fun _ => ⟨rfl, rfl⟩) (h80.2.1 (by decide)) ?_
                      obtain ⟨G139, eG139⟩ : ∃ z : ab_G, z = List.set G130 80 (ab_ob 12 (mof m_thrown m_taped m_length m_out m_wide g2131 m_sets m_ranges m_nodes (((m_at + 2) + 0) + 7) m_flags m_fault m_place m_numbered m_depth m_value m_isNot m_least0 m_most0 m_slot m_work m_got m_rowMany m_charAt m_charWide m_trail m_isMatch m_matchGroups m_allFrom m_allBefore m_founds m_pieces m_writtenMany m_templateWide m_tooMuch)) := ⟨_, rfl⟩
                      have h84 := h84.keep h80 eG139 (by decide)
                      have h87 := h87.keep h80 eG139 (by decide)
                      have h88 := h88.keep h80 eG139 (by decide)
                      have h81 := h81.keep h80 eG139 (by decide)
                      have h82 := h82.keep h80 eG139 (by decide)
                      have hlen := (z_len eG139).trans hlen
                      have hsl := (z_sl h80 eG139 rfl).trans hsl
                      have hfr := hfr.wr h80 eG139 (by decide)
                      have h80 := h80.kept eG139
                      change ab_W _ _ _ (List.set G130 80 (ab_ob 12 (mof m_thrown m_taped m_length m_out m_wide g2131 m_sets m_ranges m_nodes (((m_at + 2) + 0) + 7) m_flags m_fault m_place m_numbered m_depth m_value m_isNot m_least0 m_most0 m_slot m_work m_got m_rowMany m_charAt m_charWide m_trail m_isMatch m_matchGroups m_allFrom m_allBefore m_founds m_pieces m_writtenMany m_templateWide m_tooMuch))) 288 [some (vR 80), some (vz m_at), some (vz 0), some (vz m_taped), some (vz 9)] [] _
                      rw [← eG139]
                      refine ab_vret rfl d_MO_posix_288 ?_
                      rw [hQ]; exact (Or.inr ⟨_, _, _, _, _, rfl, hfr, hlen, hsl, h80, h87, h88, (by omega), (by exact hq137), (by exact lfc_w hq138 (by omega))⟩)
                    · refine ab_aload_n d_MO_posix_262 rfl ?_
                      refine zz_bipush d_MO_posix_263 (by decide) ?_
                      refine ab_iload_n d_MO_posix_265 rfl ?_
                      refine ab_callV (d' := d - 1) (as := [vz 7, vz m_at]) (st := []) (r := _) (z_MO_wrong (o := o) (m_thrown := m_thrown) (m_taped := m_taped) (m_length := m_length) (m_out := m_out) (m_wide := m_wide) (m_gathered := m_gathered) (m_sets := m_sets) (m_ranges := m_ranges) (m_nodes := m_nodes) (m_at := ((m_at + 2) + 0)) (m_flags := m_flags) (m_fault := m_fault) (m_place := m_place) (m_numbered := m_numbered) (m_depth := m_depth) (m_value := m_value) (m_isNot := m_isNot) (m_least0 := m_least0) (m_most0 := m_most0) (m_slot := m_slot) (m_work := m_work) (m_got := m_got) (m_rowMany := m_rowMany) (m_charAt := m_charAt) (m_charWide := m_charWide) (m_trail := m_trail) (m_isMatch := m_isMatch) (m_matchGroups := m_matchGroups) (m_allFrom := m_allFrom) (m_allBefore := m_allBefore) (m_founds := m_founds) (m_pieces := m_pieces) (m_writtenMany := m_writtenMany) (m_templateWide := m_templateWide) (m_tooMuch := m_tooMuch) (x := 7) (y := m_at) h80 (by omega) (by omega)) (fun oc G2 h => by rcases h with ⟨_, _, h, _⟩ <;> exact ⟨_, h⟩) (by omega) m_MO_wrong ml_MO_304 im_MO_wrong se_MO_wrong c_MO h80.2.2 (Nat.le_of_ble_eq_true rfl) d_MO_posix_266 rfl ?_
                      intro v G140 hq
                      rcases hq with ⟨f2141, p2142, hv, hfk, hlk, hsk, hN80, hq143⟩
                      cases hv
                      have h84 := hfk.get h84 (by decide)
                      have h87 := hfk.get h87 (by decide)
                      have h88 := hfk.get h88 (by decide)
                      have h81 := hfk.get h81 (by decide)
                      have h82 := hfk.get h82 (by decide)
                      have hfr := hfr.tr hfk (by decide)
                      have hlen := hlk.trans hlen
                      have hsl := hsk.trans hsl
                      have h80 := hN80
                      change ab_W _ _ _ G140 269 [some (vR 80), some (vz m_at), some (vz 0), some (vz m_taped), some (vz 9)] [] _
                      refine ab_vret rfl d_MO_posix_269 ?_
                      rw [hQ]; exact (Or.inl ⟨_, _, _, rfl, hfr, hlen, hsl, h80, h87, h88, (by omega)⟩)
                  · cases hv
                    rw [hGe]
                    change ab_W _ _ _ G7 257 [some (vR 80), some (vz m_at), some (vz 0), some (vz m_taped), some (vz 9)] [vz (-1)] _
                    refine zz_bipush d_MO_posix_257 (by decide) ?_
                    refine zz_icmp_eq (tgt := 270) d_MO_posix_259 (by decide) (by decide) (by decide) (fun c144 => absurd c144 (by decide)) (fun c144 => ?_)
                    refine ab_aload_n d_MO_posix_262 rfl ?_
                    refine zz_bipush d_MO_posix_263 (by decide) ?_
                    refine ab_iload_n d_MO_posix_265 rfl ?_
                    refine ab_callV (d' := d - 1) (as := [vz 7, vz m_at]) (st := []) (r := _) (z_MO_wrong (o := o) (m_thrown := m_thrown) (m_taped := m_taped) (m_length := m_length) (m_out := m_out) (m_wide := m_wide) (m_gathered := m_gathered) (m_sets := m_sets) (m_ranges := m_ranges) (m_nodes := m_nodes) (m_at := ((m_at + 2) + 0)) (m_flags := m_flags) (m_fault := m_fault) (m_place := m_place) (m_numbered := m_numbered) (m_depth := m_depth) (m_value := m_value) (m_isNot := m_isNot) (m_least0 := m_least0) (m_most0 := m_most0) (m_slot := m_slot) (m_work := m_work) (m_got := m_got) (m_rowMany := m_rowMany) (m_charAt := m_charAt) (m_charWide := m_charWide) (m_trail := m_trail) (m_isMatch := m_isMatch) (m_matchGroups := m_matchGroups) (m_allFrom := m_allFrom) (m_allBefore := m_allBefore) (m_founds := m_founds) (m_pieces := m_pieces) (m_writtenMany := m_writtenMany) (m_templateWide := m_templateWide) (m_tooMuch := m_tooMuch) (x := 7) (y := m_at) h80 (by omega) (by omega)) (fun oc G2 h => by rcases h with ⟨_, _, h, _⟩ <;> exact ⟨_, h⟩) (by omega) m_MO_wrong ml_MO_304 im_MO_wrong se_MO_wrong c_MO h80.2.2 (Nat.le_of_ble_eq_true rfl) d_MO_posix_266 rfl ?_
                    intro v G145 hq
                    rcases hq with ⟨f2146, p2147, hv, hfk, hlk, hsk, hN80, hq148⟩
                    cases hv
                    have h84 := hfk.get h84 (by decide)
                    have h87 := hfk.get h87 (by decide)
                    have h88 := hfk.get h88 (by decide)
                    have h81 := hfk.get h81 (by decide)
                    have h82 := hfk.get h82 (by decide)
                    have hfr := hfr.tr hfk (by decide)
                    have hlen := hlk.trans hlen
                    have hsl := hsk.trans hsl
                    have h80 := hN80
                    change ab_W _ _ _ G145 269 [some (vR 80), some (vz m_at), some (vz 0), some (vz m_taped), some (vz 9)] [] _
                    refine ab_vret rfl d_MO_posix_269 ?_
                    rw [hQ]; exact (Or.inl ⟨_, _, _, rfl, hfr, hlen, hsl, h80, h87, h88, (by omega)⟩)
              · cases hv
                rw [hGe]
                change ab_W _ _ _ G7 246 [some (vR 80), some (vz m_at), some (vz 0), some (vz m_taped), some (vz 9)] [vz (-1)] _
                refine zz_bipush d_MO_posix_246 (by decide) ?_
                refine zz_icmp_ne (tgt := 262) d_MO_posix_248 (by decide) (by decide) (by decide) (fun c149 => ?_) (fun c149 => absurd c149 (by decide))
                refine ab_aload_n d_MO_posix_262 rfl ?_
                refine zz_bipush d_MO_posix_263 (by decide) ?_
                refine ab_iload_n d_MO_posix_265 rfl ?_
                refine ab_callV (d' := d - 1) (as := [vz 7, vz m_at]) (st := []) (r := _) (z_MO_wrong (o := o) (m_thrown := m_thrown) (m_taped := m_taped) (m_length := m_length) (m_out := m_out) (m_wide := m_wide) (m_gathered := m_gathered) (m_sets := m_sets) (m_ranges := m_ranges) (m_nodes := m_nodes) (m_at := ((m_at + 2) + 0)) (m_flags := m_flags) (m_fault := m_fault) (m_place := m_place) (m_numbered := m_numbered) (m_depth := m_depth) (m_value := m_value) (m_isNot := m_isNot) (m_least0 := m_least0) (m_most0 := m_most0) (m_slot := m_slot) (m_work := m_work) (m_got := m_got) (m_rowMany := m_rowMany) (m_charAt := m_charAt) (m_charWide := m_charWide) (m_trail := m_trail) (m_isMatch := m_isMatch) (m_matchGroups := m_matchGroups) (m_allFrom := m_allFrom) (m_allBefore := m_allBefore) (m_founds := m_founds) (m_pieces := m_pieces) (m_writtenMany := m_writtenMany) (m_templateWide := m_templateWide) (m_tooMuch := m_tooMuch) (x := 7) (y := m_at) h80 (by omega) (by omega)) (fun oc G2 h => by rcases h with ⟨_, _, h, _⟩ <;> exact ⟨_, h⟩) (by omega) m_MO_wrong ml_MO_304 im_MO_wrong se_MO_wrong c_MO h80.2.2 (Nat.le_of_ble_eq_true rfl) d_MO_posix_266 rfl ?_
                intro v G150 hq
                rcases hq with ⟨f2151, p2152, hv, hfk, hlk, hsk, hN80, hq153⟩
                cases hv
                have h84 := hfk.get h84 (by decide)
                have h87 := hfk.get h87 (by decide)
                have h88 := hfk.get h88 (by decide)
                have h81 := hfk.get h81 (by decide)
                have h82 := hfk.get h82 (by decide)
                have hfr := hfr.tr hfk (by decide)
                have hlen := hlk.trans hlen
                have hsl := hsk.trans hsl
                have h80 := hN80
                change ab_W _ _ _ G150 269 [some (vR 80), some (vz m_at), some (vz 0), some (vz m_taped), some (vz 9)] [] _
                refine ab_vret rfl d_MO_posix_269 ?_
                rw [hQ]; exact (Or.inl ⟨_, _, _, rfl, hfr, hlen, hsl, h80, h87, h88, (by omega)⟩)
          · refine zz_bipush d_MO_posix_138 (by decide) ?_
            refine ab_goto (tgt := 234) d_MO_posix_140 (by decide) ?_
            refine ab_istore d_MO_posix_234 (Nat.le_of_ble_eq_true rfl) (Nat.le_of_ble_eq_true rfl) rfl ?_
            change ab_W _ _ _ G7 236 [some (vR 80), some (vz m_at), some (vz 0), some (vz m_taped), some (vz 8)] [] _
            refine ab_iload d_MO_posix_236 rfl ?_
            refine zz_if_lt (tgt := 262) d_MO_posix_238 (by decide) (by decide) (fun c154 => absurd c154 (by decide)) (fun c154 => ?_)
            refine ab_aload_n d_MO_posix_241 rfl ?_
            refine zz_iconst d_MO_posix_242 ?_
            refine ab_callV (d' := d - 1) (as := [vz 5]) (st := []) (r := _) (z_MO_here (o := o) (m_thrown := m_thrown) (m_taped := m_taped) (m_length := m_length) (m_out := m_out) (m_wide := m_wide) (m_gathered := m_gathered) (m_sets := m_sets) (m_ranges := m_ranges) (m_nodes := m_nodes) (m_at := ((m_at + 2) + 0)) (m_flags := m_flags) (m_fault := m_fault) (m_place := m_place) (m_numbered := m_numbered) (m_depth := m_depth) (m_value := m_value) (m_isNot := m_isNot) (m_least0 := m_least0) (m_most0 := m_most0) (m_slot := m_slot) (m_work := m_work) (m_got := m_got) (m_rowMany := m_rowMany) (m_charAt := m_charAt) (m_charWide := m_charWide) (m_trail := m_trail) (m_isMatch := m_isMatch) (m_matchGroups := m_matchGroups) (m_allFrom := m_allFrom) (m_allBefore := m_allBefore) (m_founds := m_founds) (m_pieces := m_pieces) (m_writtenMany := m_writtenMany) (m_templateWide := m_templateWide) (m_tooMuch := m_tooMuch) (A_tape := A_tape) (k := 5) h80 h84 (by omega) (by omega) jtp (by omega)) (fun oc G2 h => by rcases h with ⟨h, _⟩ | ⟨h, _⟩ <;> exact ⟨_, h⟩) (by omega) m_MO_here ml_MO_297 im_MO_here se_MO_here c_MO h80.2.2 (Nat.le_of_ble_eq_true rfl) d_MO_posix_243 rfl ?_
            intro v G155 hq
            rcases hq with ⟨hv, hGe, hq156⟩ | ⟨hv, hGe, hq157⟩
            · cases hv
              rw [hGe]
              change ab_W _ _ _ G7 246 [some (vR 80), some (vz m_at), some (vz 0), some (vz m_taped), some (vz 8)] [vz (A_tape (((m_at + 2) + 0) + 5))] _
              refine zz_bipush d_MO_posix_246 (by decide) ?_
              refine zz_icmp_ne (tgt := 262) d_MO_posix_248 (by decide) (by omega) (by decide) (fun c158 => ?_) (fun c158 => ?_)
              · refine ab_aload_n d_MO_posix_262 rfl ?_
                refine zz_bipush d_MO_posix_263 (by decide) ?_
                refine ab_iload_n d_MO_posix_265 rfl ?_
                refine ab_callV (d' := d - 1) (as := [vz 7, vz m_at]) (st := []) (r := _) (z_MO_wrong (o := o) (m_thrown := m_thrown) (m_taped := m_taped) (m_length := m_length) (m_out := m_out) (m_wide := m_wide) (m_gathered := m_gathered) (m_sets := m_sets) (m_ranges := m_ranges) (m_nodes := m_nodes) (m_at := ((m_at + 2) + 0)) (m_flags := m_flags) (m_fault := m_fault) (m_place := m_place) (m_numbered := m_numbered) (m_depth := m_depth) (m_value := m_value) (m_isNot := m_isNot) (m_least0 := m_least0) (m_most0 := m_most0) (m_slot := m_slot) (m_work := m_work) (m_got := m_got) (m_rowMany := m_rowMany) (m_charAt := m_charAt) (m_charWide := m_charWide) (m_trail := m_trail) (m_isMatch := m_isMatch) (m_matchGroups := m_matchGroups) (m_allFrom := m_allFrom) (m_allBefore := m_allBefore) (m_founds := m_founds) (m_pieces := m_pieces) (m_writtenMany := m_writtenMany) (m_templateWide := m_templateWide) (m_tooMuch := m_tooMuch) (x := 7) (y := m_at) h80 (by omega) (by omega)) (fun oc G2 h => by rcases h with ⟨_, _, h, _⟩ <;> exact ⟨_, h⟩) (by omega) m_MO_wrong ml_MO_304 im_MO_wrong se_MO_wrong c_MO h80.2.2 (Nat.le_of_ble_eq_true rfl) d_MO_posix_266 rfl ?_
                intro v G159 hq
                rcases hq with ⟨f2160, p2161, hv, hfk, hlk, hsk, hN80, hq162⟩
                cases hv
                have h84 := hfk.get h84 (by decide)
                have h87 := hfk.get h87 (by decide)
                have h88 := hfk.get h88 (by decide)
                have h81 := hfk.get h81 (by decide)
                have h82 := hfk.get h82 (by decide)
                have hfr := hfr.tr hfk (by decide)
                have hlen := hlk.trans hlen
                have hsl := hsk.trans hsl
                have h80 := hN80
                change ab_W _ _ _ G159 269 [some (vR 80), some (vz m_at), some (vz 0), some (vz m_taped), some (vz 8)] [] _
                refine ab_vret rfl d_MO_posix_269 ?_
                rw [hQ]; exact (Or.inl ⟨_, _, _, rfl, hfr, hlen, hsl, h80, h87, h88, (by omega)⟩)
              · refine ab_aload_n d_MO_posix_251 rfl ?_
                refine zz_bipush d_MO_posix_252 (by decide) ?_
                refine ab_callV (d' := d - 1) (as := [vz 6]) (st := []) (r := _) (z_MO_here (o := o) (m_thrown := m_thrown) (m_taped := m_taped) (m_length := m_length) (m_out := m_out) (m_wide := m_wide) (m_gathered := m_gathered) (m_sets := m_sets) (m_ranges := m_ranges) (m_nodes := m_nodes) (m_at := ((m_at + 2) + 0)) (m_flags := m_flags) (m_fault := m_fault) (m_place := m_place) (m_numbered := m_numbered) (m_depth := m_depth) (m_value := m_value) (m_isNot := m_isNot) (m_least0 := m_least0) (m_most0 := m_most0) (m_slot := m_slot) (m_work := m_work) (m_got := m_got) (m_rowMany := m_rowMany) (m_charAt := m_charAt) (m_charWide := m_charWide) (m_trail := m_trail) (m_isMatch := m_isMatch) (m_matchGroups := m_matchGroups) (m_allFrom := m_allFrom) (m_allBefore := m_allBefore) (m_founds := m_founds) (m_pieces := m_pieces) (m_writtenMany := m_writtenMany) (m_templateWide := m_templateWide) (m_tooMuch := m_tooMuch) (A_tape := A_tape) (k := 6) h80 h84 (by omega) (by omega) jtp (by omega)) (fun oc G2 h => by rcases h with ⟨h, _⟩ | ⟨h, _⟩ <;> exact ⟨_, h⟩) (by omega) m_MO_here ml_MO_297 im_MO_here se_MO_here c_MO h80.2.2 (Nat.le_of_ble_eq_true rfl) d_MO_posix_254 rfl ?_
                intro v G163 hq
                rcases hq with ⟨hv, hGe, hq164⟩ | ⟨hv, hGe, hq165⟩
                · cases hv
                  rw [hGe]
                  change ab_W _ _ _ G7 257 [some (vR 80), some (vz m_at), some (vz 0), some (vz m_taped), some (vz 8)] [vz (A_tape (((m_at + 2) + 0) + 6))] _
                  refine zz_bipush d_MO_posix_257 (by decide) ?_
                  refine zz_icmp_eq (tgt := 270) d_MO_posix_259 (by decide) (by omega) (by decide) (fun c166 => ?_) (fun c166 => ?_)
                  · refine ab_aload_n d_MO_posix_270 rfl ?_
                    refine ab_iload d_MO_posix_271 rfl ?_
                    refine ab_iload_n d_MO_posix_273 rfl ?_
                    refine ab_callV (d' := d - 1) (as := [vz 8, vz 0]) (st := []) (r := _) (z_MO_gatherNamed (o := o) (m_thrown := m_thrown) (m_taped := m_taped) (m_length := m_length) (m_out := m_out) (m_wide := m_wide) (m_gathered := m_gathered) (m_sets := m_sets) (m_ranges := m_ranges) (m_nodes := m_nodes) (m_at := ((m_at + 2) + 0)) (m_flags := m_flags) (m_fault := m_fault) (m_place := m_place) (m_numbered := m_numbered) (m_depth := m_depth) (m_value := m_value) (m_isNot := m_isNot) (m_least0 := m_least0) (m_most0 := m_most0) (m_slot := m_slot) (m_work := m_work) (m_got := m_got) (m_rowMany := m_rowMany) (m_charAt := m_charAt) (m_charWide := m_charWide) (m_trail := m_trail) (m_isMatch := m_isMatch) (m_matchGroups := m_matchGroups) (m_allFrom := m_allFrom) (m_allBefore := m_allBefore) (m_founds := m_founds) (m_pieces := m_pieces) (m_writtenMany := m_writtenMany) (m_templateWide := m_templateWide) (m_tooMuch := m_tooMuch) (LO := LO) (HI := HI) (MK := MK) (P := P) (w := 8) (nt := 0) (mm := mm) h80 h87 h88 h81 h82 (by omega) (by omega) jc jl (by omega)) (fun oc G2 h => by rcases h with ⟨_, _, _, _, h, _⟩ <;> exact ⟨_, h⟩) (by omega) m_MO_gatherNamed ml_MO_337 im_MO_gatherNamed se_MO_gatherNamed c_MO h80.2.2 (Nat.le_of_ble_eq_true rfl) d_MO_posix_274 rfl ?_
                    intro v G167 hq
                    rcases hq with ⟨g2168, LO2169, HI2170, P2171, hv, hfk, hlk, hsk, hN80, hN87, hN88, hq172, hq173, hq174, hq175⟩
                    cases hv
                    have h84 := hfk.get h84 (by decide)
                    have h81 := hfk.get h81 (by decide)
                    have h82 := hfk.get h82 (by decide)
                    have hfr := hfr.tr hfk (by decide)
                    have hlen := hlk.trans hlen
                    have hsl := hsk.trans hsl
                    have h80 := hN80
                    have h87 := hN87
                    have h88 := hN88
                    change ab_W _ _ _ G167 277 [some (vR 80), some (vz m_at), some (vz 0), some (vz m_taped), some (vz 8)] [] _
                    refine ab_aload_n d_MO_posix_277 rfl ?_
                    refine ab_dup d_MO_posix_278 rfl ?_
                    refine ab_getf (fs := mof m_thrown m_taped m_length m_out m_wide g2168 m_sets m_ranges m_nodes ((m_at + 2) + 0) m_flags m_fault m_place m_numbered m_depth m_value m_isNot m_least0 m_most0 m_slot m_work m_got m_rowMany m_charAt m_charWide m_trail m_isMatch m_matchGroups m_allFrom m_allBefore m_founds m_pieces m_writtenMany m_templateWide m_tooMuch) f_MO_279 d_MO_posix_279 h80.2.2 rfl ?_
                    refine zz_bipush d_MO_posix_282 (by decide) ?_
                    refine zz_iadd d_MO_posix_284 ?_
                    refine ab_putf (fs := mof m_thrown m_taped m_length m_out m_wide g2168 m_sets m_ranges m_nodes ((m_at + 2) + 0) m_flags m_fault m_place m_numbered m_depth m_value m_isNot m_least0 m_most0 m_slot m_work m_got m_rowMany m_charAt m_charWide m_trail m_isMatch m_matchGroups m_allFrom m_allBefore m_founds m_pieces m_writtenMany m_templateWide m_tooMuch) f_MO_279 (Or.inl rfl) d_MO_posix_285 h80.2.2 (Nat.le_of_ble_eq_true rfl) (fun _ => ⟨rfl, rfl⟩) (h80.2.1 (by decide)) ?_
                    obtain ⟨G176, eG176⟩ : ∃ z : ab_G, z = List.set G167 80 (ab_ob 12 (mof m_thrown m_taped m_length m_out m_wide g2168 m_sets m_ranges m_nodes (((m_at + 2) + 0) + 7) m_flags m_fault m_place m_numbered m_depth m_value m_isNot m_least0 m_most0 m_slot m_work m_got m_rowMany m_charAt m_charWide m_trail m_isMatch m_matchGroups m_allFrom m_allBefore m_founds m_pieces m_writtenMany m_templateWide m_tooMuch)) := ⟨_, rfl⟩
                    have h84 := h84.keep h80 eG176 (by decide)
                    have h87 := h87.keep h80 eG176 (by decide)
                    have h88 := h88.keep h80 eG176 (by decide)
                    have h81 := h81.keep h80 eG176 (by decide)
                    have h82 := h82.keep h80 eG176 (by decide)
                    have hlen := (z_len eG176).trans hlen
                    have hsl := (z_sl h80 eG176 rfl).trans hsl
                    have hfr := hfr.wr h80 eG176 (by decide)
                    have h80 := h80.kept eG176
                    change ab_W _ _ _ (List.set G167 80 (ab_ob 12 (mof m_thrown m_taped m_length m_out m_wide g2168 m_sets m_ranges m_nodes (((m_at + 2) + 0) + 7) m_flags m_fault m_place m_numbered m_depth m_value m_isNot m_least0 m_most0 m_slot m_work m_got m_rowMany m_charAt m_charWide m_trail m_isMatch m_matchGroups m_allFrom m_allBefore m_founds m_pieces m_writtenMany m_templateWide m_tooMuch))) 288 [some (vR 80), some (vz m_at), some (vz 0), some (vz m_taped), some (vz 8)] [] _
                    rw [← eG176]
                    refine ab_vret rfl d_MO_posix_288 ?_
                    rw [hQ]; exact (Or.inr ⟨_, _, _, _, _, rfl, hfr, hlen, hsl, h80, h87, h88, (by omega), (by exact hq174), (by exact lfc_w hq175 (by omega))⟩)
                  · refine ab_aload_n d_MO_posix_262 rfl ?_
                    refine zz_bipush d_MO_posix_263 (by decide) ?_
                    refine ab_iload_n d_MO_posix_265 rfl ?_
                    refine ab_callV (d' := d - 1) (as := [vz 7, vz m_at]) (st := []) (r := _) (z_MO_wrong (o := o) (m_thrown := m_thrown) (m_taped := m_taped) (m_length := m_length) (m_out := m_out) (m_wide := m_wide) (m_gathered := m_gathered) (m_sets := m_sets) (m_ranges := m_ranges) (m_nodes := m_nodes) (m_at := ((m_at + 2) + 0)) (m_flags := m_flags) (m_fault := m_fault) (m_place := m_place) (m_numbered := m_numbered) (m_depth := m_depth) (m_value := m_value) (m_isNot := m_isNot) (m_least0 := m_least0) (m_most0 := m_most0) (m_slot := m_slot) (m_work := m_work) (m_got := m_got) (m_rowMany := m_rowMany) (m_charAt := m_charAt) (m_charWide := m_charWide) (m_trail := m_trail) (m_isMatch := m_isMatch) (m_matchGroups := m_matchGroups) (m_allFrom := m_allFrom) (m_allBefore := m_allBefore) (m_founds := m_founds) (m_pieces := m_pieces) (m_writtenMany := m_writtenMany) (m_templateWide := m_templateWide) (m_tooMuch := m_tooMuch) (x := 7) (y := m_at) h80 (by omega) (by omega)) (fun oc G2 h => by rcases h with ⟨_, _, h, _⟩ <;> exact ⟨_, h⟩) (by omega) m_MO_wrong ml_MO_304 im_MO_wrong se_MO_wrong c_MO h80.2.2 (Nat.le_of_ble_eq_true rfl) d_MO_posix_266 rfl ?_
                    intro v G177 hq
                    rcases hq with ⟨f2178, p2179, hv, hfk, hlk, hsk, hN80, hq180⟩
                    cases hv
                    have h84 := hfk.get h84 (by decide)
                    have h87 := hfk.get h87 (by decide)
                    have h88 := hfk.get h88 (by decide)
                    have h81 := hfk.get h81 (by decide)
                    have h82 := hfk.get h82 (by decide)
                    have hfr := hfr.tr hfk (by decide)
                    have hlen := hlk.trans hlen
                    have hsl := hsk.trans hsl
                    have h80 := hN80
                    change ab_W _ _ _ G177 269 [some (vR 80), some (vz m_at), some (vz 0), some (vz m_taped), some (vz 8)] [] _
                    refine ab_vret rfl d_MO_posix_269 ?_
                    rw [hQ]; exact (Or.inl ⟨_, _, _, rfl, hfr, hlen, hsl, h80, h87, h88, (by omega)⟩)
                · cases hv
                  rw [hGe]
                  change ab_W _ _ _ G7 257 [some (vR 80), some (vz m_at), some (vz 0), some (vz m_taped), some (vz 8)] [vz (-1)] _
                  refine zz_bipush d_MO_posix_257 (by decide) ?_
                  refine zz_icmp_eq (tgt := 270) d_MO_posix_259 (by decide) (by decide) (by decide) (fun c181 => absurd c181 (by decide)) (fun c181 => ?_)
                  refine ab_aload_n d_MO_posix_262 rfl ?_
                  refine zz_bipush d_MO_posix_263 (by decide) ?_
                  refine ab_iload_n d_MO_posix_265 rfl ?_
                  refine ab_callV (d' := d - 1) (as := [vz 7, vz m_at]) (st := []) (r := _) (z_MO_wrong (o := o) (m_thrown := m_thrown) (m_taped := m_taped) (m_length := m_length) (m_out := m_out) (m_wide := m_wide) (m_gathered := m_gathered) (m_sets := m_sets) (m_ranges := m_ranges) (m_nodes := m_nodes) (m_at := ((m_at + 2) + 0)) (m_flags := m_flags) (m_fault := m_fault) (m_place := m_place) (m_numbered := m_numbered) (m_depth := m_depth) (m_value := m_value) (m_isNot := m_isNot) (m_least0 := m_least0) (m_most0 := m_most0) (m_slot := m_slot) (m_work := m_work) (m_got := m_got) (m_rowMany := m_rowMany) (m_charAt := m_charAt) (m_charWide := m_charWide) (m_trail := m_trail) (m_isMatch := m_isMatch) (m_matchGroups := m_matchGroups) (m_allFrom := m_allFrom) (m_allBefore := m_allBefore) (m_founds := m_founds) (m_pieces := m_pieces) (m_writtenMany := m_writtenMany) (m_templateWide := m_templateWide) (m_tooMuch := m_tooMuch) (x := 7) (y := m_at) h80 (by omega) (by omega)) (fun oc G2 h => by rcases h with ⟨_, _, h, _⟩ <;> exact ⟨_, h⟩) (by omega) m_MO_wrong ml_MO_304 im_MO_wrong se_MO_wrong c_MO h80.2.2 (Nat.le_of_ble_eq_true rfl) d_MO_posix_266 rfl ?_
                  intro v G182 hq
                  rcases hq with ⟨f2183, p2184, hv, hfk, hlk, hsk, hN80, hq185⟩
                  cases hv
                  have h84 := hfk.get h84 (by decide)
                  have h87 := hfk.get h87 (by decide)
                  have h88 := hfk.get h88 (by decide)
                  have h81 := hfk.get h81 (by decide)
                  have h82 := hfk.get h82 (by decide)
                  have hfr := hfr.tr hfk (by decide)
                  have hlen := hlk.trans hlen
                  have hsl := hsk.trans hsl
                  have h80 := hN80
                  change ab_W _ _ _ G182 269 [some (vR 80), some (vz m_at), some (vz 0), some (vz m_taped), some (vz 8)] [] _
                  refine ab_vret rfl d_MO_posix_269 ?_
                  rw [hQ]; exact (Or.inl ⟨_, _, _, rfl, hfr, hlen, hsl, h80, h87, h88, (by omega)⟩)
            · cases hv
              rw [hGe]
              change ab_W _ _ _ G7 246 [some (vR 80), some (vz m_at), some (vz 0), some (vz m_taped), some (vz 8)] [vz (-1)] _
              refine zz_bipush d_MO_posix_246 (by decide) ?_
              refine zz_icmp_ne (tgt := 262) d_MO_posix_248 (by decide) (by decide) (by decide) (fun c186 => ?_) (fun c186 => absurd c186 (by decide))
              refine ab_aload_n d_MO_posix_262 rfl ?_
              refine zz_bipush d_MO_posix_263 (by decide) ?_
              refine ab_iload_n d_MO_posix_265 rfl ?_
              refine ab_callV (d' := d - 1) (as := [vz 7, vz m_at]) (st := []) (r := _) (z_MO_wrong (o := o) (m_thrown := m_thrown) (m_taped := m_taped) (m_length := m_length) (m_out := m_out) (m_wide := m_wide) (m_gathered := m_gathered) (m_sets := m_sets) (m_ranges := m_ranges) (m_nodes := m_nodes) (m_at := ((m_at + 2) + 0)) (m_flags := m_flags) (m_fault := m_fault) (m_place := m_place) (m_numbered := m_numbered) (m_depth := m_depth) (m_value := m_value) (m_isNot := m_isNot) (m_least0 := m_least0) (m_most0 := m_most0) (m_slot := m_slot) (m_work := m_work) (m_got := m_got) (m_rowMany := m_rowMany) (m_charAt := m_charAt) (m_charWide := m_charWide) (m_trail := m_trail) (m_isMatch := m_isMatch) (m_matchGroups := m_matchGroups) (m_allFrom := m_allFrom) (m_allBefore := m_allBefore) (m_founds := m_founds) (m_pieces := m_pieces) (m_writtenMany := m_writtenMany) (m_templateWide := m_templateWide) (m_tooMuch := m_tooMuch) (x := 7) (y := m_at) h80 (by omega) (by omega)) (fun oc G2 h => by rcases h with ⟨_, _, h, _⟩ <;> exact ⟨_, h⟩) (by omega) m_MO_wrong ml_MO_304 im_MO_wrong se_MO_wrong c_MO h80.2.2 (Nat.le_of_ble_eq_true rfl) d_MO_posix_266 rfl ?_
              intro v G187 hq
              rcases hq with ⟨f2188, p2189, hv, hfk, hlk, hsk, hN80, hq190⟩
              cases hv
              have h84 := hfk.get h84 (by decide)
              have h87 := hfk.get h87 (by decide)
              have h88 := hfk.get h88 (by decide)
              have h81 := hfk.get h81 (by decide)
              have h82 := hfk.get h82 (by decide)
              have hfr := hfr.tr hfk (by decide)
              have hlen := hlk.trans hlen
              have hsl := hsk.trans hsl
              have h80 := hN80
              change ab_W _ _ _ G187 269 [some (vR 80), some (vz m_at), some (vz 0), some (vz m_taped), some (vz 8)] [] _
              refine ab_vret rfl d_MO_posix_269 ?_
              rw [hQ]; exact (Or.inl ⟨_, _, _, rfl, hfr, hlen, hsl, h80, h87, h88, (by omega)⟩)
        · refine zz_bipush d_MO_posix_108 (by decide) ?_
          refine ab_goto (tgt := 234) d_MO_posix_110 (by decide) ?_
          refine ab_istore d_MO_posix_234 (Nat.le_of_ble_eq_true rfl) (Nat.le_of_ble_eq_true rfl) rfl ?_
          change ab_W _ _ _ G7 236 [some (vR 80), some (vz m_at), some (vz 0), some (vz m_taped), some (vz 7)] [] _
          refine ab_iload d_MO_posix_236 rfl ?_
          refine zz_if_lt (tgt := 262) d_MO_posix_238 (by decide) (by decide) (fun c191 => absurd c191 (by decide)) (fun c191 => ?_)
          refine ab_aload_n d_MO_posix_241 rfl ?_
          refine zz_iconst d_MO_posix_242 ?_
          refine ab_callV (d' := d - 1) (as := [vz 5]) (st := []) (r := _) (z_MO_here (o := o) (m_thrown := m_thrown) (m_taped := m_taped) (m_length := m_length) (m_out := m_out) (m_wide := m_wide) (m_gathered := m_gathered) (m_sets := m_sets) (m_ranges := m_ranges) (m_nodes := m_nodes) (m_at := ((m_at + 2) + 0)) (m_flags := m_flags) (m_fault := m_fault) (m_place := m_place) (m_numbered := m_numbered) (m_depth := m_depth) (m_value := m_value) (m_isNot := m_isNot) (m_least0 := m_least0) (m_most0 := m_most0) (m_slot := m_slot) (m_work := m_work) (m_got := m_got) (m_rowMany := m_rowMany) (m_charAt := m_charAt) (m_charWide := m_charWide) (m_trail := m_trail) (m_isMatch := m_isMatch) (m_matchGroups := m_matchGroups) (m_allFrom := m_allFrom) (m_allBefore := m_allBefore) (m_founds := m_founds) (m_pieces := m_pieces) (m_writtenMany := m_writtenMany) (m_templateWide := m_templateWide) (m_tooMuch := m_tooMuch) (A_tape := A_tape) (k := 5) h80 h84 (by omega) (by omega) jtp (by omega)) (fun oc G2 h => by rcases h with ⟨h, _⟩ | ⟨h, _⟩ <;> exact ⟨_, h⟩) (by omega) m_MO_here ml_MO_297 im_MO_here se_MO_here c_MO h80.2.2 (Nat.le_of_ble_eq_true rfl) d_MO_posix_243 rfl ?_
          intro v G192 hq
          rcases hq with ⟨hv, hGe, hq193⟩ | ⟨hv, hGe, hq194⟩
          · cases hv
            rw [hGe]
            change ab_W _ _ _ G7 246 [some (vR 80), some (vz m_at), some (vz 0), some (vz m_taped), some (vz 7)] [vz (A_tape (((m_at + 2) + 0) + 5))] _
            refine zz_bipush d_MO_posix_246 (by decide) ?_
            refine zz_icmp_ne (tgt := 262) d_MO_posix_248 (by decide) (by omega) (by decide) (fun c195 => ?_) (fun c195 => ?_)
            · refine ab_aload_n d_MO_posix_262 rfl ?_
              refine zz_bipush d_MO_posix_263 (by decide) ?_
              refine ab_iload_n d_MO_posix_265 rfl ?_
              refine ab_callV (d' := d - 1) (as := [vz 7, vz m_at]) (st := []) (r := _) (z_MO_wrong (o := o) (m_thrown := m_thrown) (m_taped := m_taped) (m_length := m_length) (m_out := m_out) (m_wide := m_wide) (m_gathered := m_gathered) (m_sets := m_sets) (m_ranges := m_ranges) (m_nodes := m_nodes) (m_at := ((m_at + 2) + 0)) (m_flags := m_flags) (m_fault := m_fault) (m_place := m_place) (m_numbered := m_numbered) (m_depth := m_depth) (m_value := m_value) (m_isNot := m_isNot) (m_least0 := m_least0) (m_most0 := m_most0) (m_slot := m_slot) (m_work := m_work) (m_got := m_got) (m_rowMany := m_rowMany) (m_charAt := m_charAt) (m_charWide := m_charWide) (m_trail := m_trail) (m_isMatch := m_isMatch) (m_matchGroups := m_matchGroups) (m_allFrom := m_allFrom) (m_allBefore := m_allBefore) (m_founds := m_founds) (m_pieces := m_pieces) (m_writtenMany := m_writtenMany) (m_templateWide := m_templateWide) (m_tooMuch := m_tooMuch) (x := 7) (y := m_at) h80 (by omega) (by omega)) (fun oc G2 h => by rcases h with ⟨_, _, h, _⟩ <;> exact ⟨_, h⟩) (by omega) m_MO_wrong ml_MO_304 im_MO_wrong se_MO_wrong c_MO h80.2.2 (Nat.le_of_ble_eq_true rfl) d_MO_posix_266 rfl ?_
              intro v G196 hq
              rcases hq with ⟨f2197, p2198, hv, hfk, hlk, hsk, hN80, hq199⟩
              cases hv
              have h84 := hfk.get h84 (by decide)
              have h87 := hfk.get h87 (by decide)
              have h88 := hfk.get h88 (by decide)
              have h81 := hfk.get h81 (by decide)
              have h82 := hfk.get h82 (by decide)
              have hfr := hfr.tr hfk (by decide)
              have hlen := hlk.trans hlen
              have hsl := hsk.trans hsl
              have h80 := hN80
              change ab_W _ _ _ G196 269 [some (vR 80), some (vz m_at), some (vz 0), some (vz m_taped), some (vz 7)] [] _
              refine ab_vret rfl d_MO_posix_269 ?_
              rw [hQ]; exact (Or.inl ⟨_, _, _, rfl, hfr, hlen, hsl, h80, h87, h88, (by omega)⟩)
            · refine ab_aload_n d_MO_posix_251 rfl ?_
              refine zz_bipush d_MO_posix_252 (by decide) ?_
              refine ab_callV (d' := d - 1) (as := [vz 6]) (st := []) (r := _) (z_MO_here (o := o) (m_thrown := m_thrown) (m_taped := m_taped) (m_length := m_length) (m_out := m_out) (m_wide := m_wide) (m_gathered := m_gathered) (m_sets := m_sets) (m_ranges := m_ranges) (m_nodes := m_nodes) (m_at := ((m_at + 2) + 0)) (m_flags := m_flags) (m_fault := m_fault) (m_place := m_place) (m_numbered := m_numbered) (m_depth := m_depth) (m_value := m_value) (m_isNot := m_isNot) (m_least0 := m_least0) (m_most0 := m_most0) (m_slot := m_slot) (m_work := m_work) (m_got := m_got) (m_rowMany := m_rowMany) (m_charAt := m_charAt) (m_charWide := m_charWide) (m_trail := m_trail) (m_isMatch := m_isMatch) (m_matchGroups := m_matchGroups) (m_allFrom := m_allFrom) (m_allBefore := m_allBefore) (m_founds := m_founds) (m_pieces := m_pieces) (m_writtenMany := m_writtenMany) (m_templateWide := m_templateWide) (m_tooMuch := m_tooMuch) (A_tape := A_tape) (k := 6) h80 h84 (by omega) (by omega) jtp (by omega)) (fun oc G2 h => by rcases h with ⟨h, _⟩ | ⟨h, _⟩ <;> exact ⟨_, h⟩) (by omega) m_MO_here ml_MO_297 im_MO_here se_MO_here c_MO h80.2.2 (Nat.le_of_ble_eq_true rfl) d_MO_posix_254 rfl ?_
              intro v G200 hq
              rcases hq with ⟨hv, hGe, hq201⟩ | ⟨hv, hGe, hq202⟩
              · cases hv
                rw [hGe]
                change ab_W _ _ _ G7 257 [some (vR 80), some (vz m_at), some (vz 0), some (vz m_taped), some (vz 7)] [vz (A_tape (((m_at + 2) + 0) + 6))] _
                refine zz_bipush d_MO_posix_257 (by decide) ?_
                refine zz_icmp_eq (tgt := 270) d_MO_posix_259 (by decide) (by omega) (by decide) (fun c203 => ?_) (fun c203 => ?_)
                · refine ab_aload_n d_MO_posix_270 rfl ?_
                  refine ab_iload d_MO_posix_271 rfl ?_
                  refine ab_iload_n d_MO_posix_273 rfl ?_
                  refine ab_callV (d' := d - 1) (as := [vz 7, vz 0]) (st := []) (r := _) (z_MO_gatherNamed (o := o) (m_thrown := m_thrown) (m_taped := m_taped) (m_length := m_length) (m_out := m_out) (m_wide := m_wide) (m_gathered := m_gathered) (m_sets := m_sets) (m_ranges := m_ranges) (m_nodes := m_nodes) (m_at := ((m_at + 2) + 0)) (m_flags := m_flags) (m_fault := m_fault) (m_place := m_place) (m_numbered := m_numbered) (m_depth := m_depth) (m_value := m_value) (m_isNot := m_isNot) (m_least0 := m_least0) (m_most0 := m_most0) (m_slot := m_slot) (m_work := m_work) (m_got := m_got) (m_rowMany := m_rowMany) (m_charAt := m_charAt) (m_charWide := m_charWide) (m_trail := m_trail) (m_isMatch := m_isMatch) (m_matchGroups := m_matchGroups) (m_allFrom := m_allFrom) (m_allBefore := m_allBefore) (m_founds := m_founds) (m_pieces := m_pieces) (m_writtenMany := m_writtenMany) (m_templateWide := m_templateWide) (m_tooMuch := m_tooMuch) (LO := LO) (HI := HI) (MK := MK) (P := P) (w := 7) (nt := 0) (mm := mm) h80 h87 h88 h81 h82 (by omega) (by omega) jc jl (by omega)) (fun oc G2 h => by rcases h with ⟨_, _, _, _, h, _⟩ <;> exact ⟨_, h⟩) (by omega) m_MO_gatherNamed ml_MO_337 im_MO_gatherNamed se_MO_gatherNamed c_MO h80.2.2 (Nat.le_of_ble_eq_true rfl) d_MO_posix_274 rfl ?_
                  intro v G204 hq
                  rcases hq with ⟨g2205, LO2206, HI2207, P2208, hv, hfk, hlk, hsk, hN80, hN87, hN88, hq209, hq210, hq211, hq212⟩
                  cases hv
                  have h84 := hfk.get h84 (by decide)
                  have h81 := hfk.get h81 (by decide)
                  have h82 := hfk.get h82 (by decide)
                  have hfr := hfr.tr hfk (by decide)
                  have hlen := hlk.trans hlen
                  have hsl := hsk.trans hsl
                  have h80 := hN80
                  have h87 := hN87
                  have h88 := hN88
                  change ab_W _ _ _ G204 277 [some (vR 80), some (vz m_at), some (vz 0), some (vz m_taped), some (vz 7)] [] _
                  refine ab_aload_n d_MO_posix_277 rfl ?_
                  refine ab_dup d_MO_posix_278 rfl ?_
                  refine ab_getf (fs := mof m_thrown m_taped m_length m_out m_wide g2205 m_sets m_ranges m_nodes ((m_at + 2) + 0) m_flags m_fault m_place m_numbered m_depth m_value m_isNot m_least0 m_most0 m_slot m_work m_got m_rowMany m_charAt m_charWide m_trail m_isMatch m_matchGroups m_allFrom m_allBefore m_founds m_pieces m_writtenMany m_templateWide m_tooMuch) f_MO_279 d_MO_posix_279 h80.2.2 rfl ?_
                  refine zz_bipush d_MO_posix_282 (by decide) ?_
                  refine zz_iadd d_MO_posix_284 ?_
                  refine ab_putf (fs := mof m_thrown m_taped m_length m_out m_wide g2205 m_sets m_ranges m_nodes ((m_at + 2) + 0) m_flags m_fault m_place m_numbered m_depth m_value m_isNot m_least0 m_most0 m_slot m_work m_got m_rowMany m_charAt m_charWide m_trail m_isMatch m_matchGroups m_allFrom m_allBefore m_founds m_pieces m_writtenMany m_templateWide m_tooMuch) f_MO_279 (Or.inl rfl) d_MO_posix_285 h80.2.2 (Nat.le_of_ble_eq_true rfl) (fun _ => ⟨rfl, rfl⟩) (h80.2.1 (by decide)) ?_
                  obtain ⟨G213, eG213⟩ : ∃ z : ab_G, z = List.set G204 80 (ab_ob 12 (mof m_thrown m_taped m_length m_out m_wide g2205 m_sets m_ranges m_nodes (((m_at + 2) + 0) + 7) m_flags m_fault m_place m_numbered m_depth m_value m_isNot m_least0 m_most0 m_slot m_work m_got m_rowMany m_charAt m_charWide m_trail m_isMatch m_matchGroups m_allFrom m_allBefore m_founds m_pieces m_writtenMany m_templateWide m_tooMuch)) := ⟨_, rfl⟩
                  have h84 := h84.keep h80 eG213 (by decide)
                  have h87 := h87.keep h80 eG213 (by decide)
                  have h88 := h88.keep h80 eG213 (by decide)
                  have h81 := h81.keep h80 eG213 (by decide)
                  have h82 := h82.keep h80 eG213 (by decide)
                  have hlen := (z_len eG213).trans hlen
                  have hsl := (z_sl h80 eG213 rfl).trans hsl
                  have hfr := hfr.wr h80 eG213 (by decide)
                  have h80 := h80.kept eG213
                  change ab_W _ _ _ (List.set G204 80 (ab_ob 12 (mof m_thrown m_taped m_length m_out m_wide g2205 m_sets m_ranges m_nodes (((m_at + 2) + 0) + 7) m_flags m_fault m_place m_numbered m_depth m_value m_isNot m_least0 m_most0 m_slot m_work m_got m_rowMany m_charAt m_charWide m_trail m_isMatch m_matchGroups m_allFrom m_allBefore m_founds m_pieces m_writtenMany m_templateWide m_tooMuch))) 288 [some (vR 80), some (vz m_at), some (vz 0), some (vz m_taped), some (vz 7)] [] _
                  rw [← eG213]
                  refine ab_vret rfl d_MO_posix_288 ?_
                  rw [hQ]; exact (Or.inr ⟨_, _, _, _, _, rfl, hfr, hlen, hsl, h80, h87, h88, (by omega), (by exact hq211), (by exact lfc_w hq212 (by omega))⟩)
                · refine ab_aload_n d_MO_posix_262 rfl ?_
                  refine zz_bipush d_MO_posix_263 (by decide) ?_
                  refine ab_iload_n d_MO_posix_265 rfl ?_
                  refine ab_callV (d' := d - 1) (as := [vz 7, vz m_at]) (st := []) (r := _) (z_MO_wrong (o := o) (m_thrown := m_thrown) (m_taped := m_taped) (m_length := m_length) (m_out := m_out) (m_wide := m_wide) (m_gathered := m_gathered) (m_sets := m_sets) (m_ranges := m_ranges) (m_nodes := m_nodes) (m_at := ((m_at + 2) + 0)) (m_flags := m_flags) (m_fault := m_fault) (m_place := m_place) (m_numbered := m_numbered) (m_depth := m_depth) (m_value := m_value) (m_isNot := m_isNot) (m_least0 := m_least0) (m_most0 := m_most0) (m_slot := m_slot) (m_work := m_work) (m_got := m_got) (m_rowMany := m_rowMany) (m_charAt := m_charAt) (m_charWide := m_charWide) (m_trail := m_trail) (m_isMatch := m_isMatch) (m_matchGroups := m_matchGroups) (m_allFrom := m_allFrom) (m_allBefore := m_allBefore) (m_founds := m_founds) (m_pieces := m_pieces) (m_writtenMany := m_writtenMany) (m_templateWide := m_templateWide) (m_tooMuch := m_tooMuch) (x := 7) (y := m_at) h80 (by omega) (by omega)) (fun oc G2 h => by rcases h with ⟨_, _, h, _⟩ <;> exact ⟨_, h⟩) (by omega) m_MO_wrong ml_MO_304 im_MO_wrong se_MO_wrong c_MO h80.2.2 (Nat.le_of_ble_eq_true rfl) d_MO_posix_266 rfl ?_
                  intro v G214 hq
                  rcases hq with ⟨f2215, p2216, hv, hfk, hlk, hsk, hN80, hq217⟩
                  cases hv
                  have h84 := hfk.get h84 (by decide)
                  have h87 := hfk.get h87 (by decide)
                  have h88 := hfk.get h88 (by decide)
                  have h81 := hfk.get h81 (by decide)
                  have h82 := hfk.get h82 (by decide)
                  have hfr := hfr.tr hfk (by decide)
                  have hlen := hlk.trans hlen
                  have hsl := hsk.trans hsl
                  have h80 := hN80
                  change ab_W _ _ _ G214 269 [some (vR 80), some (vz m_at), some (vz 0), some (vz m_taped), some (vz 7)] [] _
                  refine ab_vret rfl d_MO_posix_269 ?_
                  rw [hQ]; exact (Or.inl ⟨_, _, _, rfl, hfr, hlen, hsl, h80, h87, h88, (by omega)⟩)
              · cases hv
                rw [hGe]
                change ab_W _ _ _ G7 257 [some (vR 80), some (vz m_at), some (vz 0), some (vz m_taped), some (vz 7)] [vz (-1)] _
                refine zz_bipush d_MO_posix_257 (by decide) ?_
                refine zz_icmp_eq (tgt := 270) d_MO_posix_259 (by decide) (by decide) (by decide) (fun c218 => absurd c218 (by decide)) (fun c218 => ?_)
                refine ab_aload_n d_MO_posix_262 rfl ?_
                refine zz_bipush d_MO_posix_263 (by decide) ?_
                refine ab_iload_n d_MO_posix_265 rfl ?_
                refine ab_callV (d' := d - 1) (as := [vz 7, vz m_at]) (st := []) (r := _) (z_MO_wrong (o := o) (m_thrown := m_thrown) (m_taped := m_taped) (m_length := m_length) (m_out := m_out) (m_wide := m_wide) (m_gathered := m_gathered) (m_sets := m_sets) (m_ranges := m_ranges) (m_nodes := m_nodes) (m_at := ((m_at + 2) + 0)) (m_flags := m_flags) (m_fault := m_fault) (m_place := m_place) (m_numbered := m_numbered) (m_depth := m_depth) (m_value := m_value) (m_isNot := m_isNot) (m_least0 := m_least0) (m_most0 := m_most0) (m_slot := m_slot) (m_work := m_work) (m_got := m_got) (m_rowMany := m_rowMany) (m_charAt := m_charAt) (m_charWide := m_charWide) (m_trail := m_trail) (m_isMatch := m_isMatch) (m_matchGroups := m_matchGroups) (m_allFrom := m_allFrom) (m_allBefore := m_allBefore) (m_founds := m_founds) (m_pieces := m_pieces) (m_writtenMany := m_writtenMany) (m_templateWide := m_templateWide) (m_tooMuch := m_tooMuch) (x := 7) (y := m_at) h80 (by omega) (by omega)) (fun oc G2 h => by rcases h with ⟨_, _, h, _⟩ <;> exact ⟨_, h⟩) (by omega) m_MO_wrong ml_MO_304 im_MO_wrong se_MO_wrong c_MO h80.2.2 (Nat.le_of_ble_eq_true rfl) d_MO_posix_266 rfl ?_
                intro v G219 hq
                rcases hq with ⟨f2220, p2221, hv, hfk, hlk, hsk, hN80, hq222⟩
                cases hv
                have h84 := hfk.get h84 (by decide)
                have h87 := hfk.get h87 (by decide)
                have h88 := hfk.get h88 (by decide)
                have h81 := hfk.get h81 (by decide)
                have h82 := hfk.get h82 (by decide)
                have hfr := hfr.tr hfk (by decide)
                have hlen := hlk.trans hlen
                have hsl := hsk.trans hsl
                have h80 := hN80
                change ab_W _ _ _ G219 269 [some (vR 80), some (vz m_at), some (vz 0), some (vz m_taped), some (vz 7)] [] _
                refine ab_vret rfl d_MO_posix_269 ?_
                rw [hQ]; exact (Or.inl ⟨_, _, _, rfl, hfr, hlen, hsl, h80, h87, h88, (by omega)⟩)
          · cases hv
            rw [hGe]
            change ab_W _ _ _ G7 246 [some (vR 80), some (vz m_at), some (vz 0), some (vz m_taped), some (vz 7)] [vz (-1)] _
            refine zz_bipush d_MO_posix_246 (by decide) ?_
            refine zz_icmp_ne (tgt := 262) d_MO_posix_248 (by decide) (by decide) (by decide) (fun c223 => ?_) (fun c223 => absurd c223 (by decide))
            refine ab_aload_n d_MO_posix_262 rfl ?_
            refine zz_bipush d_MO_posix_263 (by decide) ?_
            refine ab_iload_n d_MO_posix_265 rfl ?_
            refine ab_callV (d' := d - 1) (as := [vz 7, vz m_at]) (st := []) (r := _) (z_MO_wrong (o := o) (m_thrown := m_thrown) (m_taped := m_taped) (m_length := m_length) (m_out := m_out) (m_wide := m_wide) (m_gathered := m_gathered) (m_sets := m_sets) (m_ranges := m_ranges) (m_nodes := m_nodes) (m_at := ((m_at + 2) + 0)) (m_flags := m_flags) (m_fault := m_fault) (m_place := m_place) (m_numbered := m_numbered) (m_depth := m_depth) (m_value := m_value) (m_isNot := m_isNot) (m_least0 := m_least0) (m_most0 := m_most0) (m_slot := m_slot) (m_work := m_work) (m_got := m_got) (m_rowMany := m_rowMany) (m_charAt := m_charAt) (m_charWide := m_charWide) (m_trail := m_trail) (m_isMatch := m_isMatch) (m_matchGroups := m_matchGroups) (m_allFrom := m_allFrom) (m_allBefore := m_allBefore) (m_founds := m_founds) (m_pieces := m_pieces) (m_writtenMany := m_writtenMany) (m_templateWide := m_templateWide) (m_tooMuch := m_tooMuch) (x := 7) (y := m_at) h80 (by omega) (by omega)) (fun oc G2 h => by rcases h with ⟨_, _, h, _⟩ <;> exact ⟨_, h⟩) (by omega) m_MO_wrong ml_MO_304 im_MO_wrong se_MO_wrong c_MO h80.2.2 (Nat.le_of_ble_eq_true rfl) d_MO_posix_266 rfl ?_
            intro v G224 hq
            rcases hq with ⟨f2225, p2226, hv, hfk, hlk, hsk, hN80, hq227⟩
            cases hv
            have h84 := hfk.get h84 (by decide)
            have h87 := hfk.get h87 (by decide)
            have h88 := hfk.get h88 (by decide)
            have h81 := hfk.get h81 (by decide)
            have h82 := hfk.get h82 (by decide)
            have hfr := hfr.tr hfk (by decide)
            have hlen := hlk.trans hlen
            have hsl := hsk.trans hsl
            have h80 := hN80
            change ab_W _ _ _ G224 269 [some (vR 80), some (vz m_at), some (vz 0), some (vz m_taped), some (vz 7)] [] _
            refine ab_vret rfl d_MO_posix_269 ?_
            rw [hQ]; exact (Or.inl ⟨_, _, _, rfl, hfr, hlen, hsl, h80, h87, h88, (by omega)⟩)
      · refine zz_iconst d_MO_posix_79 ?_
        refine ab_goto (tgt := 234) d_MO_posix_80 (by decide) ?_
        refine ab_istore d_MO_posix_234 (Nat.le_of_ble_eq_true rfl) (Nat.le_of_ble_eq_true rfl) rfl ?_
        change ab_W _ _ _ G7 236 [some (vR 80), some (vz m_at), some (vz 0), some (vz m_taped), some (vz 0)] [] _
        refine ab_iload d_MO_posix_236 rfl ?_
        refine zz_if_lt (tgt := 262) d_MO_posix_238 (by decide) (by decide) (fun c228 => absurd c228 (by decide)) (fun c228 => ?_)
        refine ab_aload_n d_MO_posix_241 rfl ?_
        refine zz_iconst d_MO_posix_242 ?_
        refine ab_callV (d' := d - 1) (as := [vz 5]) (st := []) (r := _) (z_MO_here (o := o) (m_thrown := m_thrown) (m_taped := m_taped) (m_length := m_length) (m_out := m_out) (m_wide := m_wide) (m_gathered := m_gathered) (m_sets := m_sets) (m_ranges := m_ranges) (m_nodes := m_nodes) (m_at := ((m_at + 2) + 0)) (m_flags := m_flags) (m_fault := m_fault) (m_place := m_place) (m_numbered := m_numbered) (m_depth := m_depth) (m_value := m_value) (m_isNot := m_isNot) (m_least0 := m_least0) (m_most0 := m_most0) (m_slot := m_slot) (m_work := m_work) (m_got := m_got) (m_rowMany := m_rowMany) (m_charAt := m_charAt) (m_charWide := m_charWide) (m_trail := m_trail) (m_isMatch := m_isMatch) (m_matchGroups := m_matchGroups) (m_allFrom := m_allFrom) (m_allBefore := m_allBefore) (m_founds := m_founds) (m_pieces := m_pieces) (m_writtenMany := m_writtenMany) (m_templateWide := m_templateWide) (m_tooMuch := m_tooMuch) (A_tape := A_tape) (k := 5) h80 h84 (by omega) (by omega) jtp (by omega)) (fun oc G2 h => by rcases h with ⟨h, _⟩ | ⟨h, _⟩ <;> exact ⟨_, h⟩) (by omega) m_MO_here ml_MO_297 im_MO_here se_MO_here c_MO h80.2.2 (Nat.le_of_ble_eq_true rfl) d_MO_posix_243 rfl ?_
        intro v G229 hq
        rcases hq with ⟨hv, hGe, hq230⟩ | ⟨hv, hGe, hq231⟩
        · cases hv
          rw [hGe]
          change ab_W _ _ _ G7 246 [some (vR 80), some (vz m_at), some (vz 0), some (vz m_taped), some (vz 0)] [vz (A_tape (((m_at + 2) + 0) + 5))] _
          refine zz_bipush d_MO_posix_246 (by decide) ?_
          refine zz_icmp_ne (tgt := 262) d_MO_posix_248 (by decide) (by omega) (by decide) (fun c232 => ?_) (fun c232 => ?_)
          · refine ab_aload_n d_MO_posix_262 rfl ?_
            refine zz_bipush d_MO_posix_263 (by decide) ?_
            refine ab_iload_n d_MO_posix_265 rfl ?_
            refine ab_callV (d' := d - 1) (as := [vz 7, vz m_at]) (st := []) (r := _) (z_MO_wrong (o := o) (m_thrown := m_thrown) (m_taped := m_taped) (m_length := m_length) (m_out := m_out) (m_wide := m_wide) (m_gathered := m_gathered) (m_sets := m_sets) (m_ranges := m_ranges) (m_nodes := m_nodes) (m_at := ((m_at + 2) + 0)) (m_flags := m_flags) (m_fault := m_fault) (m_place := m_place) (m_numbered := m_numbered) (m_depth := m_depth) (m_value := m_value) (m_isNot := m_isNot) (m_least0 := m_least0) (m_most0 := m_most0) (m_slot := m_slot) (m_work := m_work) (m_got := m_got) (m_rowMany := m_rowMany) (m_charAt := m_charAt) (m_charWide := m_charWide) (m_trail := m_trail) (m_isMatch := m_isMatch) (m_matchGroups := m_matchGroups) (m_allFrom := m_allFrom) (m_allBefore := m_allBefore) (m_founds := m_founds) (m_pieces := m_pieces) (m_writtenMany := m_writtenMany) (m_templateWide := m_templateWide) (m_tooMuch := m_tooMuch) (x := 7) (y := m_at) h80 (by omega) (by omega)) (fun oc G2 h => by rcases h with ⟨_, _, h, _⟩ <;> exact ⟨_, h⟩) (by omega) m_MO_wrong ml_MO_304 im_MO_wrong se_MO_wrong c_MO h80.2.2 (Nat.le_of_ble_eq_true rfl) d_MO_posix_266 rfl ?_
            intro v G233 hq
            rcases hq with ⟨f2234, p2235, hv, hfk, hlk, hsk, hN80, hq236⟩
            cases hv
            have h84 := hfk.get h84 (by decide)
            have h87 := hfk.get h87 (by decide)
            have h88 := hfk.get h88 (by decide)
            have h81 := hfk.get h81 (by decide)
            have h82 := hfk.get h82 (by decide)
            have hfr := hfr.tr hfk (by decide)
            have hlen := hlk.trans hlen
            have hsl := hsk.trans hsl
            have h80 := hN80
            change ab_W _ _ _ G233 269 [some (vR 80), some (vz m_at), some (vz 0), some (vz m_taped), some (vz 0)] [] _
            refine ab_vret rfl d_MO_posix_269 ?_
            rw [hQ]; exact (Or.inl ⟨_, _, _, rfl, hfr, hlen, hsl, h80, h87, h88, (by omega)⟩)
          · refine ab_aload_n d_MO_posix_251 rfl ?_
            refine zz_bipush d_MO_posix_252 (by decide) ?_
            refine ab_callV (d' := d - 1) (as := [vz 6]) (st := []) (r := _) (z_MO_here (o := o) (m_thrown := m_thrown) (m_taped := m_taped) (m_length := m_length) (m_out := m_out) (m_wide := m_wide) (m_gathered := m_gathered) (m_sets := m_sets) (m_ranges := m_ranges) (m_nodes := m_nodes) (m_at := ((m_at + 2) + 0)) (m_flags := m_flags) (m_fault := m_fault) (m_place := m_place) (m_numbered := m_numbered) (m_depth := m_depth) (m_value := m_value) (m_isNot := m_isNot) (m_least0 := m_least0) (m_most0 := m_most0) (m_slot := m_slot) (m_work := m_work) (m_got := m_got) (m_rowMany := m_rowMany) (m_charAt := m_charAt) (m_charWide := m_charWide) (m_trail := m_trail) (m_isMatch := m_isMatch) (m_matchGroups := m_matchGroups) (m_allFrom := m_allFrom) (m_allBefore := m_allBefore) (m_founds := m_founds) (m_pieces := m_pieces) (m_writtenMany := m_writtenMany) (m_templateWide := m_templateWide) (m_tooMuch := m_tooMuch) (A_tape := A_tape) (k := 6) h80 h84 (by omega) (by omega) jtp (by omega)) (fun oc G2 h => by rcases h with ⟨h, _⟩ | ⟨h, _⟩ <;> exact ⟨_, h⟩) (by omega) m_MO_here ml_MO_297 im_MO_here se_MO_here c_MO h80.2.2 (Nat.le_of_ble_eq_true rfl) d_MO_posix_254 rfl ?_
            intro v G237 hq
            rcases hq with ⟨hv, hGe, hq238⟩ | ⟨hv, hGe, hq239⟩
            · cases hv
              rw [hGe]
              change ab_W _ _ _ G7 257 [some (vR 80), some (vz m_at), some (vz 0), some (vz m_taped), some (vz 0)] [vz (A_tape (((m_at + 2) + 0) + 6))] _
              refine zz_bipush d_MO_posix_257 (by decide) ?_
              refine zz_icmp_eq (tgt := 270) d_MO_posix_259 (by decide) (by omega) (by decide) (fun c240 => ?_) (fun c240 => ?_)
              · refine ab_aload_n d_MO_posix_270 rfl ?_
                refine ab_iload d_MO_posix_271 rfl ?_
                refine ab_iload_n d_MO_posix_273 rfl ?_
                refine ab_callV (d' := d - 1) (as := [vz 0, vz 0]) (st := []) (r := _) (z_MO_gatherNamed (o := o) (m_thrown := m_thrown) (m_taped := m_taped) (m_length := m_length) (m_out := m_out) (m_wide := m_wide) (m_gathered := m_gathered) (m_sets := m_sets) (m_ranges := m_ranges) (m_nodes := m_nodes) (m_at := ((m_at + 2) + 0)) (m_flags := m_flags) (m_fault := m_fault) (m_place := m_place) (m_numbered := m_numbered) (m_depth := m_depth) (m_value := m_value) (m_isNot := m_isNot) (m_least0 := m_least0) (m_most0 := m_most0) (m_slot := m_slot) (m_work := m_work) (m_got := m_got) (m_rowMany := m_rowMany) (m_charAt := m_charAt) (m_charWide := m_charWide) (m_trail := m_trail) (m_isMatch := m_isMatch) (m_matchGroups := m_matchGroups) (m_allFrom := m_allFrom) (m_allBefore := m_allBefore) (m_founds := m_founds) (m_pieces := m_pieces) (m_writtenMany := m_writtenMany) (m_templateWide := m_templateWide) (m_tooMuch := m_tooMuch) (LO := LO) (HI := HI) (MK := MK) (P := P) (w := 0) (nt := 0) (mm := mm) h80 h87 h88 h81 h82 (by omega) (by omega) jc jl (by omega)) (fun oc G2 h => by rcases h with ⟨_, _, _, _, h, _⟩ <;> exact ⟨_, h⟩) (by omega) m_MO_gatherNamed ml_MO_337 im_MO_gatherNamed se_MO_gatherNamed c_MO h80.2.2 (Nat.le_of_ble_eq_true rfl) d_MO_posix_274 rfl ?_
                intro v G241 hq
                rcases hq with ⟨g2242, LO2243, HI2244, P2245, hv, hfk, hlk, hsk, hN80, hN87, hN88, hq246, hq247, hq248, hq249⟩
                cases hv
                have h84 := hfk.get h84 (by decide)
                have h81 := hfk.get h81 (by decide)
                have h82 := hfk.get h82 (by decide)
                have hfr := hfr.tr hfk (by decide)
                have hlen := hlk.trans hlen
                have hsl := hsk.trans hsl
                have h80 := hN80
                have h87 := hN87
                have h88 := hN88
                change ab_W _ _ _ G241 277 [some (vR 80), some (vz m_at), some (vz 0), some (vz m_taped), some (vz 0)] [] _
                refine ab_aload_n d_MO_posix_277 rfl ?_
                refine ab_dup d_MO_posix_278 rfl ?_
                refine ab_getf (fs := mof m_thrown m_taped m_length m_out m_wide g2242 m_sets m_ranges m_nodes ((m_at + 2) + 0) m_flags m_fault m_place m_numbered m_depth m_value m_isNot m_least0 m_most0 m_slot m_work m_got m_rowMany m_charAt m_charWide m_trail m_isMatch m_matchGroups m_allFrom m_allBefore m_founds m_pieces m_writtenMany m_templateWide m_tooMuch) f_MO_279 d_MO_posix_279 h80.2.2 rfl ?_
                refine zz_bipush d_MO_posix_282 (by decide) ?_
                refine zz_iadd d_MO_posix_284 ?_
                refine ab_putf (fs := mof m_thrown m_taped m_length m_out m_wide g2242 m_sets m_ranges m_nodes ((m_at + 2) + 0) m_flags m_fault m_place m_numbered m_depth m_value m_isNot m_least0 m_most0 m_slot m_work m_got m_rowMany m_charAt m_charWide m_trail m_isMatch m_matchGroups m_allFrom m_allBefore m_founds m_pieces m_writtenMany m_templateWide m_tooMuch) f_MO_279 (Or.inl rfl) d_MO_posix_285 h80.2.2 (Nat.le_of_ble_eq_true rfl) (fun _ => ⟨rfl, rfl⟩) (h80.2.1 (by decide)) ?_
                obtain ⟨G250, eG250⟩ : ∃ z : ab_G, z = List.set G241 80 (ab_ob 12 (mof m_thrown m_taped m_length m_out m_wide g2242 m_sets m_ranges m_nodes (((m_at + 2) + 0) + 7) m_flags m_fault m_place m_numbered m_depth m_value m_isNot m_least0 m_most0 m_slot m_work m_got m_rowMany m_charAt m_charWide m_trail m_isMatch m_matchGroups m_allFrom m_allBefore m_founds m_pieces m_writtenMany m_templateWide m_tooMuch)) := ⟨_, rfl⟩
                have h84 := h84.keep h80 eG250 (by decide)
                have h87 := h87.keep h80 eG250 (by decide)
                have h88 := h88.keep h80 eG250 (by decide)
                have h81 := h81.keep h80 eG250 (by decide)
                have h82 := h82.keep h80 eG250 (by decide)
                have hlen := (z_len eG250).trans hlen
                have hsl := (z_sl h80 eG250 rfl).trans hsl
                have hfr := hfr.wr h80 eG250 (by decide)
                have h80 := h80.kept eG250
                change ab_W _ _ _ (List.set G241 80 (ab_ob 12 (mof m_thrown m_taped m_length m_out m_wide g2242 m_sets m_ranges m_nodes (((m_at + 2) + 0) + 7) m_flags m_fault m_place m_numbered m_depth m_value m_isNot m_least0 m_most0 m_slot m_work m_got m_rowMany m_charAt m_charWide m_trail m_isMatch m_matchGroups m_allFrom m_allBefore m_founds m_pieces m_writtenMany m_templateWide m_tooMuch))) 288 [some (vR 80), some (vz m_at), some (vz 0), some (vz m_taped), some (vz 0)] [] _
                rw [← eG250]
                refine ab_vret rfl d_MO_posix_288 ?_
                rw [hQ]; exact (Or.inr ⟨_, _, _, _, _, rfl, hfr, hlen, hsl, h80, h87, h88, (by omega), (by exact hq248), (by exact lfc_w hq249 (by omega))⟩)
              · refine ab_aload_n d_MO_posix_262 rfl ?_
                refine zz_bipush d_MO_posix_263 (by decide) ?_
                refine ab_iload_n d_MO_posix_265 rfl ?_
                refine ab_callV (d' := d - 1) (as := [vz 7, vz m_at]) (st := []) (r := _) (z_MO_wrong (o := o) (m_thrown := m_thrown) (m_taped := m_taped) (m_length := m_length) (m_out := m_out) (m_wide := m_wide) (m_gathered := m_gathered) (m_sets := m_sets) (m_ranges := m_ranges) (m_nodes := m_nodes) (m_at := ((m_at + 2) + 0)) (m_flags := m_flags) (m_fault := m_fault) (m_place := m_place) (m_numbered := m_numbered) (m_depth := m_depth) (m_value := m_value) (m_isNot := m_isNot) (m_least0 := m_least0) (m_most0 := m_most0) (m_slot := m_slot) (m_work := m_work) (m_got := m_got) (m_rowMany := m_rowMany) (m_charAt := m_charAt) (m_charWide := m_charWide) (m_trail := m_trail) (m_isMatch := m_isMatch) (m_matchGroups := m_matchGroups) (m_allFrom := m_allFrom) (m_allBefore := m_allBefore) (m_founds := m_founds) (m_pieces := m_pieces) (m_writtenMany := m_writtenMany) (m_templateWide := m_templateWide) (m_tooMuch := m_tooMuch) (x := 7) (y := m_at) h80 (by omega) (by omega)) (fun oc G2 h => by rcases h with ⟨_, _, h, _⟩ <;> exact ⟨_, h⟩) (by omega) m_MO_wrong ml_MO_304 im_MO_wrong se_MO_wrong c_MO h80.2.2 (Nat.le_of_ble_eq_true rfl) d_MO_posix_266 rfl ?_
                intro v G251 hq
                rcases hq with ⟨f2252, p2253, hv, hfk, hlk, hsk, hN80, hq254⟩
                cases hv
                have h84 := hfk.get h84 (by decide)
                have h87 := hfk.get h87 (by decide)
                have h88 := hfk.get h88 (by decide)
                have h81 := hfk.get h81 (by decide)
                have h82 := hfk.get h82 (by decide)
                have hfr := hfr.tr hfk (by decide)
                have hlen := hlk.trans hlen
                have hsl := hsk.trans hsl
                have h80 := hN80
                change ab_W _ _ _ G251 269 [some (vR 80), some (vz m_at), some (vz 0), some (vz m_taped), some (vz 0)] [] _
                refine ab_vret rfl d_MO_posix_269 ?_
                rw [hQ]; exact (Or.inl ⟨_, _, _, rfl, hfr, hlen, hsl, h80, h87, h88, (by omega)⟩)
            · cases hv
              rw [hGe]
              change ab_W _ _ _ G7 257 [some (vR 80), some (vz m_at), some (vz 0), some (vz m_taped), some (vz 0)] [vz (-1)] _
              refine zz_bipush d_MO_posix_257 (by decide) ?_
              refine zz_icmp_eq (tgt := 270) d_MO_posix_259 (by decide) (by decide) (by decide) (fun c255 => absurd c255 (by decide)) (fun c255 => ?_)
              refine ab_aload_n d_MO_posix_262 rfl ?_
              refine zz_bipush d_MO_posix_263 (by decide) ?_
              refine ab_iload_n d_MO_posix_265 rfl ?_
              refine ab_callV (d' := d - 1) (as := [vz 7, vz m_at]) (st := []) (r := _) (z_MO_wrong (o := o) (m_thrown := m_thrown) (m_taped := m_taped) (m_length := m_length) (m_out := m_out) (m_wide := m_wide) (m_gathered := m_gathered) (m_sets := m_sets) (m_ranges := m_ranges) (m_nodes := m_nodes) (m_at := ((m_at + 2) + 0)) (m_flags := m_flags) (m_fault := m_fault) (m_place := m_place) (m_numbered := m_numbered) (m_depth := m_depth) (m_value := m_value) (m_isNot := m_isNot) (m_least0 := m_least0) (m_most0 := m_most0) (m_slot := m_slot) (m_work := m_work) (m_got := m_got) (m_rowMany := m_rowMany) (m_charAt := m_charAt) (m_charWide := m_charWide) (m_trail := m_trail) (m_isMatch := m_isMatch) (m_matchGroups := m_matchGroups) (m_allFrom := m_allFrom) (m_allBefore := m_allBefore) (m_founds := m_founds) (m_pieces := m_pieces) (m_writtenMany := m_writtenMany) (m_templateWide := m_templateWide) (m_tooMuch := m_tooMuch) (x := 7) (y := m_at) h80 (by omega) (by omega)) (fun oc G2 h => by rcases h with ⟨_, _, h, _⟩ <;> exact ⟨_, h⟩) (by omega) m_MO_wrong ml_MO_304 im_MO_wrong se_MO_wrong c_MO h80.2.2 (Nat.le_of_ble_eq_true rfl) d_MO_posix_266 rfl ?_
              intro v G256 hq
              rcases hq with ⟨f2257, p2258, hv, hfk, hlk, hsk, hN80, hq259⟩
              cases hv
              have h84 := hfk.get h84 (by decide)
              have h87 := hfk.get h87 (by decide)
              have h88 := hfk.get h88 (by decide)
              have h81 := hfk.get h81 (by decide)
              have h82 := hfk.get h82 (by decide)
              have hfr := hfr.tr hfk (by decide)
              have hlen := hlk.trans hlen
              have hsl := hsk.trans hsl
              have h80 := hN80
              change ab_W _ _ _ G256 269 [some (vR 80), some (vz m_at), some (vz 0), some (vz m_taped), some (vz 0)] [] _
              refine ab_vret rfl d_MO_posix_269 ?_
              rw [hQ]; exact (Or.inl ⟨_, _, _, rfl, hfr, hlen, hsl, h80, h87, h88, (by omega)⟩)
        · cases hv
          rw [hGe]
          change ab_W _ _ _ G7 246 [some (vR 80), some (vz m_at), some (vz 0), some (vz m_taped), some (vz 0)] [vz (-1)] _
          refine zz_bipush d_MO_posix_246 (by decide) ?_
          refine zz_icmp_ne (tgt := 262) d_MO_posix_248 (by decide) (by decide) (by decide) (fun c260 => ?_) (fun c260 => absurd c260 (by decide))
          refine ab_aload_n d_MO_posix_262 rfl ?_
          refine zz_bipush d_MO_posix_263 (by decide) ?_
          refine ab_iload_n d_MO_posix_265 rfl ?_
          refine ab_callV (d' := d - 1) (as := [vz 7, vz m_at]) (st := []) (r := _) (z_MO_wrong (o := o) (m_thrown := m_thrown) (m_taped := m_taped) (m_length := m_length) (m_out := m_out) (m_wide := m_wide) (m_gathered := m_gathered) (m_sets := m_sets) (m_ranges := m_ranges) (m_nodes := m_nodes) (m_at := ((m_at + 2) + 0)) (m_flags := m_flags) (m_fault := m_fault) (m_place := m_place) (m_numbered := m_numbered) (m_depth := m_depth) (m_value := m_value) (m_isNot := m_isNot) (m_least0 := m_least0) (m_most0 := m_most0) (m_slot := m_slot) (m_work := m_work) (m_got := m_got) (m_rowMany := m_rowMany) (m_charAt := m_charAt) (m_charWide := m_charWide) (m_trail := m_trail) (m_isMatch := m_isMatch) (m_matchGroups := m_matchGroups) (m_allFrom := m_allFrom) (m_allBefore := m_allBefore) (m_founds := m_founds) (m_pieces := m_pieces) (m_writtenMany := m_writtenMany) (m_templateWide := m_templateWide) (m_tooMuch := m_tooMuch) (x := 7) (y := m_at) h80 (by omega) (by omega)) (fun oc G2 h => by rcases h with ⟨_, _, h, _⟩ <;> exact ⟨_, h⟩) (by omega) m_MO_wrong ml_MO_304 im_MO_wrong se_MO_wrong c_MO h80.2.2 (Nat.le_of_ble_eq_true rfl) d_MO_posix_266 rfl ?_
          intro v G261 hq
          rcases hq with ⟨f2262, p2263, hv, hfk, hlk, hsk, hN80, hq264⟩
          cases hv
          have h84 := hfk.get h84 (by decide)
          have h87 := hfk.get h87 (by decide)
          have h88 := hfk.get h88 (by decide)
          have h81 := hfk.get h81 (by decide)
          have h82 := hfk.get h82 (by decide)
          have hfr := hfr.tr hfk (by decide)
          have hlen := hlk.trans hlen
          have hsl := hsk.trans hsl
          have h80 := hN80
          change ab_W _ _ _ G261 269 [some (vR 80), some (vz m_at), some (vz 0), some (vz m_taped), some (vz 0)] [] _
          refine ab_vret rfl d_MO_posix_269 ?_
          rw [hQ]; exact (Or.inl ⟨_, _, _, rfl, hfr, hlen, hsl, h80, h87, h88, (by omega)⟩)
    · refine zz_iconst d_MO_posix_25 ?_
      refine ab_goto (tgt := 30) d_MO_posix_26 (by decide) ?_
      refine ab_istore_n d_MO_posix_30 (Nat.le_of_ble_eq_true rfl) (Nat.le_of_ble_eq_true rfl) rfl ?_
      change ab_W _ _ _ G1 31 [some (vR 80), some (vz m_at), some (vz 1), none, none] [] _
      refine ab_aload_n d_MO_posix_31 rfl ?_
      refine ab_dup d_MO_posix_32 rfl ?_
      refine ab_getf (fs := mof m_thrown m_taped m_length m_out m_wide m_gathered m_sets m_ranges m_nodes (m_at + 2) m_flags m_fault m_place m_numbered m_depth m_value m_isNot m_least0 m_most0 m_slot m_work m_got m_rowMany m_charAt m_charWide m_trail m_isMatch m_matchGroups m_allFrom m_allBefore m_founds m_pieces m_writtenMany m_templateWide m_tooMuch) f_MO_279 d_MO_posix_33 h80.2.2 rfl ?_
      refine ab_iload_n d_MO_posix_36 rfl ?_
      refine zz_if_eq (tgt := 44) d_MO_posix_37 (by decide) (by decide) (fun c265 => absurd c265 (by decide)) (fun c265 => ?_)
      refine zz_iconst d_MO_posix_40 ?_
      refine ab_goto (tgt := 45) d_MO_posix_41 (by decide) ?_
      refine zz_iadd d_MO_posix_45 ?_
      refine ab_putf (fs := mof m_thrown m_taped m_length m_out m_wide m_gathered m_sets m_ranges m_nodes (m_at + 2) m_flags m_fault m_place m_numbered m_depth m_value m_isNot m_least0 m_most0 m_slot m_work m_got m_rowMany m_charAt m_charWide m_trail m_isMatch m_matchGroups m_allFrom m_allBefore m_founds m_pieces m_writtenMany m_templateWide m_tooMuch) f_MO_279 (Or.inl rfl) d_MO_posix_46 h80.2.2 (Nat.le_of_ble_eq_true rfl) (fun _ => ⟨rfl, rfl⟩) (h80.2.1 (by decide)) ?_
      obtain ⟨G266, eG266⟩ : ∃ z : ab_G, z = List.set G1 80 (ab_ob 12 (mof m_thrown m_taped m_length m_out m_wide m_gathered m_sets m_ranges m_nodes ((m_at + 2) + 1) m_flags m_fault m_place m_numbered m_depth m_value m_isNot m_least0 m_most0 m_slot m_work m_got m_rowMany m_charAt m_charWide m_trail m_isMatch m_matchGroups m_allFrom m_allBefore m_founds m_pieces m_writtenMany m_templateWide m_tooMuch)) := ⟨_, rfl⟩
      have h84 := h84.keep h80 eG266 (by decide)
      have h87 := h87.keep h80 eG266 (by decide)
      have h88 := h88.keep h80 eG266 (by decide)
      have h81 := h81.keep h80 eG266 (by decide)
      have h82 := h82.keep h80 eG266 (by decide)
      have hlen := (z_len eG266).trans hlen
      have hsl := (z_sl h80 eG266 rfl).trans hsl
      have hfr := hfr.wr h80 eG266 (by decide)
      have h80 := h80.kept eG266
      change ab_W _ _ _ (List.set G1 80 (ab_ob 12 (mof m_thrown m_taped m_length m_out m_wide m_gathered m_sets m_ranges m_nodes ((m_at + 2) + 1) m_flags m_fault m_place m_numbered m_depth m_value m_isNot m_least0 m_most0 m_slot m_work m_got m_rowMany m_charAt m_charWide m_trail m_isMatch m_matchGroups m_allFrom m_allBefore m_founds m_pieces m_writtenMany m_templateWide m_tooMuch))) 49 [some (vR 80), some (vz m_at), some (vz 1), none, none] [] _
      rw [← eG266]
      refine ab_aload_n d_MO_posix_49 rfl ?_
      refine ab_getf (fs := mof m_thrown m_taped m_length m_out m_wide m_gathered m_sets m_ranges m_nodes ((m_at + 2) + 1) m_flags m_fault m_place m_numbered m_depth m_value m_isNot m_least0 m_most0 m_slot m_work m_got m_rowMany m_charAt m_charWide m_trail m_isMatch m_matchGroups m_allFrom m_allBefore m_founds m_pieces m_writtenMany m_templateWide m_tooMuch) f_MO_223 d_MO_posix_50 h80.2.2 rfl ?_
      refine ab_istore_n d_MO_posix_53 (Nat.le_of_ble_eq_true rfl) (Nat.le_of_ble_eq_true rfl) rfl ?_
      change ab_W _ _ _ G266 54 [some (vR 80), some (vz m_at), some (vz 1), some (vz m_taped), none] [] _
      refine ab_aload_n d_MO_posix_54 rfl ?_
      refine ab_getf (fs := mof m_thrown m_taped m_length m_out m_wide m_gathered m_sets m_ranges m_nodes ((m_at + 2) + 1) m_flags m_fault m_place m_numbered m_depth m_value m_isNot m_least0 m_most0 m_slot m_work m_got m_rowMany m_charAt m_charWide m_trail m_isMatch m_matchGroups m_allFrom m_allBefore m_founds m_pieces m_writtenMany m_templateWide m_tooMuch) f_MO_19 d_MO_posix_55 h80.2.2 rfl ?_
      refine ab_aload_n d_MO_posix_58 rfl ?_
      refine ab_getf (fs := mof m_thrown m_taped m_length m_out m_wide m_gathered m_sets m_ranges m_nodes ((m_at + 2) + 1) m_flags m_fault m_place m_numbered m_depth m_value m_isNot m_least0 m_most0 m_slot m_work m_got m_rowMany m_charAt m_charWide m_trail m_isMatch m_matchGroups m_allFrom m_allBefore m_founds m_pieces m_writtenMany m_templateWide m_tooMuch) f_MO_279 d_MO_posix_59 h80.2.2 rfl ?_
      refine ab_iload_n d_MO_posix_62 rfl ?_
      refine zz_bipush d_MO_posix_63 (by decide) ?_
      refine zz_bipush d_MO_posix_65 (by decide) ?_
      refine zz_bipush d_MO_posix_67 (by decide) ?_
      refine zz_bipush d_MO_posix_69 (by decide) ?_
      refine zz_bipush d_MO_posix_71 (by decide) ?_
      refine ab_callS (d' := d - 1) (as := [vR 84, vz ((m_at + 2) + 1), vz m_taped, vz 100, vz 105, vz 103, vz 105, vz 116]) (st := []) (z_MO_spells (o := o) (ar := 84) (la := 284) (m := 2000) (f := A_tape) (p := ((m_at + 2) + 1)) (n := m_taped) (c1 := 100) (c2 := 105) (c3 := 103) (c4 := 105) (c5 := 116) h84 (by omega) (by omega) jtp (by omega)) (fun oc G2 h => by rcases h with ⟨_, h, _⟩ <;> exact ⟨_, h⟩) (by omega) m_MO_spells ml_MO_333 st_MO_spells (Nat.le_of_ble_eq_true rfl) d_MO_posix_73 rfl ?_
      intro v G267 hq
      rcases hq with ⟨v268, hv, hGe, hq269, hq270⟩
      cases hv
      rw [hGe]
      change ab_W _ _ _ G266 76 [some (vR 80), some (vz m_at), some (vz 1), some (vz m_taped), none] [vz v268] _
      refine zz_if_eq (tgt := 83) d_MO_posix_76 (by decide) (by omega) (fun c271 => ?_) (fun c271 => ?_)
      · refine ab_aload_n d_MO_posix_83 rfl ?_
        refine ab_getf (fs := mof m_thrown m_taped m_length m_out m_wide m_gathered m_sets m_ranges m_nodes ((m_at + 2) + 1) m_flags m_fault m_place m_numbered m_depth m_value m_isNot m_least0 m_most0 m_slot m_work m_got m_rowMany m_charAt m_charWide m_trail m_isMatch m_matchGroups m_allFrom m_allBefore m_founds m_pieces m_writtenMany m_templateWide m_tooMuch) f_MO_19 d_MO_posix_84 h80.2.2 rfl ?_
        refine ab_aload_n d_MO_posix_87 rfl ?_
        refine ab_getf (fs := mof m_thrown m_taped m_length m_out m_wide m_gathered m_sets m_ranges m_nodes ((m_at + 2) + 1) m_flags m_fault m_place m_numbered m_depth m_value m_isNot m_least0 m_most0 m_slot m_work m_got m_rowMany m_charAt m_charWide m_trail m_isMatch m_matchGroups m_allFrom m_allBefore m_founds m_pieces m_writtenMany m_templateWide m_tooMuch) f_MO_279 d_MO_posix_88 h80.2.2 rfl ?_
        refine ab_iload_n d_MO_posix_91 rfl ?_
        refine zz_bipush d_MO_posix_92 (by decide) ?_
        refine zz_bipush d_MO_posix_94 (by decide) ?_
        refine zz_bipush d_MO_posix_96 (by decide) ?_
        refine zz_bipush d_MO_posix_98 (by decide) ?_
        refine zz_bipush d_MO_posix_100 (by decide) ?_
        refine ab_callS (d' := d - 1) (as := [vR 84, vz ((m_at + 2) + 1), vz m_taped, vz 97, vz 108, vz 112, vz 104, vz 97]) (st := []) (z_MO_spells (o := o) (ar := 84) (la := 284) (m := 2000) (f := A_tape) (p := ((m_at + 2) + 1)) (n := m_taped) (c1 := 97) (c2 := 108) (c3 := 112) (c4 := 104) (c5 := 97) h84 (by omega) (by omega) jtp (by omega)) (fun oc G2 h => by rcases h with ⟨_, h, _⟩ <;> exact ⟨_, h⟩) (by omega) m_MO_spells ml_MO_333 st_MO_spells (Nat.le_of_ble_eq_true rfl) d_MO_posix_102 rfl ?_
        intro v G272 hq
        rcases hq with ⟨v273, hv, hGe, hq274, hq275⟩
        cases hv
        rw [hGe]
        change ab_W _ _ _ G266 105 [some (vR 80), some (vz m_at), some (vz 1), some (vz m_taped), none] [vz v273] _
        refine zz_if_eq (tgt := 113) d_MO_posix_105 (by decide) (by omega) (fun c276 => ?_) (fun c276 => ?_)
        · refine ab_aload_n d_MO_posix_113 rfl ?_
          refine ab_getf (fs := mof m_thrown m_taped m_length m_out m_wide m_gathered m_sets m_ranges m_nodes ((m_at + 2) + 1) m_flags m_fault m_place m_numbered m_depth m_value m_isNot m_least0 m_most0 m_slot m_work m_got m_rowMany m_charAt m_charWide m_trail m_isMatch m_matchGroups m_allFrom m_allBefore m_founds m_pieces m_writtenMany m_templateWide m_tooMuch) f_MO_19 d_MO_posix_114 h80.2.2 rfl ?_
          refine ab_aload_n d_MO_posix_117 rfl ?_
          refine ab_getf (fs := mof m_thrown m_taped m_length m_out m_wide m_gathered m_sets m_ranges m_nodes ((m_at + 2) + 1) m_flags m_fault m_place m_numbered m_depth m_value m_isNot m_least0 m_most0 m_slot m_work m_got m_rowMany m_charAt m_charWide m_trail m_isMatch m_matchGroups m_allFrom m_allBefore m_founds m_pieces m_writtenMany m_templateWide m_tooMuch) f_MO_279 d_MO_posix_118 h80.2.2 rfl ?_
          refine ab_iload_n d_MO_posix_121 rfl ?_
          refine zz_bipush d_MO_posix_122 (by decide) ?_
          refine zz_bipush d_MO_posix_124 (by decide) ?_
          refine zz_bipush d_MO_posix_126 (by decide) ?_
          refine zz_bipush d_MO_posix_128 (by decide) ?_
          refine zz_bipush d_MO_posix_130 (by decide) ?_
          refine ab_callS (d' := d - 1) (as := [vR 84, vz ((m_at + 2) + 1), vz m_taped, vz 117, vz 112, vz 112, vz 101, vz 114]) (st := []) (z_MO_spells (o := o) (ar := 84) (la := 284) (m := 2000) (f := A_tape) (p := ((m_at + 2) + 1)) (n := m_taped) (c1 := 117) (c2 := 112) (c3 := 112) (c4 := 101) (c5 := 114) h84 (by omega) (by omega) jtp (by omega)) (fun oc G2 h => by rcases h with ⟨_, h, _⟩ <;> exact ⟨_, h⟩) (by omega) m_MO_spells ml_MO_333 st_MO_spells (Nat.le_of_ble_eq_true rfl) d_MO_posix_132 rfl ?_
          intro v G277 hq
          rcases hq with ⟨v278, hv, hGe, hq279, hq280⟩
          cases hv
          rw [hGe]
          change ab_W _ _ _ G266 135 [some (vR 80), some (vz m_at), some (vz 1), some (vz m_taped), none] [vz v278] _
          refine zz_if_eq (tgt := 143) d_MO_posix_135 (by decide) (by omega) (fun c281 => ?_) (fun c281 => ?_)
          · refine ab_aload_n d_MO_posix_143 rfl ?_
            refine ab_getf (fs := mof m_thrown m_taped m_length m_out m_wide m_gathered m_sets m_ranges m_nodes ((m_at + 2) + 1) m_flags m_fault m_place m_numbered m_depth m_value m_isNot m_least0 m_most0 m_slot m_work m_got m_rowMany m_charAt m_charWide m_trail m_isMatch m_matchGroups m_allFrom m_allBefore m_founds m_pieces m_writtenMany m_templateWide m_tooMuch) f_MO_19 d_MO_posix_144 h80.2.2 rfl ?_
            refine ab_aload_n d_MO_posix_147 rfl ?_
            refine ab_getf (fs := mof m_thrown m_taped m_length m_out m_wide m_gathered m_sets m_ranges m_nodes ((m_at + 2) + 1) m_flags m_fault m_place m_numbered m_depth m_value m_isNot m_least0 m_most0 m_slot m_work m_got m_rowMany m_charAt m_charWide m_trail m_isMatch m_matchGroups m_allFrom m_allBefore m_founds m_pieces m_writtenMany m_templateWide m_tooMuch) f_MO_279 d_MO_posix_148 h80.2.2 rfl ?_
            refine ab_iload_n d_MO_posix_151 rfl ?_
            refine zz_bipush d_MO_posix_152 (by decide) ?_
            refine zz_bipush d_MO_posix_154 (by decide) ?_
            refine zz_bipush d_MO_posix_156 (by decide) ?_
            refine zz_bipush d_MO_posix_158 (by decide) ?_
            refine zz_bipush d_MO_posix_160 (by decide) ?_
            refine ab_callS (d' := d - 1) (as := [vR 84, vz ((m_at + 2) + 1), vz m_taped, vz 108, vz 111, vz 119, vz 101, vz 114]) (st := []) (z_MO_spells (o := o) (ar := 84) (la := 284) (m := 2000) (f := A_tape) (p := ((m_at + 2) + 1)) (n := m_taped) (c1 := 108) (c2 := 111) (c3 := 119) (c4 := 101) (c5 := 114) h84 (by omega) (by omega) jtp (by omega)) (fun oc G2 h => by rcases h with ⟨_, h, _⟩ <;> exact ⟨_, h⟩) (by omega) m_MO_spells ml_MO_333 st_MO_spells (Nat.le_of_ble_eq_true rfl) d_MO_posix_162 rfl ?_
            intro v G282 hq
            rcases hq with ⟨v283, hv, hGe, hq284, hq285⟩
            cases hv
            rw [hGe]
            change ab_W _ _ _ G266 165 [some (vR 80), some (vz m_at), some (vz 1), some (vz m_taped), none] [vz v283] _
            refine zz_if_eq (tgt := 173) d_MO_posix_165 (by decide) (by omega) (fun c286 => ?_) (fun c286 => ?_)
            · refine ab_aload_n d_MO_posix_173 rfl ?_
              refine ab_getf (fs := mof m_thrown m_taped m_length m_out m_wide m_gathered m_sets m_ranges m_nodes ((m_at + 2) + 1) m_flags m_fault m_place m_numbered m_depth m_value m_isNot m_least0 m_most0 m_slot m_work m_got m_rowMany m_charAt m_charWide m_trail m_isMatch m_matchGroups m_allFrom m_allBefore m_founds m_pieces m_writtenMany m_templateWide m_tooMuch) f_MO_19 d_MO_posix_174 h80.2.2 rfl ?_
              refine ab_aload_n d_MO_posix_177 rfl ?_
              refine ab_getf (fs := mof m_thrown m_taped m_length m_out m_wide m_gathered m_sets m_ranges m_nodes ((m_at + 2) + 1) m_flags m_fault m_place m_numbered m_depth m_value m_isNot m_least0 m_most0 m_slot m_work m_got m_rowMany m_charAt m_charWide m_trail m_isMatch m_matchGroups m_allFrom m_allBefore m_founds m_pieces m_writtenMany m_templateWide m_tooMuch) f_MO_279 d_MO_posix_178 h80.2.2 rfl ?_
              refine ab_iload_n d_MO_posix_181 rfl ?_
              refine zz_bipush d_MO_posix_182 (by decide) ?_
              refine zz_bipush d_MO_posix_184 (by decide) ?_
              refine zz_bipush d_MO_posix_186 (by decide) ?_
              refine zz_bipush d_MO_posix_188 (by decide) ?_
              refine zz_bipush d_MO_posix_190 (by decide) ?_
              refine ab_callS (d' := d - 1) (as := [vR 84, vz ((m_at + 2) + 1), vz m_taped, vz 112, vz 117, vz 110, vz 99, vz 116]) (st := []) (z_MO_spells (o := o) (ar := 84) (la := 284) (m := 2000) (f := A_tape) (p := ((m_at + 2) + 1)) (n := m_taped) (c1 := 112) (c2 := 117) (c3 := 110) (c4 := 99) (c5 := 116) h84 (by omega) (by omega) jtp (by omega)) (fun oc G2 h => by rcases h with ⟨_, h, _⟩ <;> exact ⟨_, h⟩) (by omega) m_MO_spells ml_MO_333 st_MO_spells (Nat.le_of_ble_eq_true rfl) d_MO_posix_192 rfl ?_
              intro v G287 hq
              rcases hq with ⟨v288, hv, hGe, hq289, hq290⟩
              cases hv
              rw [hGe]
              change ab_W _ _ _ G266 195 [some (vR 80), some (vz m_at), some (vz 1), some (vz m_taped), none] [vz v288] _
              refine zz_if_eq (tgt := 203) d_MO_posix_195 (by decide) (by omega) (fun c291 => ?_) (fun c291 => ?_)
              · refine ab_aload_n d_MO_posix_203 rfl ?_
                refine ab_getf (fs := mof m_thrown m_taped m_length m_out m_wide m_gathered m_sets m_ranges m_nodes ((m_at + 2) + 1) m_flags m_fault m_place m_numbered m_depth m_value m_isNot m_least0 m_most0 m_slot m_work m_got m_rowMany m_charAt m_charWide m_trail m_isMatch m_matchGroups m_allFrom m_allBefore m_founds m_pieces m_writtenMany m_templateWide m_tooMuch) f_MO_19 d_MO_posix_204 h80.2.2 rfl ?_
                refine ab_aload_n d_MO_posix_207 rfl ?_
                refine ab_getf (fs := mof m_thrown m_taped m_length m_out m_wide m_gathered m_sets m_ranges m_nodes ((m_at + 2) + 1) m_flags m_fault m_place m_numbered m_depth m_value m_isNot m_least0 m_most0 m_slot m_work m_got m_rowMany m_charAt m_charWide m_trail m_isMatch m_matchGroups m_allFrom m_allBefore m_founds m_pieces m_writtenMany m_templateWide m_tooMuch) f_MO_279 d_MO_posix_208 h80.2.2 rfl ?_
                refine ab_iload_n d_MO_posix_211 rfl ?_
                refine zz_bipush d_MO_posix_212 (by decide) ?_
                refine zz_bipush d_MO_posix_214 (by decide) ?_
                refine zz_bipush d_MO_posix_216 (by decide) ?_
                refine zz_bipush d_MO_posix_218 (by decide) ?_
                refine zz_bipush d_MO_posix_220 (by decide) ?_
                refine ab_callS (d' := d - 1) (as := [vR 84, vz ((m_at + 2) + 1), vz m_taped, vz 115, vz 112, vz 97, vz 99, vz 101]) (st := []) (z_MO_spells (o := o) (ar := 84) (la := 284) (m := 2000) (f := A_tape) (p := ((m_at + 2) + 1)) (n := m_taped) (c1 := 115) (c2 := 112) (c3 := 97) (c4 := 99) (c5 := 101) h84 (by omega) (by omega) jtp (by omega)) (fun oc G2 h => by rcases h with ⟨_, h, _⟩ <;> exact ⟨_, h⟩) (by omega) m_MO_spells ml_MO_333 st_MO_spells (Nat.le_of_ble_eq_true rfl) d_MO_posix_222 rfl ?_
                intro v G292 hq
                rcases hq with ⟨v293, hv, hGe, hq294, hq295⟩
                cases hv
                rw [hGe]
                change ab_W _ _ _ G266 225 [some (vR 80), some (vz m_at), some (vz 1), some (vz m_taped), none] [vz v293] _
                refine zz_if_eq (tgt := 233) d_MO_posix_225 (by decide) (by omega) (fun c296 => ?_) (fun c296 => ?_)
                · refine zz_iconst d_MO_posix_233 ?_
                  refine ab_istore d_MO_posix_234 (Nat.le_of_ble_eq_true rfl) (Nat.le_of_ble_eq_true rfl) rfl ?_
                  change ab_W _ _ _ G266 236 [some (vR 80), some (vz m_at), some (vz 1), some (vz m_taped), some (vz (-1))] [] _
                  refine ab_iload d_MO_posix_236 rfl ?_
                  refine zz_if_lt (tgt := 262) d_MO_posix_238 (by decide) (by decide) (fun c297 => ?_) (fun c297 => absurd c297 (by decide))
                  refine ab_aload_n d_MO_posix_262 rfl ?_
                  refine zz_bipush d_MO_posix_263 (by decide) ?_
                  refine ab_iload_n d_MO_posix_265 rfl ?_
                  refine ab_callV (d' := d - 1) (as := [vz 7, vz m_at]) (st := []) (r := _) (z_MO_wrong (o := o) (m_thrown := m_thrown) (m_taped := m_taped) (m_length := m_length) (m_out := m_out) (m_wide := m_wide) (m_gathered := m_gathered) (m_sets := m_sets) (m_ranges := m_ranges) (m_nodes := m_nodes) (m_at := ((m_at + 2) + 1)) (m_flags := m_flags) (m_fault := m_fault) (m_place := m_place) (m_numbered := m_numbered) (m_depth := m_depth) (m_value := m_value) (m_isNot := m_isNot) (m_least0 := m_least0) (m_most0 := m_most0) (m_slot := m_slot) (m_work := m_work) (m_got := m_got) (m_rowMany := m_rowMany) (m_charAt := m_charAt) (m_charWide := m_charWide) (m_trail := m_trail) (m_isMatch := m_isMatch) (m_matchGroups := m_matchGroups) (m_allFrom := m_allFrom) (m_allBefore := m_allBefore) (m_founds := m_founds) (m_pieces := m_pieces) (m_writtenMany := m_writtenMany) (m_templateWide := m_templateWide) (m_tooMuch := m_tooMuch) (x := 7) (y := m_at) h80 (by omega) (by omega)) (fun oc G2 h => by rcases h with ⟨_, _, h, _⟩ <;> exact ⟨_, h⟩) (by omega) m_MO_wrong ml_MO_304 im_MO_wrong se_MO_wrong c_MO h80.2.2 (Nat.le_of_ble_eq_true rfl) d_MO_posix_266 rfl ?_
                  intro v G298 hq
                  rcases hq with ⟨f2299, p2300, hv, hfk, hlk, hsk, hN80, hq301⟩
                  cases hv
                  have h84 := hfk.get h84 (by decide)
                  have h87 := hfk.get h87 (by decide)
                  have h88 := hfk.get h88 (by decide)
                  have h81 := hfk.get h81 (by decide)
                  have h82 := hfk.get h82 (by decide)
                  have hfr := hfr.tr hfk (by decide)
                  have hlen := hlk.trans hlen
                  have hsl := hsk.trans hsl
                  have h80 := hN80
                  change ab_W _ _ _ G298 269 [some (vR 80), some (vz m_at), some (vz 1), some (vz m_taped), some (vz (-1))] [] _
                  refine ab_vret rfl d_MO_posix_269 ?_
                  rw [hQ]; exact (Or.inl ⟨_, _, _, rfl, hfr, hlen, hsl, h80, h87, h88, (by omega)⟩)
                · refine zz_bipush d_MO_posix_228 (by decide) ?_
                  refine ab_goto (tgt := 234) d_MO_posix_230 (by decide) ?_
                  refine ab_istore d_MO_posix_234 (Nat.le_of_ble_eq_true rfl) (Nat.le_of_ble_eq_true rfl) rfl ?_
                  change ab_W _ _ _ G266 236 [some (vR 80), some (vz m_at), some (vz 1), some (vz m_taped), some (vz 11)] [] _
                  refine ab_iload d_MO_posix_236 rfl ?_
                  refine zz_if_lt (tgt := 262) d_MO_posix_238 (by decide) (by decide) (fun c302 => absurd c302 (by decide)) (fun c302 => ?_)
                  refine ab_aload_n d_MO_posix_241 rfl ?_
                  refine zz_iconst d_MO_posix_242 ?_
                  refine ab_callV (d' := d - 1) (as := [vz 5]) (st := []) (r := _) (z_MO_here (o := o) (m_thrown := m_thrown) (m_taped := m_taped) (m_length := m_length) (m_out := m_out) (m_wide := m_wide) (m_gathered := m_gathered) (m_sets := m_sets) (m_ranges := m_ranges) (m_nodes := m_nodes) (m_at := ((m_at + 2) + 1)) (m_flags := m_flags) (m_fault := m_fault) (m_place := m_place) (m_numbered := m_numbered) (m_depth := m_depth) (m_value := m_value) (m_isNot := m_isNot) (m_least0 := m_least0) (m_most0 := m_most0) (m_slot := m_slot) (m_work := m_work) (m_got := m_got) (m_rowMany := m_rowMany) (m_charAt := m_charAt) (m_charWide := m_charWide) (m_trail := m_trail) (m_isMatch := m_isMatch) (m_matchGroups := m_matchGroups) (m_allFrom := m_allFrom) (m_allBefore := m_allBefore) (m_founds := m_founds) (m_pieces := m_pieces) (m_writtenMany := m_writtenMany) (m_templateWide := m_templateWide) (m_tooMuch := m_tooMuch) (A_tape := A_tape) (k := 5) h80 h84 (by omega) (by omega) jtp (by omega)) (fun oc G2 h => by rcases h with ⟨h, _⟩ | ⟨h, _⟩ <;> exact ⟨_, h⟩) (by omega) m_MO_here ml_MO_297 im_MO_here se_MO_here c_MO h80.2.2 (Nat.le_of_ble_eq_true rfl) d_MO_posix_243 rfl ?_
                  intro v G303 hq
                  rcases hq with ⟨hv, hGe, hq304⟩ | ⟨hv, hGe, hq305⟩
                  · cases hv
                    rw [hGe]
                    change ab_W _ _ _ G266 246 [some (vR 80), some (vz m_at), some (vz 1), some (vz m_taped), some (vz 11)] [vz (A_tape (((m_at + 2) + 1) + 5))] _
                    refine zz_bipush d_MO_posix_246 (by decide) ?_
                    refine zz_icmp_ne (tgt := 262) d_MO_posix_248 (by decide) (by omega) (by decide) (fun c306 => ?_) (fun c306 => ?_)
                    · refine ab_aload_n d_MO_posix_262 rfl ?_
                      refine zz_bipush d_MO_posix_263 (by decide) ?_
                      refine ab_iload_n d_MO_posix_265 rfl ?_
                      refine ab_callV (d' := d - 1) (as := [vz 7, vz m_at]) (st := []) (r := _) (z_MO_wrong (o := o) (m_thrown := m_thrown) (m_taped := m_taped) (m_length := m_length) (m_out := m_out) (m_wide := m_wide) (m_gathered := m_gathered) (m_sets := m_sets) (m_ranges := m_ranges) (m_nodes := m_nodes) (m_at := ((m_at + 2) + 1)) (m_flags := m_flags) (m_fault := m_fault) (m_place := m_place) (m_numbered := m_numbered) (m_depth := m_depth) (m_value := m_value) (m_isNot := m_isNot) (m_least0 := m_least0) (m_most0 := m_most0) (m_slot := m_slot) (m_work := m_work) (m_got := m_got) (m_rowMany := m_rowMany) (m_charAt := m_charAt) (m_charWide := m_charWide) (m_trail := m_trail) (m_isMatch := m_isMatch) (m_matchGroups := m_matchGroups) (m_allFrom := m_allFrom) (m_allBefore := m_allBefore) (m_founds := m_founds) (m_pieces := m_pieces) (m_writtenMany := m_writtenMany) (m_templateWide := m_templateWide) (m_tooMuch := m_tooMuch) (x := 7) (y := m_at) h80 (by omega) (by omega)) (fun oc G2 h => by rcases h with ⟨_, _, h, _⟩ <;> exact ⟨_, h⟩) (by omega) m_MO_wrong ml_MO_304 im_MO_wrong se_MO_wrong c_MO h80.2.2 (Nat.le_of_ble_eq_true rfl) d_MO_posix_266 rfl ?_
                      intro v G307 hq
                      rcases hq with ⟨f2308, p2309, hv, hfk, hlk, hsk, hN80, hq310⟩
                      cases hv
                      have h84 := hfk.get h84 (by decide)
                      have h87 := hfk.get h87 (by decide)
                      have h88 := hfk.get h88 (by decide)
                      have h81 := hfk.get h81 (by decide)
                      have h82 := hfk.get h82 (by decide)
                      have hfr := hfr.tr hfk (by decide)
                      have hlen := hlk.trans hlen
                      have hsl := hsk.trans hsl
                      have h80 := hN80
                      change ab_W _ _ _ G307 269 [some (vR 80), some (vz m_at), some (vz 1), some (vz m_taped), some (vz 11)] [] _
                      refine ab_vret rfl d_MO_posix_269 ?_
                      rw [hQ]; exact (Or.inl ⟨_, _, _, rfl, hfr, hlen, hsl, h80, h87, h88, (by omega)⟩)
                    · refine ab_aload_n d_MO_posix_251 rfl ?_
                      refine zz_bipush d_MO_posix_252 (by decide) ?_
                      refine ab_callV (d' := d - 1) (as := [vz 6]) (st := []) (r := _) (z_MO_here (o := o) (m_thrown := m_thrown) (m_taped := m_taped) (m_length := m_length) (m_out := m_out) (m_wide := m_wide) (m_gathered := m_gathered) (m_sets := m_sets) (m_ranges := m_ranges) (m_nodes := m_nodes) (m_at := ((m_at + 2) + 1)) (m_flags := m_flags) (m_fault := m_fault) (m_place := m_place) (m_numbered := m_numbered) (m_depth := m_depth) (m_value := m_value) (m_isNot := m_isNot) (m_least0 := m_least0) (m_most0 := m_most0) (m_slot := m_slot) (m_work := m_work) (m_got := m_got) (m_rowMany := m_rowMany) (m_charAt := m_charAt) (m_charWide := m_charWide) (m_trail := m_trail) (m_isMatch := m_isMatch) (m_matchGroups := m_matchGroups) (m_allFrom := m_allFrom) (m_allBefore := m_allBefore) (m_founds := m_founds) (m_pieces := m_pieces) (m_writtenMany := m_writtenMany) (m_templateWide := m_templateWide) (m_tooMuch := m_tooMuch) (A_tape := A_tape) (k := 6) h80 h84 (by omega) (by omega) jtp (by omega)) (fun oc G2 h => by rcases h with ⟨h, _⟩ | ⟨h, _⟩ <;> exact ⟨_, h⟩) (by omega) m_MO_here ml_MO_297 im_MO_here se_MO_here c_MO h80.2.2 (Nat.le_of_ble_eq_true rfl) d_MO_posix_254 rfl ?_
                      intro v G311 hq
                      rcases hq with ⟨hv, hGe, hq312⟩ | ⟨hv, hGe, hq313⟩
                      · cases hv
                        rw [hGe]
                        change ab_W _ _ _ G266 257 [some (vR 80), some (vz m_at), some (vz 1), some (vz m_taped), some (vz 11)] [vz (A_tape (((m_at + 2) + 1) + 6))] _
                        refine zz_bipush d_MO_posix_257 (by decide) ?_
                        refine zz_icmp_eq (tgt := 270) d_MO_posix_259 (by decide) (by omega) (by decide) (fun c314 => ?_) (fun c314 => ?_)
                        · refine ab_aload_n d_MO_posix_270 rfl ?_
                          refine ab_iload d_MO_posix_271 rfl ?_
                          refine ab_iload_n d_MO_posix_273 rfl ?_
                          refine ab_callV (d' := d - 1) (as := [vz 11, vz 1]) (st := []) (r := _) (z_MO_gatherNamed (o := o) (m_thrown := m_thrown) (m_taped := m_taped) (m_length := m_length) (m_out := m_out) (m_wide := m_wide) (m_gathered := m_gathered) (m_sets := m_sets) (m_ranges := m_ranges) (m_nodes := m_nodes) (m_at := ((m_at + 2) + 1)) (m_flags := m_flags) (m_fault := m_fault) (m_place := m_place) (m_numbered := m_numbered) (m_depth := m_depth) (m_value := m_value) (m_isNot := m_isNot) (m_least0 := m_least0) (m_most0 := m_most0) (m_slot := m_slot) (m_work := m_work) (m_got := m_got) (m_rowMany := m_rowMany) (m_charAt := m_charAt) (m_charWide := m_charWide) (m_trail := m_trail) (m_isMatch := m_isMatch) (m_matchGroups := m_matchGroups) (m_allFrom := m_allFrom) (m_allBefore := m_allBefore) (m_founds := m_founds) (m_pieces := m_pieces) (m_writtenMany := m_writtenMany) (m_templateWide := m_templateWide) (m_tooMuch := m_tooMuch) (LO := LO) (HI := HI) (MK := MK) (P := P) (w := 11) (nt := 1) (mm := mm) h80 h87 h88 h81 h82 (by omega) (by omega) jc jl (by omega)) (fun oc G2 h => by rcases h with ⟨_, _, _, _, h, _⟩ <;> exact ⟨_, h⟩) (by omega) m_MO_gatherNamed ml_MO_337 im_MO_gatherNamed se_MO_gatherNamed c_MO h80.2.2 (Nat.le_of_ble_eq_true rfl) d_MO_posix_274 rfl ?_
                          intro v G315 hq
                          rcases hq with ⟨g2316, LO2317, HI2318, P2319, hv, hfk, hlk, hsk, hN80, hN87, hN88, hq320, hq321, hq322, hq323⟩
                          cases hv
                          have h84 := hfk.get h84 (by decide)
                          have h81 := hfk.get h81 (by decide)
                          have h82 := hfk.get h82 (by decide)
                          have hfr := hfr.tr hfk (by decide)
                          have hlen := hlk.trans hlen
                          have hsl := hsk.trans hsl
                          have h80 := hN80
                          have h87 := hN87
                          have h88 := hN88
                          change ab_W _ _ _ G315 277 [some (vR 80), some (vz m_at), some (vz 1), some (vz m_taped), some (vz 11)] [] _
                          refine ab_aload_n d_MO_posix_277 rfl ?_
                          refine ab_dup d_MO_posix_278 rfl ?_
                          refine ab_getf (fs := mof m_thrown m_taped m_length m_out m_wide g2316 m_sets m_ranges m_nodes ((m_at + 2) + 1) m_flags m_fault m_place m_numbered m_depth m_value m_isNot m_least0 m_most0 m_slot m_work m_got m_rowMany m_charAt m_charWide m_trail m_isMatch m_matchGroups m_allFrom m_allBefore m_founds m_pieces m_writtenMany m_templateWide m_tooMuch) f_MO_279 d_MO_posix_279 h80.2.2 rfl ?_
                          refine zz_bipush d_MO_posix_282 (by decide) ?_
                          refine zz_iadd d_MO_posix_284 ?_
                          refine ab_putf (fs := mof m_thrown m_taped m_length m_out m_wide g2316 m_sets m_ranges m_nodes ((m_at + 2) + 1) m_flags m_fault m_place m_numbered m_depth m_value m_isNot m_least0 m_most0 m_slot m_work m_got m_rowMany m_charAt m_charWide m_trail m_isMatch m_matchGroups m_allFrom m_allBefore m_founds m_pieces m_writtenMany m_templateWide m_tooMuch) f_MO_279 (Or.inl rfl) d_MO_posix_285 h80.2.2 (Nat.le_of_ble_eq_true rfl) (fun _ => ⟨rfl, rfl⟩) (h80.2.1 (by decide)) ?_
                          obtain ⟨G324, eG324⟩ : ∃ z : ab_G, z = List.set G315 80 (ab_ob 12 (mof m_thrown m_taped m_length m_out m_wide g2316 m_sets m_ranges m_nodes (((m_at + 2) + 1) + 7) m_flags m_fault m_place m_numbered m_depth m_value m_isNot m_least0 m_most0 m_slot m_work m_got m_rowMany m_charAt m_charWide m_trail m_isMatch m_matchGroups m_allFrom m_allBefore m_founds m_pieces m_writtenMany m_templateWide m_tooMuch)) := ⟨_, rfl⟩
                          have h84 := h84.keep h80 eG324 (by decide)
                          have h87 := h87.keep h80 eG324 (by decide)
                          have h88 := h88.keep h80 eG324 (by decide)
                          have h81 := h81.keep h80 eG324 (by decide)
                          have h82 := h82.keep h80 eG324 (by decide)
                          have hlen := (z_len eG324).trans hlen
                          have hsl := (z_sl h80 eG324 rfl).trans hsl
                          have hfr := hfr.wr h80 eG324 (by decide)
                          have h80 := h80.kept eG324
                          change ab_W _ _ _ (List.set G315 80 (ab_ob 12 (mof m_thrown m_taped m_length m_out m_wide g2316 m_sets m_ranges m_nodes (((m_at + 2) + 1) + 7) m_flags m_fault m_place m_numbered m_depth m_value m_isNot m_least0 m_most0 m_slot m_work m_got m_rowMany m_charAt m_charWide m_trail m_isMatch m_matchGroups m_allFrom m_allBefore m_founds m_pieces m_writtenMany m_templateWide m_tooMuch))) 288 [some (vR 80), some (vz m_at), some (vz 1), some (vz m_taped), some (vz 11)] [] _
                          rw [← eG324]
                          refine ab_vret rfl d_MO_posix_288 ?_
                          rw [hQ]; exact (Or.inr ⟨_, _, _, _, _, rfl, hfr, hlen, hsl, h80, h87, h88, (by omega), (by exact hq322), (by exact lfc_w hq323 (by omega))⟩)
                        · refine ab_aload_n d_MO_posix_262 rfl ?_
                          refine zz_bipush d_MO_posix_263 (by decide) ?_
                          refine ab_iload_n d_MO_posix_265 rfl ?_
                          refine ab_callV (d' := d - 1) (as := [vz 7, vz m_at]) (st := []) (r := _) (z_MO_wrong (o := o) (m_thrown := m_thrown) (m_taped := m_taped) (m_length := m_length) (m_out := m_out) (m_wide := m_wide) (m_gathered := m_gathered) (m_sets := m_sets) (m_ranges := m_ranges) (m_nodes := m_nodes) (m_at := ((m_at + 2) + 1)) (m_flags := m_flags) (m_fault := m_fault) (m_place := m_place) (m_numbered := m_numbered) (m_depth := m_depth) (m_value := m_value) (m_isNot := m_isNot) (m_least0 := m_least0) (m_most0 := m_most0) (m_slot := m_slot) (m_work := m_work) (m_got := m_got) (m_rowMany := m_rowMany) (m_charAt := m_charAt) (m_charWide := m_charWide) (m_trail := m_trail) (m_isMatch := m_isMatch) (m_matchGroups := m_matchGroups) (m_allFrom := m_allFrom) (m_allBefore := m_allBefore) (m_founds := m_founds) (m_pieces := m_pieces) (m_writtenMany := m_writtenMany) (m_templateWide := m_templateWide) (m_tooMuch := m_tooMuch) (x := 7) (y := m_at) h80 (by omega) (by omega)) (fun oc G2 h => by rcases h with ⟨_, _, h, _⟩ <;> exact ⟨_, h⟩) (by omega) m_MO_wrong ml_MO_304 im_MO_wrong se_MO_wrong c_MO h80.2.2 (Nat.le_of_ble_eq_true rfl) d_MO_posix_266 rfl ?_
                          intro v G325 hq
                          rcases hq with ⟨f2326, p2327, hv, hfk, hlk, hsk, hN80, hq328⟩
                          cases hv
                          have h84 := hfk.get h84 (by decide)
                          have h87 := hfk.get h87 (by decide)
                          have h88 := hfk.get h88 (by decide)
                          have h81 := hfk.get h81 (by decide)
                          have h82 := hfk.get h82 (by decide)
                          have hfr := hfr.tr hfk (by decide)
                          have hlen := hlk.trans hlen
                          have hsl := hsk.trans hsl
                          have h80 := hN80
                          change ab_W _ _ _ G325 269 [some (vR 80), some (vz m_at), some (vz 1), some (vz m_taped), some (vz 11)] [] _
                          refine ab_vret rfl d_MO_posix_269 ?_
                          rw [hQ]; exact (Or.inl ⟨_, _, _, rfl, hfr, hlen, hsl, h80, h87, h88, (by omega)⟩)
                      · cases hv
                        rw [hGe]
                        change ab_W _ _ _ G266 257 [some (vR 80), some (vz m_at), some (vz 1), some (vz m_taped), some (vz 11)] [vz (-1)] _
                        refine zz_bipush d_MO_posix_257 (by decide) ?_
                        refine zz_icmp_eq (tgt := 270) d_MO_posix_259 (by decide) (by decide) (by decide) (fun c329 => absurd c329 (by decide)) (fun c329 => ?_)
                        refine ab_aload_n d_MO_posix_262 rfl ?_
                        refine zz_bipush d_MO_posix_263 (by decide) ?_
                        refine ab_iload_n d_MO_posix_265 rfl ?_
                        refine ab_callV (d' := d - 1) (as := [vz 7, vz m_at]) (st := []) (r := _) (z_MO_wrong (o := o) (m_thrown := m_thrown) (m_taped := m_taped) (m_length := m_length) (m_out := m_out) (m_wide := m_wide) (m_gathered := m_gathered) (m_sets := m_sets) (m_ranges := m_ranges) (m_nodes := m_nodes) (m_at := ((m_at + 2) + 1)) (m_flags := m_flags) (m_fault := m_fault) (m_place := m_place) (m_numbered := m_numbered) (m_depth := m_depth) (m_value := m_value) (m_isNot := m_isNot) (m_least0 := m_least0) (m_most0 := m_most0) (m_slot := m_slot) (m_work := m_work) (m_got := m_got) (m_rowMany := m_rowMany) (m_charAt := m_charAt) (m_charWide := m_charWide) (m_trail := m_trail) (m_isMatch := m_isMatch) (m_matchGroups := m_matchGroups) (m_allFrom := m_allFrom) (m_allBefore := m_allBefore) (m_founds := m_founds) (m_pieces := m_pieces) (m_writtenMany := m_writtenMany) (m_templateWide := m_templateWide) (m_tooMuch := m_tooMuch) (x := 7) (y := m_at) h80 (by omega) (by omega)) (fun oc G2 h => by rcases h with ⟨_, _, h, _⟩ <;> exact ⟨_, h⟩) (by omega) m_MO_wrong ml_MO_304 im_MO_wrong se_MO_wrong c_MO h80.2.2 (Nat.le_of_ble_eq_true rfl) d_MO_posix_266 rfl ?_
                        intro v G330 hq
                        rcases hq with ⟨f2331, p2332, hv, hfk, hlk, hsk, hN80, hq333⟩
                        cases hv
                        have h84 := hfk.get h84 (by decide)
                        have h87 := hfk.get h87 (by decide)
                        have h88 := hfk.get h88 (by decide)
                        have h81 := hfk.get h81 (by decide)
                        have h82 := hfk.get h82 (by decide)
                        have hfr := hfr.tr hfk (by decide)
                        have hlen := hlk.trans hlen
                        have hsl := hsk.trans hsl
                        have h80 := hN80
                        change ab_W _ _ _ G330 269 [some (vR 80), some (vz m_at), some (vz 1), some (vz m_taped), some (vz 11)] [] _
                        refine ab_vret rfl d_MO_posix_269 ?_
                        rw [hQ]; exact (Or.inl ⟨_, _, _, rfl, hfr, hlen, hsl, h80, h87, h88, (by omega)⟩)
                  · cases hv
                    rw [hGe]
                    change ab_W _ _ _ G266 246 [some (vR 80), some (vz m_at), some (vz 1), some (vz m_taped), some (vz 11)] [vz (-1)] _
                    refine zz_bipush d_MO_posix_246 (by decide) ?_
                    refine zz_icmp_ne (tgt := 262) d_MO_posix_248 (by decide) (by decide) (by decide) (fun c334 => ?_) (fun c334 => absurd c334 (by decide))
                    refine ab_aload_n d_MO_posix_262 rfl ?_
                    refine zz_bipush d_MO_posix_263 (by decide) ?_
                    refine ab_iload_n d_MO_posix_265 rfl ?_
                    refine ab_callV (d' := d - 1) (as := [vz 7, vz m_at]) (st := []) (r := _) (z_MO_wrong (o := o) (m_thrown := m_thrown) (m_taped := m_taped) (m_length := m_length) (m_out := m_out) (m_wide := m_wide) (m_gathered := m_gathered) (m_sets := m_sets) (m_ranges := m_ranges) (m_nodes := m_nodes) (m_at := ((m_at + 2) + 1)) (m_flags := m_flags) (m_fault := m_fault) (m_place := m_place) (m_numbered := m_numbered) (m_depth := m_depth) (m_value := m_value) (m_isNot := m_isNot) (m_least0 := m_least0) (m_most0 := m_most0) (m_slot := m_slot) (m_work := m_work) (m_got := m_got) (m_rowMany := m_rowMany) (m_charAt := m_charAt) (m_charWide := m_charWide) (m_trail := m_trail) (m_isMatch := m_isMatch) (m_matchGroups := m_matchGroups) (m_allFrom := m_allFrom) (m_allBefore := m_allBefore) (m_founds := m_founds) (m_pieces := m_pieces) (m_writtenMany := m_writtenMany) (m_templateWide := m_templateWide) (m_tooMuch := m_tooMuch) (x := 7) (y := m_at) h80 (by omega) (by omega)) (fun oc G2 h => by rcases h with ⟨_, _, h, _⟩ <;> exact ⟨_, h⟩) (by omega) m_MO_wrong ml_MO_304 im_MO_wrong se_MO_wrong c_MO h80.2.2 (Nat.le_of_ble_eq_true rfl) d_MO_posix_266 rfl ?_
                    intro v G335 hq
                    rcases hq with ⟨f2336, p2337, hv, hfk, hlk, hsk, hN80, hq338⟩
                    cases hv
                    have h84 := hfk.get h84 (by decide)
                    have h87 := hfk.get h87 (by decide)
                    have h88 := hfk.get h88 (by decide)
                    have h81 := hfk.get h81 (by decide)
                    have h82 := hfk.get h82 (by decide)
                    have hfr := hfr.tr hfk (by decide)
                    have hlen := hlk.trans hlen
                    have hsl := hsk.trans hsl
                    have h80 := hN80
                    change ab_W _ _ _ G335 269 [some (vR 80), some (vz m_at), some (vz 1), some (vz m_taped), some (vz 11)] [] _
                    refine ab_vret rfl d_MO_posix_269 ?_
                    rw [hQ]; exact (Or.inl ⟨_, _, _, rfl, hfr, hlen, hsl, h80, h87, h88, (by omega)⟩)
              · refine zz_bipush d_MO_posix_198 (by decide) ?_
                refine ab_goto (tgt := 234) d_MO_posix_200 (by decide) ?_
                refine ab_istore d_MO_posix_234 (Nat.le_of_ble_eq_true rfl) (Nat.le_of_ble_eq_true rfl) rfl ?_
                change ab_W _ _ _ G266 236 [some (vR 80), some (vz m_at), some (vz 1), some (vz m_taped), some (vz 10)] [] _
                refine ab_iload d_MO_posix_236 rfl ?_
                refine zz_if_lt (tgt := 262) d_MO_posix_238 (by decide) (by decide) (fun c339 => absurd c339 (by decide)) (fun c339 => ?_)
                refine ab_aload_n d_MO_posix_241 rfl ?_
                refine zz_iconst d_MO_posix_242 ?_
                refine ab_callV (d' := d - 1) (as := [vz 5]) (st := []) (r := _) (z_MO_here (o := o) (m_thrown := m_thrown) (m_taped := m_taped) (m_length := m_length) (m_out := m_out) (m_wide := m_wide) (m_gathered := m_gathered) (m_sets := m_sets) (m_ranges := m_ranges) (m_nodes := m_nodes) (m_at := ((m_at + 2) + 1)) (m_flags := m_flags) (m_fault := m_fault) (m_place := m_place) (m_numbered := m_numbered) (m_depth := m_depth) (m_value := m_value) (m_isNot := m_isNot) (m_least0 := m_least0) (m_most0 := m_most0) (m_slot := m_slot) (m_work := m_work) (m_got := m_got) (m_rowMany := m_rowMany) (m_charAt := m_charAt) (m_charWide := m_charWide) (m_trail := m_trail) (m_isMatch := m_isMatch) (m_matchGroups := m_matchGroups) (m_allFrom := m_allFrom) (m_allBefore := m_allBefore) (m_founds := m_founds) (m_pieces := m_pieces) (m_writtenMany := m_writtenMany) (m_templateWide := m_templateWide) (m_tooMuch := m_tooMuch) (A_tape := A_tape) (k := 5) h80 h84 (by omega) (by omega) jtp (by omega)) (fun oc G2 h => by rcases h with ⟨h, _⟩ | ⟨h, _⟩ <;> exact ⟨_, h⟩) (by omega) m_MO_here ml_MO_297 im_MO_here se_MO_here c_MO h80.2.2 (Nat.le_of_ble_eq_true rfl) d_MO_posix_243 rfl ?_
                intro v G340 hq
                rcases hq with ⟨hv, hGe, hq341⟩ | ⟨hv, hGe, hq342⟩
                · cases hv
                  rw [hGe]
                  change ab_W _ _ _ G266 246 [some (vR 80), some (vz m_at), some (vz 1), some (vz m_taped), some (vz 10)] [vz (A_tape (((m_at + 2) + 1) + 5))] _
                  refine zz_bipush d_MO_posix_246 (by decide) ?_
                  refine zz_icmp_ne (tgt := 262) d_MO_posix_248 (by decide) (by omega) (by decide) (fun c343 => ?_) (fun c343 => ?_)
                  · refine ab_aload_n d_MO_posix_262 rfl ?_
                    refine zz_bipush d_MO_posix_263 (by decide) ?_
                    refine ab_iload_n d_MO_posix_265 rfl ?_
                    refine ab_callV (d' := d - 1) (as := [vz 7, vz m_at]) (st := []) (r := _) (z_MO_wrong (o := o) (m_thrown := m_thrown) (m_taped := m_taped) (m_length := m_length) (m_out := m_out) (m_wide := m_wide) (m_gathered := m_gathered) (m_sets := m_sets) (m_ranges := m_ranges) (m_nodes := m_nodes) (m_at := ((m_at + 2) + 1)) (m_flags := m_flags) (m_fault := m_fault) (m_place := m_place) (m_numbered := m_numbered) (m_depth := m_depth) (m_value := m_value) (m_isNot := m_isNot) (m_least0 := m_least0) (m_most0 := m_most0) (m_slot := m_slot) (m_work := m_work) (m_got := m_got) (m_rowMany := m_rowMany) (m_charAt := m_charAt) (m_charWide := m_charWide) (m_trail := m_trail) (m_isMatch := m_isMatch) (m_matchGroups := m_matchGroups) (m_allFrom := m_allFrom) (m_allBefore := m_allBefore) (m_founds := m_founds) (m_pieces := m_pieces) (m_writtenMany := m_writtenMany) (m_templateWide := m_templateWide) (m_tooMuch := m_tooMuch) (x := 7) (y := m_at) h80 (by omega) (by omega)) (fun oc G2 h => by rcases h with ⟨_, _, h, _⟩ <;> exact ⟨_, h⟩) (by omega) m_MO_wrong ml_MO_304 im_MO_wrong se_MO_wrong c_MO h80.2.2 (Nat.le_of_ble_eq_true rfl) d_MO_posix_266 rfl ?_
                    intro v G344 hq
                    rcases hq with ⟨f2345, p2346, hv, hfk, hlk, hsk, hN80, hq347⟩
                    cases hv
                    have h84 := hfk.get h84 (by decide)
                    have h87 := hfk.get h87 (by decide)
                    have h88 := hfk.get h88 (by decide)
                    have h81 := hfk.get h81 (by decide)
                    have h82 := hfk.get h82 (by decide)
                    have hfr := hfr.tr hfk (by decide)
                    have hlen := hlk.trans hlen
                    have hsl := hsk.trans hsl
                    have h80 := hN80
                    change ab_W _ _ _ G344 269 [some (vR 80), some (vz m_at), some (vz 1), some (vz m_taped), some (vz 10)] [] _
                    refine ab_vret rfl d_MO_posix_269 ?_
                    rw [hQ]; exact (Or.inl ⟨_, _, _, rfl, hfr, hlen, hsl, h80, h87, h88, (by omega)⟩)
                  · refine ab_aload_n d_MO_posix_251 rfl ?_
                    refine zz_bipush d_MO_posix_252 (by decide) ?_
                    refine ab_callV (d' := d - 1) (as := [vz 6]) (st := []) (r := _) (z_MO_here (o := o) (m_thrown := m_thrown) (m_taped := m_taped) (m_length := m_length) (m_out := m_out) (m_wide := m_wide) (m_gathered := m_gathered) (m_sets := m_sets) (m_ranges := m_ranges) (m_nodes := m_nodes) (m_at := ((m_at + 2) + 1)) (m_flags := m_flags) (m_fault := m_fault) (m_place := m_place) (m_numbered := m_numbered) (m_depth := m_depth) (m_value := m_value) (m_isNot := m_isNot) (m_least0 := m_least0) (m_most0 := m_most0) (m_slot := m_slot) (m_work := m_work) (m_got := m_got) (m_rowMany := m_rowMany) (m_charAt := m_charAt) (m_charWide := m_charWide) (m_trail := m_trail) (m_isMatch := m_isMatch) (m_matchGroups := m_matchGroups) (m_allFrom := m_allFrom) (m_allBefore := m_allBefore) (m_founds := m_founds) (m_pieces := m_pieces) (m_writtenMany := m_writtenMany) (m_templateWide := m_templateWide) (m_tooMuch := m_tooMuch) (A_tape := A_tape) (k := 6) h80 h84 (by omega) (by omega) jtp (by omega)) (fun oc G2 h => by rcases h with ⟨h, _⟩ | ⟨h, _⟩ <;> exact ⟨_, h⟩) (by omega) m_MO_here ml_MO_297 im_MO_here se_MO_here c_MO h80.2.2 (Nat.le_of_ble_eq_true rfl) d_MO_posix_254 rfl ?_
                    intro v G348 hq
                    rcases hq with ⟨hv, hGe, hq349⟩ | ⟨hv, hGe, hq350⟩
                    · cases hv
                      rw [hGe]
                      change ab_W _ _ _ G266 257 [some (vR 80), some (vz m_at), some (vz 1), some (vz m_taped), some (vz 10)] [vz (A_tape (((m_at + 2) + 1) + 6))] _
                      refine zz_bipush d_MO_posix_257 (by decide) ?_
                      refine zz_icmp_eq (tgt := 270) d_MO_posix_259 (by decide) (by omega) (by decide) (fun c351 => ?_) (fun c351 => ?_)
                      · refine ab_aload_n d_MO_posix_270 rfl ?_
                        refine ab_iload d_MO_posix_271 rfl ?_
                        refine ab_iload_n d_MO_posix_273 rfl ?_
                        refine ab_callV (d' := d - 1) (as := [vz 10, vz 1]) (st := []) (r := _) (z_MO_gatherNamed (o := o) (m_thrown := m_thrown) (m_taped := m_taped) (m_length := m_length) (m_out := m_out) (m_wide := m_wide) (m_gathered := m_gathered) (m_sets := m_sets) (m_ranges := m_ranges) (m_nodes := m_nodes) (m_at := ((m_at + 2) + 1)) (m_flags := m_flags) (m_fault := m_fault) (m_place := m_place) (m_numbered := m_numbered) (m_depth := m_depth) (m_value := m_value) (m_isNot := m_isNot) (m_least0 := m_least0) (m_most0 := m_most0) (m_slot := m_slot) (m_work := m_work) (m_got := m_got) (m_rowMany := m_rowMany) (m_charAt := m_charAt) (m_charWide := m_charWide) (m_trail := m_trail) (m_isMatch := m_isMatch) (m_matchGroups := m_matchGroups) (m_allFrom := m_allFrom) (m_allBefore := m_allBefore) (m_founds := m_founds) (m_pieces := m_pieces) (m_writtenMany := m_writtenMany) (m_templateWide := m_templateWide) (m_tooMuch := m_tooMuch) (LO := LO) (HI := HI) (MK := MK) (P := P) (w := 10) (nt := 1) (mm := mm) h80 h87 h88 h81 h82 (by omega) (by omega) jc jl (by omega)) (fun oc G2 h => by rcases h with ⟨_, _, _, _, h, _⟩ <;> exact ⟨_, h⟩) (by omega) m_MO_gatherNamed ml_MO_337 im_MO_gatherNamed se_MO_gatherNamed c_MO h80.2.2 (Nat.le_of_ble_eq_true rfl) d_MO_posix_274 rfl ?_
                        intro v G352 hq
                        rcases hq with ⟨g2353, LO2354, HI2355, P2356, hv, hfk, hlk, hsk, hN80, hN87, hN88, hq357, hq358, hq359, hq360⟩
                        cases hv
                        have h84 := hfk.get h84 (by decide)
                        have h81 := hfk.get h81 (by decide)
                        have h82 := hfk.get h82 (by decide)
                        have hfr := hfr.tr hfk (by decide)
                        have hlen := hlk.trans hlen
                        have hsl := hsk.trans hsl
                        have h80 := hN80
                        have h87 := hN87
                        have h88 := hN88
                        change ab_W _ _ _ G352 277 [some (vR 80), some (vz m_at), some (vz 1), some (vz m_taped), some (vz 10)] [] _
                        refine ab_aload_n d_MO_posix_277 rfl ?_
                        refine ab_dup d_MO_posix_278 rfl ?_
                        refine ab_getf (fs := mof m_thrown m_taped m_length m_out m_wide g2353 m_sets m_ranges m_nodes ((m_at + 2) + 1) m_flags m_fault m_place m_numbered m_depth m_value m_isNot m_least0 m_most0 m_slot m_work m_got m_rowMany m_charAt m_charWide m_trail m_isMatch m_matchGroups m_allFrom m_allBefore m_founds m_pieces m_writtenMany m_templateWide m_tooMuch) f_MO_279 d_MO_posix_279 h80.2.2 rfl ?_
                        refine zz_bipush d_MO_posix_282 (by decide) ?_
                        refine zz_iadd d_MO_posix_284 ?_
                        refine ab_putf (fs := mof m_thrown m_taped m_length m_out m_wide g2353 m_sets m_ranges m_nodes ((m_at + 2) + 1) m_flags m_fault m_place m_numbered m_depth m_value m_isNot m_least0 m_most0 m_slot m_work m_got m_rowMany m_charAt m_charWide m_trail m_isMatch m_matchGroups m_allFrom m_allBefore m_founds m_pieces m_writtenMany m_templateWide m_tooMuch) f_MO_279 (Or.inl rfl) d_MO_posix_285 h80.2.2 (Nat.le_of_ble_eq_true rfl) (fun _ => ⟨rfl, rfl⟩) (h80.2.1 (by decide)) ?_
                        obtain ⟨G361, eG361⟩ : ∃ z : ab_G, z = List.set G352 80 (ab_ob 12 (mof m_thrown m_taped m_length m_out m_wide g2353 m_sets m_ranges m_nodes (((m_at + 2) + 1) + 7) m_flags m_fault m_place m_numbered m_depth m_value m_isNot m_least0 m_most0 m_slot m_work m_got m_rowMany m_charAt m_charWide m_trail m_isMatch m_matchGroups m_allFrom m_allBefore m_founds m_pieces m_writtenMany m_templateWide m_tooMuch)) := ⟨_, rfl⟩
                        have h84 := h84.keep h80 eG361 (by decide)
                        have h87 := h87.keep h80 eG361 (by decide)
                        have h88 := h88.keep h80 eG361 (by decide)
                        have h81 := h81.keep h80 eG361 (by decide)
                        have h82 := h82.keep h80 eG361 (by decide)
                        have hlen := (z_len eG361).trans hlen
                        have hsl := (z_sl h80 eG361 rfl).trans hsl
                        have hfr := hfr.wr h80 eG361 (by decide)
                        have h80 := h80.kept eG361
                        change ab_W _ _ _ (List.set G352 80 (ab_ob 12 (mof m_thrown m_taped m_length m_out m_wide g2353 m_sets m_ranges m_nodes (((m_at + 2) + 1) + 7) m_flags m_fault m_place m_numbered m_depth m_value m_isNot m_least0 m_most0 m_slot m_work m_got m_rowMany m_charAt m_charWide m_trail m_isMatch m_matchGroups m_allFrom m_allBefore m_founds m_pieces m_writtenMany m_templateWide m_tooMuch))) 288 [some (vR 80), some (vz m_at), some (vz 1), some (vz m_taped), some (vz 10)] [] _
                        rw [← eG361]
                        refine ab_vret rfl d_MO_posix_288 ?_
                        rw [hQ]; exact (Or.inr ⟨_, _, _, _, _, rfl, hfr, hlen, hsl, h80, h87, h88, (by omega), (by exact hq359), (by exact lfc_w hq360 (by omega))⟩)
                      · refine ab_aload_n d_MO_posix_262 rfl ?_
                        refine zz_bipush d_MO_posix_263 (by decide) ?_
                        refine ab_iload_n d_MO_posix_265 rfl ?_
                        refine ab_callV (d' := d - 1) (as := [vz 7, vz m_at]) (st := []) (r := _) (z_MO_wrong (o := o) (m_thrown := m_thrown) (m_taped := m_taped) (m_length := m_length) (m_out := m_out) (m_wide := m_wide) (m_gathered := m_gathered) (m_sets := m_sets) (m_ranges := m_ranges) (m_nodes := m_nodes) (m_at := ((m_at + 2) + 1)) (m_flags := m_flags) (m_fault := m_fault) (m_place := m_place) (m_numbered := m_numbered) (m_depth := m_depth) (m_value := m_value) (m_isNot := m_isNot) (m_least0 := m_least0) (m_most0 := m_most0) (m_slot := m_slot) (m_work := m_work) (m_got := m_got) (m_rowMany := m_rowMany) (m_charAt := m_charAt) (m_charWide := m_charWide) (m_trail := m_trail) (m_isMatch := m_isMatch) (m_matchGroups := m_matchGroups) (m_allFrom := m_allFrom) (m_allBefore := m_allBefore) (m_founds := m_founds) (m_pieces := m_pieces) (m_writtenMany := m_writtenMany) (m_templateWide := m_templateWide) (m_tooMuch := m_tooMuch) (x := 7) (y := m_at) h80 (by omega) (by omega)) (fun oc G2 h => by rcases h with ⟨_, _, h, _⟩ <;> exact ⟨_, h⟩) (by omega) m_MO_wrong ml_MO_304 im_MO_wrong se_MO_wrong c_MO h80.2.2 (Nat.le_of_ble_eq_true rfl) d_MO_posix_266 rfl ?_
                        intro v G362 hq
                        rcases hq with ⟨f2363, p2364, hv, hfk, hlk, hsk, hN80, hq365⟩
                        cases hv
                        have h84 := hfk.get h84 (by decide)
                        have h87 := hfk.get h87 (by decide)
                        have h88 := hfk.get h88 (by decide)
                        have h81 := hfk.get h81 (by decide)
                        have h82 := hfk.get h82 (by decide)
                        have hfr := hfr.tr hfk (by decide)
                        have hlen := hlk.trans hlen
                        have hsl := hsk.trans hsl
                        have h80 := hN80
                        change ab_W _ _ _ G362 269 [some (vR 80), some (vz m_at), some (vz 1), some (vz m_taped), some (vz 10)] [] _
                        refine ab_vret rfl d_MO_posix_269 ?_
                        rw [hQ]; exact (Or.inl ⟨_, _, _, rfl, hfr, hlen, hsl, h80, h87, h88, (by omega)⟩)
                    · cases hv
                      rw [hGe]
                      change ab_W _ _ _ G266 257 [some (vR 80), some (vz m_at), some (vz 1), some (vz m_taped), some (vz 10)] [vz (-1)] _
                      refine zz_bipush d_MO_posix_257 (by decide) ?_
                      refine zz_icmp_eq (tgt := 270) d_MO_posix_259 (by decide) (by decide) (by decide) (fun c366 => absurd c366 (by decide)) (fun c366 => ?_)
                      refine ab_aload_n d_MO_posix_262 rfl ?_
                      refine zz_bipush d_MO_posix_263 (by decide) ?_
                      refine ab_iload_n d_MO_posix_265 rfl ?_
                      refine ab_callV (d' := d - 1) (as := [vz 7, vz m_at]) (st := []) (r := _) (z_MO_wrong (o := o) (m_thrown := m_thrown) (m_taped := m_taped) (m_length := m_length) (m_out := m_out) (m_wide := m_wide) (m_gathered := m_gathered) (m_sets := m_sets) (m_ranges := m_ranges) (m_nodes := m_nodes) (m_at := ((m_at + 2) + 1)) (m_flags := m_flags) (m_fault := m_fault) (m_place := m_place) (m_numbered := m_numbered) (m_depth := m_depth) (m_value := m_value) (m_isNot := m_isNot) (m_least0 := m_least0) (m_most0 := m_most0) (m_slot := m_slot) (m_work := m_work) (m_got := m_got) (m_rowMany := m_rowMany) (m_charAt := m_charAt) (m_charWide := m_charWide) (m_trail := m_trail) (m_isMatch := m_isMatch) (m_matchGroups := m_matchGroups) (m_allFrom := m_allFrom) (m_allBefore := m_allBefore) (m_founds := m_founds) (m_pieces := m_pieces) (m_writtenMany := m_writtenMany) (m_templateWide := m_templateWide) (m_tooMuch := m_tooMuch) (x := 7) (y := m_at) h80 (by omega) (by omega)) (fun oc G2 h => by rcases h with ⟨_, _, h, _⟩ <;> exact ⟨_, h⟩) (by omega) m_MO_wrong ml_MO_304 im_MO_wrong se_MO_wrong c_MO h80.2.2 (Nat.le_of_ble_eq_true rfl) d_MO_posix_266 rfl ?_
                      intro v G367 hq
                      rcases hq with ⟨f2368, p2369, hv, hfk, hlk, hsk, hN80, hq370⟩
                      cases hv
                      have h84 := hfk.get h84 (by decide)
                      have h87 := hfk.get h87 (by decide)
                      have h88 := hfk.get h88 (by decide)
                      have h81 := hfk.get h81 (by decide)
                      have h82 := hfk.get h82 (by decide)
                      have hfr := hfr.tr hfk (by decide)
                      have hlen := hlk.trans hlen
                      have hsl := hsk.trans hsl
                      have h80 := hN80
                      change ab_W _ _ _ G367 269 [some (vR 80), some (vz m_at), some (vz 1), some (vz m_taped), some (vz 10)] [] _
                      refine ab_vret rfl d_MO_posix_269 ?_
                      rw [hQ]; exact (Or.inl ⟨_, _, _, rfl, hfr, hlen, hsl, h80, h87, h88, (by omega)⟩)
                · cases hv
                  rw [hGe]
                  change ab_W _ _ _ G266 246 [some (vR 80), some (vz m_at), some (vz 1), some (vz m_taped), some (vz 10)] [vz (-1)] _
                  refine zz_bipush d_MO_posix_246 (by decide) ?_
                  refine zz_icmp_ne (tgt := 262) d_MO_posix_248 (by decide) (by decide) (by decide) (fun c371 => ?_) (fun c371 => absurd c371 (by decide))
                  refine ab_aload_n d_MO_posix_262 rfl ?_
                  refine zz_bipush d_MO_posix_263 (by decide) ?_
                  refine ab_iload_n d_MO_posix_265 rfl ?_
                  refine ab_callV (d' := d - 1) (as := [vz 7, vz m_at]) (st := []) (r := _) (z_MO_wrong (o := o) (m_thrown := m_thrown) (m_taped := m_taped) (m_length := m_length) (m_out := m_out) (m_wide := m_wide) (m_gathered := m_gathered) (m_sets := m_sets) (m_ranges := m_ranges) (m_nodes := m_nodes) (m_at := ((m_at + 2) + 1)) (m_flags := m_flags) (m_fault := m_fault) (m_place := m_place) (m_numbered := m_numbered) (m_depth := m_depth) (m_value := m_value) (m_isNot := m_isNot) (m_least0 := m_least0) (m_most0 := m_most0) (m_slot := m_slot) (m_work := m_work) (m_got := m_got) (m_rowMany := m_rowMany) (m_charAt := m_charAt) (m_charWide := m_charWide) (m_trail := m_trail) (m_isMatch := m_isMatch) (m_matchGroups := m_matchGroups) (m_allFrom := m_allFrom) (m_allBefore := m_allBefore) (m_founds := m_founds) (m_pieces := m_pieces) (m_writtenMany := m_writtenMany) (m_templateWide := m_templateWide) (m_tooMuch := m_tooMuch) (x := 7) (y := m_at) h80 (by omega) (by omega)) (fun oc G2 h => by rcases h with ⟨_, _, h, _⟩ <;> exact ⟨_, h⟩) (by omega) m_MO_wrong ml_MO_304 im_MO_wrong se_MO_wrong c_MO h80.2.2 (Nat.le_of_ble_eq_true rfl) d_MO_posix_266 rfl ?_
                  intro v G372 hq
                  rcases hq with ⟨f2373, p2374, hv, hfk, hlk, hsk, hN80, hq375⟩
                  cases hv
                  have h84 := hfk.get h84 (by decide)
                  have h87 := hfk.get h87 (by decide)
                  have h88 := hfk.get h88 (by decide)
                  have h81 := hfk.get h81 (by decide)
                  have h82 := hfk.get h82 (by decide)
                  have hfr := hfr.tr hfk (by decide)
                  have hlen := hlk.trans hlen
                  have hsl := hsk.trans hsl
                  have h80 := hN80
                  change ab_W _ _ _ G372 269 [some (vR 80), some (vz m_at), some (vz 1), some (vz m_taped), some (vz 10)] [] _
                  refine ab_vret rfl d_MO_posix_269 ?_
                  rw [hQ]; exact (Or.inl ⟨_, _, _, rfl, hfr, hlen, hsl, h80, h87, h88, (by omega)⟩)
            · refine zz_bipush d_MO_posix_168 (by decide) ?_
              refine ab_goto (tgt := 234) d_MO_posix_170 (by decide) ?_
              refine ab_istore d_MO_posix_234 (Nat.le_of_ble_eq_true rfl) (Nat.le_of_ble_eq_true rfl) rfl ?_
              change ab_W _ _ _ G266 236 [some (vR 80), some (vz m_at), some (vz 1), some (vz m_taped), some (vz 9)] [] _
              refine ab_iload d_MO_posix_236 rfl ?_
              refine zz_if_lt (tgt := 262) d_MO_posix_238 (by decide) (by decide) (fun c376 => absurd c376 (by decide)) (fun c376 => ?_)
              refine ab_aload_n d_MO_posix_241 rfl ?_
              refine zz_iconst d_MO_posix_242 ?_
              refine ab_callV (d' := d - 1) (as := [vz 5]) (st := []) (r := _) (z_MO_here (o := o) (m_thrown := m_thrown) (m_taped := m_taped) (m_length := m_length) (m_out := m_out) (m_wide := m_wide) (m_gathered := m_gathered) (m_sets := m_sets) (m_ranges := m_ranges) (m_nodes := m_nodes) (m_at := ((m_at + 2) + 1)) (m_flags := m_flags) (m_fault := m_fault) (m_place := m_place) (m_numbered := m_numbered) (m_depth := m_depth) (m_value := m_value) (m_isNot := m_isNot) (m_least0 := m_least0) (m_most0 := m_most0) (m_slot := m_slot) (m_work := m_work) (m_got := m_got) (m_rowMany := m_rowMany) (m_charAt := m_charAt) (m_charWide := m_charWide) (m_trail := m_trail) (m_isMatch := m_isMatch) (m_matchGroups := m_matchGroups) (m_allFrom := m_allFrom) (m_allBefore := m_allBefore) (m_founds := m_founds) (m_pieces := m_pieces) (m_writtenMany := m_writtenMany) (m_templateWide := m_templateWide) (m_tooMuch := m_tooMuch) (A_tape := A_tape) (k := 5) h80 h84 (by omega) (by omega) jtp (by omega)) (fun oc G2 h => by rcases h with ⟨h, _⟩ | ⟨h, _⟩ <;> exact ⟨_, h⟩) (by omega) m_MO_here ml_MO_297 im_MO_here se_MO_here c_MO h80.2.2 (Nat.le_of_ble_eq_true rfl) d_MO_posix_243 rfl ?_
              intro v G377 hq
              rcases hq with ⟨hv, hGe, hq378⟩ | ⟨hv, hGe, hq379⟩
              · cases hv
                rw [hGe]
                change ab_W _ _ _ G266 246 [some (vR 80), some (vz m_at), some (vz 1), some (vz m_taped), some (vz 9)] [vz (A_tape (((m_at + 2) + 1) + 5))] _
                refine zz_bipush d_MO_posix_246 (by decide) ?_
                refine zz_icmp_ne (tgt := 262) d_MO_posix_248 (by decide) (by omega) (by decide) (fun c380 => ?_) (fun c380 => ?_)
                · refine ab_aload_n d_MO_posix_262 rfl ?_
                  refine zz_bipush d_MO_posix_263 (by decide) ?_
                  refine ab_iload_n d_MO_posix_265 rfl ?_
                  refine ab_callV (d' := d - 1) (as := [vz 7, vz m_at]) (st := []) (r := _) (z_MO_wrong (o := o) (m_thrown := m_thrown) (m_taped := m_taped) (m_length := m_length) (m_out := m_out) (m_wide := m_wide) (m_gathered := m_gathered) (m_sets := m_sets) (m_ranges := m_ranges) (m_nodes := m_nodes) (m_at := ((m_at + 2) + 1)) (m_flags := m_flags) (m_fault := m_fault) (m_place := m_place) (m_numbered := m_numbered) (m_depth := m_depth) (m_value := m_value) (m_isNot := m_isNot) (m_least0 := m_least0) (m_most0 := m_most0) (m_slot := m_slot) (m_work := m_work) (m_got := m_got) (m_rowMany := m_rowMany) (m_charAt := m_charAt) (m_charWide := m_charWide) (m_trail := m_trail) (m_isMatch := m_isMatch) (m_matchGroups := m_matchGroups) (m_allFrom := m_allFrom) (m_allBefore := m_allBefore) (m_founds := m_founds) (m_pieces := m_pieces) (m_writtenMany := m_writtenMany) (m_templateWide := m_templateWide) (m_tooMuch := m_tooMuch) (x := 7) (y := m_at) h80 (by omega) (by omega)) (fun oc G2 h => by rcases h with ⟨_, _, h, _⟩ <;> exact ⟨_, h⟩) (by omega) m_MO_wrong ml_MO_304 im_MO_wrong se_MO_wrong c_MO h80.2.2 (Nat.le_of_ble_eq_true rfl) d_MO_posix_266 rfl ?_
                  intro v G381 hq
                  rcases hq with ⟨f2382, p2383, hv, hfk, hlk, hsk, hN80, hq384⟩
                  cases hv
                  have h84 := hfk.get h84 (by decide)
                  have h87 := hfk.get h87 (by decide)
                  have h88 := hfk.get h88 (by decide)
                  have h81 := hfk.get h81 (by decide)
                  have h82 := hfk.get h82 (by decide)
                  have hfr := hfr.tr hfk (by decide)
                  have hlen := hlk.trans hlen
                  have hsl := hsk.trans hsl
                  have h80 := hN80
                  change ab_W _ _ _ G381 269 [some (vR 80), some (vz m_at), some (vz 1), some (vz m_taped), some (vz 9)] [] _
                  refine ab_vret rfl d_MO_posix_269 ?_
                  rw [hQ]; exact (Or.inl ⟨_, _, _, rfl, hfr, hlen, hsl, h80, h87, h88, (by omega)⟩)
                · refine ab_aload_n d_MO_posix_251 rfl ?_
                  refine zz_bipush d_MO_posix_252 (by decide) ?_
                  refine ab_callV (d' := d - 1) (as := [vz 6]) (st := []) (r := _) (z_MO_here (o := o) (m_thrown := m_thrown) (m_taped := m_taped) (m_length := m_length) (m_out := m_out) (m_wide := m_wide) (m_gathered := m_gathered) (m_sets := m_sets) (m_ranges := m_ranges) (m_nodes := m_nodes) (m_at := ((m_at + 2) + 1)) (m_flags := m_flags) (m_fault := m_fault) (m_place := m_place) (m_numbered := m_numbered) (m_depth := m_depth) (m_value := m_value) (m_isNot := m_isNot) (m_least0 := m_least0) (m_most0 := m_most0) (m_slot := m_slot) (m_work := m_work) (m_got := m_got) (m_rowMany := m_rowMany) (m_charAt := m_charAt) (m_charWide := m_charWide) (m_trail := m_trail) (m_isMatch := m_isMatch) (m_matchGroups := m_matchGroups) (m_allFrom := m_allFrom) (m_allBefore := m_allBefore) (m_founds := m_founds) (m_pieces := m_pieces) (m_writtenMany := m_writtenMany) (m_templateWide := m_templateWide) (m_tooMuch := m_tooMuch) (A_tape := A_tape) (k := 6) h80 h84 (by omega) (by omega) jtp (by omega)) (fun oc G2 h => by rcases h with ⟨h, _⟩ | ⟨h, _⟩ <;> exact ⟨_, h⟩) (by omega) m_MO_here ml_MO_297 im_MO_here se_MO_here c_MO h80.2.2 (Nat.le_of_ble_eq_true rfl) d_MO_posix_254 rfl ?_
                  intro v G385 hq
                  rcases hq with ⟨hv, hGe, hq386⟩ | ⟨hv, hGe, hq387⟩
                  · cases hv
                    rw [hGe]
                    change ab_W _ _ _ G266 257 [some (vR 80), some (vz m_at), some (vz 1), some (vz m_taped), some (vz 9)] [vz (A_tape (((m_at + 2) + 1) + 6))] _
                    refine zz_bipush d_MO_posix_257 (by decide) ?_
                    refine zz_icmp_eq (tgt := 270) d_MO_posix_259 (by decide) (by omega) (by decide) (fun c388 => ?_) (fun c388 => ?_)
                    · refine ab_aload_n d_MO_posix_270 rfl ?_
                      refine ab_iload d_MO_posix_271 rfl ?_
                      refine ab_iload_n d_MO_posix_273 rfl ?_
                      refine ab_callV (d' := d - 1) (as := [vz 9, vz 1]) (st := []) (r := _) (z_MO_gatherNamed (o := o) (m_thrown := m_thrown) (m_taped := m_taped) (m_length := m_length) (m_out := m_out) (m_wide := m_wide) (m_gathered := m_gathered) (m_sets := m_sets) (m_ranges := m_ranges) (m_nodes := m_nodes) (m_at := ((m_at + 2) + 1)) (m_flags := m_flags) (m_fault := m_fault) (m_place := m_place) (m_numbered := m_numbered) (m_depth := m_depth) (m_value := m_value) (m_isNot := m_isNot) (m_least0 := m_least0) (m_most0 := m_most0) (m_slot := m_slot) (m_work := m_work) (m_got := m_got) (m_rowMany := m_rowMany) (m_charAt := m_charAt) (m_charWide := m_charWide) (m_trail := m_trail) (m_isMatch := m_isMatch) (m_matchGroups := m_matchGroups) (m_allFrom := m_allFrom) (m_allBefore := m_allBefore) (m_founds := m_founds) (m_pieces := m_pieces) (m_writtenMany := m_writtenMany) (m_templateWide := m_templateWide) (m_tooMuch := m_tooMuch) (LO := LO) (HI := HI) (MK := MK) (P := P) (w := 9) (nt := 1) (mm := mm) h80 h87 h88 h81 h82 (by omega) (by omega) jc jl (by omega)) (fun oc G2 h => by rcases h with ⟨_, _, _, _, h, _⟩ <;> exact ⟨_, h⟩) (by omega) m_MO_gatherNamed ml_MO_337 im_MO_gatherNamed se_MO_gatherNamed c_MO h80.2.2 (Nat.le_of_ble_eq_true rfl) d_MO_posix_274 rfl ?_
                      intro v G389 hq
                      rcases hq with ⟨g2390, LO2391, HI2392, P2393, hv, hfk, hlk, hsk, hN80, hN87, hN88, hq394, hq395, hq396, hq397⟩
                      cases hv
                      have h84 := hfk.get h84 (by decide)
                      have h81 := hfk.get h81 (by decide)
                      have h82 := hfk.get h82 (by decide)
                      have hfr := hfr.tr hfk (by decide)
                      have hlen := hlk.trans hlen
                      have hsl := hsk.trans hsl
                      have h80 := hN80
                      have h87 := hN87
                      have h88 := hN88
                      change ab_W _ _ _ G389 277 [some (vR 80), some (vz m_at), some (vz 1), some (vz m_taped), some (vz 9)] [] _
                      refine ab_aload_n d_MO_posix_277 rfl ?_
                      refine ab_dup d_MO_posix_278 rfl ?_
                      refine ab_getf (fs := mof m_thrown m_taped m_length m_out m_wide g2390 m_sets m_ranges m_nodes ((m_at + 2) + 1) m_flags m_fault m_place m_numbered m_depth m_value m_isNot m_least0 m_most0 m_slot m_work m_got m_rowMany m_charAt m_charWide m_trail m_isMatch m_matchGroups m_allFrom m_allBefore m_founds m_pieces m_writtenMany m_templateWide m_tooMuch) f_MO_279 d_MO_posix_279 h80.2.2 rfl ?_
                      refine zz_bipush d_MO_posix_282 (by decide) ?_
                      refine zz_iadd d_MO_posix_284 ?_
                      refine ab_putf (fs := mof m_thrown m_taped m_length m_out m_wide g2390 m_sets m_ranges m_nodes ((m_at + 2) + 1) m_flags m_fault m_place m_numbered m_depth m_value m_isNot m_least0 m_most0 m_slot m_work m_got m_rowMany m_charAt m_charWide m_trail m_isMatch m_matchGroups m_allFrom m_allBefore m_founds m_pieces m_writtenMany m_templateWide m_tooMuch) f_MO_279 (Or.inl rfl) d_MO_posix_285 h80.2.2 (Nat.le_of_ble_eq_true rfl) (fun _ => ⟨rfl, rfl⟩) (h80.2.1 (by decide)) ?_
                      obtain ⟨G398, eG398⟩ : ∃ z : ab_G, z = List.set G389 80 (ab_ob 12 (mof m_thrown m_taped m_length m_out m_wide g2390 m_sets m_ranges m_nodes (((m_at + 2) + 1) + 7) m_flags m_fault m_place m_numbered m_depth m_value m_isNot m_least0 m_most0 m_slot m_work m_got m_rowMany m_charAt m_charWide m_trail m_isMatch m_matchGroups m_allFrom m_allBefore m_founds m_pieces m_writtenMany m_templateWide m_tooMuch)) := ⟨_, rfl⟩
                      have h84 := h84.keep h80 eG398 (by decide)
                      have h87 := h87.keep h80 eG398 (by decide)
                      have h88 := h88.keep h80 eG398 (by decide)
                      have h81 := h81.keep h80 eG398 (by decide)
                      have h82 := h82.keep h80 eG398 (by decide)
                      have hlen := (z_len eG398).trans hlen
                      have hsl := (z_sl h80 eG398 rfl).trans hsl
                      have hfr := hfr.wr h80 eG398 (by decide)
                      have h80 := h80.kept eG398
                      change ab_W _ _ _ (List.set G389 80 (ab_ob 12 (mof m_thrown m_taped m_length m_out m_wide g2390 m_sets m_ranges m_nodes (((m_at + 2) + 1) + 7) m_flags m_fault m_place m_numbered m_depth m_value m_isNot m_least0 m_most0 m_slot m_work m_got m_rowMany m_charAt m_charWide m_trail m_isMatch m_matchGroups m_allFrom m_allBefore m_founds m_pieces m_writtenMany m_templateWide m_tooMuch))) 288 [some (vR 80), some (vz m_at), some (vz 1), some (vz m_taped), some (vz 9)] [] _
                      rw [← eG398]
                      refine ab_vret rfl d_MO_posix_288 ?_
                      rw [hQ]; exact (Or.inr ⟨_, _, _, _, _, rfl, hfr, hlen, hsl, h80, h87, h88, (by omega), (by exact hq396), (by exact lfc_w hq397 (by omega))⟩)
                    · refine ab_aload_n d_MO_posix_262 rfl ?_
                      refine zz_bipush d_MO_posix_263 (by decide) ?_
                      refine ab_iload_n d_MO_posix_265 rfl ?_
                      refine ab_callV (d' := d - 1) (as := [vz 7, vz m_at]) (st := []) (r := _) (z_MO_wrong (o := o) (m_thrown := m_thrown) (m_taped := m_taped) (m_length := m_length) (m_out := m_out) (m_wide := m_wide) (m_gathered := m_gathered) (m_sets := m_sets) (m_ranges := m_ranges) (m_nodes := m_nodes) (m_at := ((m_at + 2) + 1)) (m_flags := m_flags) (m_fault := m_fault) (m_place := m_place) (m_numbered := m_numbered) (m_depth := m_depth) (m_value := m_value) (m_isNot := m_isNot) (m_least0 := m_least0) (m_most0 := m_most0) (m_slot := m_slot) (m_work := m_work) (m_got := m_got) (m_rowMany := m_rowMany) (m_charAt := m_charAt) (m_charWide := m_charWide) (m_trail := m_trail) (m_isMatch := m_isMatch) (m_matchGroups := m_matchGroups) (m_allFrom := m_allFrom) (m_allBefore := m_allBefore) (m_founds := m_founds) (m_pieces := m_pieces) (m_writtenMany := m_writtenMany) (m_templateWide := m_templateWide) (m_tooMuch := m_tooMuch) (x := 7) (y := m_at) h80 (by omega) (by omega)) (fun oc G2 h => by rcases h with ⟨_, _, h, _⟩ <;> exact ⟨_, h⟩) (by omega) m_MO_wrong ml_MO_304 im_MO_wrong se_MO_wrong c_MO h80.2.2 (Nat.le_of_ble_eq_true rfl) d_MO_posix_266 rfl ?_
                      intro v G399 hq
                      rcases hq with ⟨f2400, p2401, hv, hfk, hlk, hsk, hN80, hq402⟩
                      cases hv
                      have h84 := hfk.get h84 (by decide)
                      have h87 := hfk.get h87 (by decide)
                      have h88 := hfk.get h88 (by decide)
                      have h81 := hfk.get h81 (by decide)
                      have h82 := hfk.get h82 (by decide)
                      have hfr := hfr.tr hfk (by decide)
                      have hlen := hlk.trans hlen
                      have hsl := hsk.trans hsl
                      have h80 := hN80
                      change ab_W _ _ _ G399 269 [some (vR 80), some (vz m_at), some (vz 1), some (vz m_taped), some (vz 9)] [] _
                      refine ab_vret rfl d_MO_posix_269 ?_
                      rw [hQ]; exact (Or.inl ⟨_, _, _, rfl, hfr, hlen, hsl, h80, h87, h88, (by omega)⟩)
                  · cases hv
                    rw [hGe]
                    change ab_W _ _ _ G266 257 [some (vR 80), some (vz m_at), some (vz 1), some (vz m_taped), some (vz 9)] [vz (-1)] _
                    refine zz_bipush d_MO_posix_257 (by decide) ?_
                    refine zz_icmp_eq (tgt := 270) d_MO_posix_259 (by decide) (by decide) (by decide) (fun c403 => absurd c403 (by decide)) (fun c403 => ?_)
                    refine ab_aload_n d_MO_posix_262 rfl ?_
                    refine zz_bipush d_MO_posix_263 (by decide) ?_
                    refine ab_iload_n d_MO_posix_265 rfl ?_
                    refine ab_callV (d' := d - 1) (as := [vz 7, vz m_at]) (st := []) (r := _) (z_MO_wrong (o := o) (m_thrown := m_thrown) (m_taped := m_taped) (m_length := m_length) (m_out := m_out) (m_wide := m_wide) (m_gathered := m_gathered) (m_sets := m_sets) (m_ranges := m_ranges) (m_nodes := m_nodes) (m_at := ((m_at + 2) + 1)) (m_flags := m_flags) (m_fault := m_fault) (m_place := m_place) (m_numbered := m_numbered) (m_depth := m_depth) (m_value := m_value) (m_isNot := m_isNot) (m_least0 := m_least0) (m_most0 := m_most0) (m_slot := m_slot) (m_work := m_work) (m_got := m_got) (m_rowMany := m_rowMany) (m_charAt := m_charAt) (m_charWide := m_charWide) (m_trail := m_trail) (m_isMatch := m_isMatch) (m_matchGroups := m_matchGroups) (m_allFrom := m_allFrom) (m_allBefore := m_allBefore) (m_founds := m_founds) (m_pieces := m_pieces) (m_writtenMany := m_writtenMany) (m_templateWide := m_templateWide) (m_tooMuch := m_tooMuch) (x := 7) (y := m_at) h80 (by omega) (by omega)) (fun oc G2 h => by rcases h with ⟨_, _, h, _⟩ <;> exact ⟨_, h⟩) (by omega) m_MO_wrong ml_MO_304 im_MO_wrong se_MO_wrong c_MO h80.2.2 (Nat.le_of_ble_eq_true rfl) d_MO_posix_266 rfl ?_
                    intro v G404 hq
                    rcases hq with ⟨f2405, p2406, hv, hfk, hlk, hsk, hN80, hq407⟩
                    cases hv
                    have h84 := hfk.get h84 (by decide)
                    have h87 := hfk.get h87 (by decide)
                    have h88 := hfk.get h88 (by decide)
                    have h81 := hfk.get h81 (by decide)
                    have h82 := hfk.get h82 (by decide)
                    have hfr := hfr.tr hfk (by decide)
                    have hlen := hlk.trans hlen
                    have hsl := hsk.trans hsl
                    have h80 := hN80
                    change ab_W _ _ _ G404 269 [some (vR 80), some (vz m_at), some (vz 1), some (vz m_taped), some (vz 9)] [] _
                    refine ab_vret rfl d_MO_posix_269 ?_
                    rw [hQ]; exact (Or.inl ⟨_, _, _, rfl, hfr, hlen, hsl, h80, h87, h88, (by omega)⟩)
              · cases hv
                rw [hGe]
                change ab_W _ _ _ G266 246 [some (vR 80), some (vz m_at), some (vz 1), some (vz m_taped), some (vz 9)] [vz (-1)] _
                refine zz_bipush d_MO_posix_246 (by decide) ?_
                refine zz_icmp_ne (tgt := 262) d_MO_posix_248 (by decide) (by decide) (by decide) (fun c408 => ?_) (fun c408 => absurd c408 (by decide))
                refine ab_aload_n d_MO_posix_262 rfl ?_
                refine zz_bipush d_MO_posix_263 (by decide) ?_
                refine ab_iload_n d_MO_posix_265 rfl ?_
                refine ab_callV (d' := d - 1) (as := [vz 7, vz m_at]) (st := []) (r := _) (z_MO_wrong (o := o) (m_thrown := m_thrown) (m_taped := m_taped) (m_length := m_length) (m_out := m_out) (m_wide := m_wide) (m_gathered := m_gathered) (m_sets := m_sets) (m_ranges := m_ranges) (m_nodes := m_nodes) (m_at := ((m_at + 2) + 1)) (m_flags := m_flags) (m_fault := m_fault) (m_place := m_place) (m_numbered := m_numbered) (m_depth := m_depth) (m_value := m_value) (m_isNot := m_isNot) (m_least0 := m_least0) (m_most0 := m_most0) (m_slot := m_slot) (m_work := m_work) (m_got := m_got) (m_rowMany := m_rowMany) (m_charAt := m_charAt) (m_charWide := m_charWide) (m_trail := m_trail) (m_isMatch := m_isMatch) (m_matchGroups := m_matchGroups) (m_allFrom := m_allFrom) (m_allBefore := m_allBefore) (m_founds := m_founds) (m_pieces := m_pieces) (m_writtenMany := m_writtenMany) (m_templateWide := m_templateWide) (m_tooMuch := m_tooMuch) (x := 7) (y := m_at) h80 (by omega) (by omega)) (fun oc G2 h => by rcases h with ⟨_, _, h, _⟩ <;> exact ⟨_, h⟩) (by omega) m_MO_wrong ml_MO_304 im_MO_wrong se_MO_wrong c_MO h80.2.2 (Nat.le_of_ble_eq_true rfl) d_MO_posix_266 rfl ?_
                intro v G409 hq
                rcases hq with ⟨f2410, p2411, hv, hfk, hlk, hsk, hN80, hq412⟩
                cases hv
                have h84 := hfk.get h84 (by decide)
                have h87 := hfk.get h87 (by decide)
                have h88 := hfk.get h88 (by decide)
                have h81 := hfk.get h81 (by decide)
                have h82 := hfk.get h82 (by decide)
                have hfr := hfr.tr hfk (by decide)
                have hlen := hlk.trans hlen
                have hsl := hsk.trans hsl
                have h80 := hN80
                change ab_W _ _ _ G409 269 [some (vR 80), some (vz m_at), some (vz 1), some (vz m_taped), some (vz 9)] [] _
                refine ab_vret rfl d_MO_posix_269 ?_
                rw [hQ]; exact (Or.inl ⟨_, _, _, rfl, hfr, hlen, hsl, h80, h87, h88, (by omega)⟩)
          · refine zz_bipush d_MO_posix_138 (by decide) ?_
            refine ab_goto (tgt := 234) d_MO_posix_140 (by decide) ?_
            refine ab_istore d_MO_posix_234 (Nat.le_of_ble_eq_true rfl) (Nat.le_of_ble_eq_true rfl) rfl ?_
            change ab_W _ _ _ G266 236 [some (vR 80), some (vz m_at), some (vz 1), some (vz m_taped), some (vz 8)] [] _
            refine ab_iload d_MO_posix_236 rfl ?_
            refine zz_if_lt (tgt := 262) d_MO_posix_238 (by decide) (by decide) (fun c413 => absurd c413 (by decide)) (fun c413 => ?_)
            refine ab_aload_n d_MO_posix_241 rfl ?_
            refine zz_iconst d_MO_posix_242 ?_
            refine ab_callV (d' := d - 1) (as := [vz 5]) (st := []) (r := _) (z_MO_here (o := o) (m_thrown := m_thrown) (m_taped := m_taped) (m_length := m_length) (m_out := m_out) (m_wide := m_wide) (m_gathered := m_gathered) (m_sets := m_sets) (m_ranges := m_ranges) (m_nodes := m_nodes) (m_at := ((m_at + 2) + 1)) (m_flags := m_flags) (m_fault := m_fault) (m_place := m_place) (m_numbered := m_numbered) (m_depth := m_depth) (m_value := m_value) (m_isNot := m_isNot) (m_least0 := m_least0) (m_most0 := m_most0) (m_slot := m_slot) (m_work := m_work) (m_got := m_got) (m_rowMany := m_rowMany) (m_charAt := m_charAt) (m_charWide := m_charWide) (m_trail := m_trail) (m_isMatch := m_isMatch) (m_matchGroups := m_matchGroups) (m_allFrom := m_allFrom) (m_allBefore := m_allBefore) (m_founds := m_founds) (m_pieces := m_pieces) (m_writtenMany := m_writtenMany) (m_templateWide := m_templateWide) (m_tooMuch := m_tooMuch) (A_tape := A_tape) (k := 5) h80 h84 (by omega) (by omega) jtp (by omega)) (fun oc G2 h => by rcases h with ⟨h, _⟩ | ⟨h, _⟩ <;> exact ⟨_, h⟩) (by omega) m_MO_here ml_MO_297 im_MO_here se_MO_here c_MO h80.2.2 (Nat.le_of_ble_eq_true rfl) d_MO_posix_243 rfl ?_
            intro v G414 hq
            rcases hq with ⟨hv, hGe, hq415⟩ | ⟨hv, hGe, hq416⟩
            · cases hv
              rw [hGe]
              change ab_W _ _ _ G266 246 [some (vR 80), some (vz m_at), some (vz 1), some (vz m_taped), some (vz 8)] [vz (A_tape (((m_at + 2) + 1) + 5))] _
              refine zz_bipush d_MO_posix_246 (by decide) ?_
              refine zz_icmp_ne (tgt := 262) d_MO_posix_248 (by decide) (by omega) (by decide) (fun c417 => ?_) (fun c417 => ?_)
              · refine ab_aload_n d_MO_posix_262 rfl ?_
                refine zz_bipush d_MO_posix_263 (by decide) ?_
                refine ab_iload_n d_MO_posix_265 rfl ?_
                refine ab_callV (d' := d - 1) (as := [vz 7, vz m_at]) (st := []) (r := _) (z_MO_wrong (o := o) (m_thrown := m_thrown) (m_taped := m_taped) (m_length := m_length) (m_out := m_out) (m_wide := m_wide) (m_gathered := m_gathered) (m_sets := m_sets) (m_ranges := m_ranges) (m_nodes := m_nodes) (m_at := ((m_at + 2) + 1)) (m_flags := m_flags) (m_fault := m_fault) (m_place := m_place) (m_numbered := m_numbered) (m_depth := m_depth) (m_value := m_value) (m_isNot := m_isNot) (m_least0 := m_least0) (m_most0 := m_most0) (m_slot := m_slot) (m_work := m_work) (m_got := m_got) (m_rowMany := m_rowMany) (m_charAt := m_charAt) (m_charWide := m_charWide) (m_trail := m_trail) (m_isMatch := m_isMatch) (m_matchGroups := m_matchGroups) (m_allFrom := m_allFrom) (m_allBefore := m_allBefore) (m_founds := m_founds) (m_pieces := m_pieces) (m_writtenMany := m_writtenMany) (m_templateWide := m_templateWide) (m_tooMuch := m_tooMuch) (x := 7) (y := m_at) h80 (by omega) (by omega)) (fun oc G2 h => by rcases h with ⟨_, _, h, _⟩ <;> exact ⟨_, h⟩) (by omega) m_MO_wrong ml_MO_304 im_MO_wrong se_MO_wrong c_MO h80.2.2 (Nat.le_of_ble_eq_true rfl) d_MO_posix_266 rfl ?_
                intro v G418 hq
                rcases hq with ⟨f2419, p2420, hv, hfk, hlk, hsk, hN80, hq421⟩
                cases hv
                have h84 := hfk.get h84 (by decide)
                have h87 := hfk.get h87 (by decide)
                have h88 := hfk.get h88 (by decide)
                have h81 := hfk.get h81 (by decide)
                have h82 := hfk.get h82 (by decide)
                have hfr := hfr.tr hfk (by decide)
                have hlen := hlk.trans hlen
                have hsl := hsk.trans hsl
                have h80 := hN80
                change ab_W _ _ _ G418 269 [some (vR 80), some (vz m_at), some (vz 1), some (vz m_taped), some (vz 8)] [] _
                refine ab_vret rfl d_MO_posix_269 ?_
                rw [hQ]; exact (Or.inl ⟨_, _, _, rfl, hfr, hlen, hsl, h80, h87, h88, (by omega)⟩)
              · refine ab_aload_n d_MO_posix_251 rfl ?_
                refine zz_bipush d_MO_posix_252 (by decide) ?_
                refine ab_callV (d' := d - 1) (as := [vz 6]) (st := []) (r := _) (z_MO_here (o := o) (m_thrown := m_thrown) (m_taped := m_taped) (m_length := m_length) (m_out := m_out) (m_wide := m_wide) (m_gathered := m_gathered) (m_sets := m_sets) (m_ranges := m_ranges) (m_nodes := m_nodes) (m_at := ((m_at + 2) + 1)) (m_flags := m_flags) (m_fault := m_fault) (m_place := m_place) (m_numbered := m_numbered) (m_depth := m_depth) (m_value := m_value) (m_isNot := m_isNot) (m_least0 := m_least0) (m_most0 := m_most0) (m_slot := m_slot) (m_work := m_work) (m_got := m_got) (m_rowMany := m_rowMany) (m_charAt := m_charAt) (m_charWide := m_charWide) (m_trail := m_trail) (m_isMatch := m_isMatch) (m_matchGroups := m_matchGroups) (m_allFrom := m_allFrom) (m_allBefore := m_allBefore) (m_founds := m_founds) (m_pieces := m_pieces) (m_writtenMany := m_writtenMany) (m_templateWide := m_templateWide) (m_tooMuch := m_tooMuch) (A_tape := A_tape) (k := 6) h80 h84 (by omega) (by omega) jtp (by omega)) (fun oc G2 h => by rcases h with ⟨h, _⟩ | ⟨h, _⟩ <;> exact ⟨_, h⟩) (by omega) m_MO_here ml_MO_297 im_MO_here se_MO_here c_MO h80.2.2 (Nat.le_of_ble_eq_true rfl) d_MO_posix_254 rfl ?_
                intro v G422 hq
                rcases hq with ⟨hv, hGe, hq423⟩ | ⟨hv, hGe, hq424⟩
                · cases hv
                  rw [hGe]
                  change ab_W _ _ _ G266 257 [some (vR 80), some (vz m_at), some (vz 1), some (vz m_taped), some (vz 8)] [vz (A_tape (((m_at + 2) + 1) + 6))] _
                  refine zz_bipush d_MO_posix_257 (by decide) ?_
                  refine zz_icmp_eq (tgt := 270) d_MO_posix_259 (by decide) (by omega) (by decide) (fun c425 => ?_) (fun c425 => ?_)
                  · refine ab_aload_n d_MO_posix_270 rfl ?_
                    refine ab_iload d_MO_posix_271 rfl ?_
                    refine ab_iload_n d_MO_posix_273 rfl ?_
                    refine ab_callV (d' := d - 1) (as := [vz 8, vz 1]) (st := []) (r := _) (z_MO_gatherNamed (o := o) (m_thrown := m_thrown) (m_taped := m_taped) (m_length := m_length) (m_out := m_out) (m_wide := m_wide) (m_gathered := m_gathered) (m_sets := m_sets) (m_ranges := m_ranges) (m_nodes := m_nodes) (m_at := ((m_at + 2) + 1)) (m_flags := m_flags) (m_fault := m_fault) (m_place := m_place) (m_numbered := m_numbered) (m_depth := m_depth) (m_value := m_value) (m_isNot := m_isNot) (m_least0 := m_least0) (m_most0 := m_most0) (m_slot := m_slot) (m_work := m_work) (m_got := m_got) (m_rowMany := m_rowMany) (m_charAt := m_charAt) (m_charWide := m_charWide) (m_trail := m_trail) (m_isMatch := m_isMatch) (m_matchGroups := m_matchGroups) (m_allFrom := m_allFrom) (m_allBefore := m_allBefore) (m_founds := m_founds) (m_pieces := m_pieces) (m_writtenMany := m_writtenMany) (m_templateWide := m_templateWide) (m_tooMuch := m_tooMuch) (LO := LO) (HI := HI) (MK := MK) (P := P) (w := 8) (nt := 1) (mm := mm) h80 h87 h88 h81 h82 (by omega) (by omega) jc jl (by omega)) (fun oc G2 h => by rcases h with ⟨_, _, _, _, h, _⟩ <;> exact ⟨_, h⟩) (by omega) m_MO_gatherNamed ml_MO_337 im_MO_gatherNamed se_MO_gatherNamed c_MO h80.2.2 (Nat.le_of_ble_eq_true rfl) d_MO_posix_274 rfl ?_
                    intro v G426 hq
                    rcases hq with ⟨g2427, LO2428, HI2429, P2430, hv, hfk, hlk, hsk, hN80, hN87, hN88, hq431, hq432, hq433, hq434⟩
                    cases hv
                    have h84 := hfk.get h84 (by decide)
                    have h81 := hfk.get h81 (by decide)
                    have h82 := hfk.get h82 (by decide)
                    have hfr := hfr.tr hfk (by decide)
                    have hlen := hlk.trans hlen
                    have hsl := hsk.trans hsl
                    have h80 := hN80
                    have h87 := hN87
                    have h88 := hN88
                    change ab_W _ _ _ G426 277 [some (vR 80), some (vz m_at), some (vz 1), some (vz m_taped), some (vz 8)] [] _
                    refine ab_aload_n d_MO_posix_277 rfl ?_
                    refine ab_dup d_MO_posix_278 rfl ?_
                    refine ab_getf (fs := mof m_thrown m_taped m_length m_out m_wide g2427 m_sets m_ranges m_nodes ((m_at + 2) + 1) m_flags m_fault m_place m_numbered m_depth m_value m_isNot m_least0 m_most0 m_slot m_work m_got m_rowMany m_charAt m_charWide m_trail m_isMatch m_matchGroups m_allFrom m_allBefore m_founds m_pieces m_writtenMany m_templateWide m_tooMuch) f_MO_279 d_MO_posix_279 h80.2.2 rfl ?_
                    refine zz_bipush d_MO_posix_282 (by decide) ?_
                    refine zz_iadd d_MO_posix_284 ?_
                    refine ab_putf (fs := mof m_thrown m_taped m_length m_out m_wide g2427 m_sets m_ranges m_nodes ((m_at + 2) + 1) m_flags m_fault m_place m_numbered m_depth m_value m_isNot m_least0 m_most0 m_slot m_work m_got m_rowMany m_charAt m_charWide m_trail m_isMatch m_matchGroups m_allFrom m_allBefore m_founds m_pieces m_writtenMany m_templateWide m_tooMuch) f_MO_279 (Or.inl rfl) d_MO_posix_285 h80.2.2 (Nat.le_of_ble_eq_true rfl) (fun _ => ⟨rfl, rfl⟩) (h80.2.1 (by decide)) ?_
                    obtain ⟨G435, eG435⟩ : ∃ z : ab_G, z = List.set G426 80 (ab_ob 12 (mof m_thrown m_taped m_length m_out m_wide g2427 m_sets m_ranges m_nodes (((m_at + 2) + 1) + 7) m_flags m_fault m_place m_numbered m_depth m_value m_isNot m_least0 m_most0 m_slot m_work m_got m_rowMany m_charAt m_charWide m_trail m_isMatch m_matchGroups m_allFrom m_allBefore m_founds m_pieces m_writtenMany m_templateWide m_tooMuch)) := ⟨_, rfl⟩
                    have h84 := h84.keep h80 eG435 (by decide)
                    have h87 := h87.keep h80 eG435 (by decide)
                    have h88 := h88.keep h80 eG435 (by decide)
                    have h81 := h81.keep h80 eG435 (by decide)
                    have h82 := h82.keep h80 eG435 (by decide)
                    have hlen := (z_len eG435).trans hlen
                    have hsl := (z_sl h80 eG435 rfl).trans hsl
                    have hfr := hfr.wr h80 eG435 (by decide)
                    have h80 := h80.kept eG435
                    change ab_W _ _ _ (List.set G426 80 (ab_ob 12 (mof m_thrown m_taped m_length m_out m_wide g2427 m_sets m_ranges m_nodes (((m_at + 2) + 1) + 7) m_flags m_fault m_place m_numbered m_depth m_value m_isNot m_least0 m_most0 m_slot m_work m_got m_rowMany m_charAt m_charWide m_trail m_isMatch m_matchGroups m_allFrom m_allBefore m_founds m_pieces m_writtenMany m_templateWide m_tooMuch))) 288 [some (vR 80), some (vz m_at), some (vz 1), some (vz m_taped), some (vz 8)] [] _
                    rw [← eG435]
                    refine ab_vret rfl d_MO_posix_288 ?_
                    rw [hQ]; exact (Or.inr ⟨_, _, _, _, _, rfl, hfr, hlen, hsl, h80, h87, h88, (by omega), (by exact hq433), (by exact lfc_w hq434 (by omega))⟩)
                  · refine ab_aload_n d_MO_posix_262 rfl ?_
                    refine zz_bipush d_MO_posix_263 (by decide) ?_
                    refine ab_iload_n d_MO_posix_265 rfl ?_
                    refine ab_callV (d' := d - 1) (as := [vz 7, vz m_at]) (st := []) (r := _) (z_MO_wrong (o := o) (m_thrown := m_thrown) (m_taped := m_taped) (m_length := m_length) (m_out := m_out) (m_wide := m_wide) (m_gathered := m_gathered) (m_sets := m_sets) (m_ranges := m_ranges) (m_nodes := m_nodes) (m_at := ((m_at + 2) + 1)) (m_flags := m_flags) (m_fault := m_fault) (m_place := m_place) (m_numbered := m_numbered) (m_depth := m_depth) (m_value := m_value) (m_isNot := m_isNot) (m_least0 := m_least0) (m_most0 := m_most0) (m_slot := m_slot) (m_work := m_work) (m_got := m_got) (m_rowMany := m_rowMany) (m_charAt := m_charAt) (m_charWide := m_charWide) (m_trail := m_trail) (m_isMatch := m_isMatch) (m_matchGroups := m_matchGroups) (m_allFrom := m_allFrom) (m_allBefore := m_allBefore) (m_founds := m_founds) (m_pieces := m_pieces) (m_writtenMany := m_writtenMany) (m_templateWide := m_templateWide) (m_tooMuch := m_tooMuch) (x := 7) (y := m_at) h80 (by omega) (by omega)) (fun oc G2 h => by rcases h with ⟨_, _, h, _⟩ <;> exact ⟨_, h⟩) (by omega) m_MO_wrong ml_MO_304 im_MO_wrong se_MO_wrong c_MO h80.2.2 (Nat.le_of_ble_eq_true rfl) d_MO_posix_266 rfl ?_
                    intro v G436 hq
                    rcases hq with ⟨f2437, p2438, hv, hfk, hlk, hsk, hN80, hq439⟩
                    cases hv
                    have h84 := hfk.get h84 (by decide)
                    have h87 := hfk.get h87 (by decide)
                    have h88 := hfk.get h88 (by decide)
                    have h81 := hfk.get h81 (by decide)
                    have h82 := hfk.get h82 (by decide)
                    have hfr := hfr.tr hfk (by decide)
                    have hlen := hlk.trans hlen
                    have hsl := hsk.trans hsl
                    have h80 := hN80
                    change ab_W _ _ _ G436 269 [some (vR 80), some (vz m_at), some (vz 1), some (vz m_taped), some (vz 8)] [] _
                    refine ab_vret rfl d_MO_posix_269 ?_
                    rw [hQ]; exact (Or.inl ⟨_, _, _, rfl, hfr, hlen, hsl, h80, h87, h88, (by omega)⟩)
                · cases hv
                  rw [hGe]
                  change ab_W _ _ _ G266 257 [some (vR 80), some (vz m_at), some (vz 1), some (vz m_taped), some (vz 8)] [vz (-1)] _
                  refine zz_bipush d_MO_posix_257 (by decide) ?_
                  refine zz_icmp_eq (tgt := 270) d_MO_posix_259 (by decide) (by decide) (by decide) (fun c440 => absurd c440 (by decide)) (fun c440 => ?_)
                  refine ab_aload_n d_MO_posix_262 rfl ?_
                  refine zz_bipush d_MO_posix_263 (by decide) ?_
                  refine ab_iload_n d_MO_posix_265 rfl ?_
                  refine ab_callV (d' := d - 1) (as := [vz 7, vz m_at]) (st := []) (r := _) (z_MO_wrong (o := o) (m_thrown := m_thrown) (m_taped := m_taped) (m_length := m_length) (m_out := m_out) (m_wide := m_wide) (m_gathered := m_gathered) (m_sets := m_sets) (m_ranges := m_ranges) (m_nodes := m_nodes) (m_at := ((m_at + 2) + 1)) (m_flags := m_flags) (m_fault := m_fault) (m_place := m_place) (m_numbered := m_numbered) (m_depth := m_depth) (m_value := m_value) (m_isNot := m_isNot) (m_least0 := m_least0) (m_most0 := m_most0) (m_slot := m_slot) (m_work := m_work) (m_got := m_got) (m_rowMany := m_rowMany) (m_charAt := m_charAt) (m_charWide := m_charWide) (m_trail := m_trail) (m_isMatch := m_isMatch) (m_matchGroups := m_matchGroups) (m_allFrom := m_allFrom) (m_allBefore := m_allBefore) (m_founds := m_founds) (m_pieces := m_pieces) (m_writtenMany := m_writtenMany) (m_templateWide := m_templateWide) (m_tooMuch := m_tooMuch) (x := 7) (y := m_at) h80 (by omega) (by omega)) (fun oc G2 h => by rcases h with ⟨_, _, h, _⟩ <;> exact ⟨_, h⟩) (by omega) m_MO_wrong ml_MO_304 im_MO_wrong se_MO_wrong c_MO h80.2.2 (Nat.le_of_ble_eq_true rfl) d_MO_posix_266 rfl ?_
                  intro v G441 hq
                  rcases hq with ⟨f2442, p2443, hv, hfk, hlk, hsk, hN80, hq444⟩
                  cases hv
                  have h84 := hfk.get h84 (by decide)
                  have h87 := hfk.get h87 (by decide)
                  have h88 := hfk.get h88 (by decide)
                  have h81 := hfk.get h81 (by decide)
                  have h82 := hfk.get h82 (by decide)
                  have hfr := hfr.tr hfk (by decide)
                  have hlen := hlk.trans hlen
                  have hsl := hsk.trans hsl
                  have h80 := hN80
                  change ab_W _ _ _ G441 269 [some (vR 80), some (vz m_at), some (vz 1), some (vz m_taped), some (vz 8)] [] _
                  refine ab_vret rfl d_MO_posix_269 ?_
                  rw [hQ]; exact (Or.inl ⟨_, _, _, rfl, hfr, hlen, hsl, h80, h87, h88, (by omega)⟩)
            · cases hv
              rw [hGe]
              change ab_W _ _ _ G266 246 [some (vR 80), some (vz m_at), some (vz 1), some (vz m_taped), some (vz 8)] [vz (-1)] _
              refine zz_bipush d_MO_posix_246 (by decide) ?_
              refine zz_icmp_ne (tgt := 262) d_MO_posix_248 (by decide) (by decide) (by decide) (fun c445 => ?_) (fun c445 => absurd c445 (by decide))
              refine ab_aload_n d_MO_posix_262 rfl ?_
              refine zz_bipush d_MO_posix_263 (by decide) ?_
              refine ab_iload_n d_MO_posix_265 rfl ?_
              refine ab_callV (d' := d - 1) (as := [vz 7, vz m_at]) (st := []) (r := _) (z_MO_wrong (o := o) (m_thrown := m_thrown) (m_taped := m_taped) (m_length := m_length) (m_out := m_out) (m_wide := m_wide) (m_gathered := m_gathered) (m_sets := m_sets) (m_ranges := m_ranges) (m_nodes := m_nodes) (m_at := ((m_at + 2) + 1)) (m_flags := m_flags) (m_fault := m_fault) (m_place := m_place) (m_numbered := m_numbered) (m_depth := m_depth) (m_value := m_value) (m_isNot := m_isNot) (m_least0 := m_least0) (m_most0 := m_most0) (m_slot := m_slot) (m_work := m_work) (m_got := m_got) (m_rowMany := m_rowMany) (m_charAt := m_charAt) (m_charWide := m_charWide) (m_trail := m_trail) (m_isMatch := m_isMatch) (m_matchGroups := m_matchGroups) (m_allFrom := m_allFrom) (m_allBefore := m_allBefore) (m_founds := m_founds) (m_pieces := m_pieces) (m_writtenMany := m_writtenMany) (m_templateWide := m_templateWide) (m_tooMuch := m_tooMuch) (x := 7) (y := m_at) h80 (by omega) (by omega)) (fun oc G2 h => by rcases h with ⟨_, _, h, _⟩ <;> exact ⟨_, h⟩) (by omega) m_MO_wrong ml_MO_304 im_MO_wrong se_MO_wrong c_MO h80.2.2 (Nat.le_of_ble_eq_true rfl) d_MO_posix_266 rfl ?_
              intro v G446 hq
              rcases hq with ⟨f2447, p2448, hv, hfk, hlk, hsk, hN80, hq449⟩
              cases hv
              have h84 := hfk.get h84 (by decide)
              have h87 := hfk.get h87 (by decide)
              have h88 := hfk.get h88 (by decide)
              have h81 := hfk.get h81 (by decide)
              have h82 := hfk.get h82 (by decide)
              have hfr := hfr.tr hfk (by decide)
              have hlen := hlk.trans hlen
              have hsl := hsk.trans hsl
              have h80 := hN80
              change ab_W _ _ _ G446 269 [some (vR 80), some (vz m_at), some (vz 1), some (vz m_taped), some (vz 8)] [] _
              refine ab_vret rfl d_MO_posix_269 ?_
              rw [hQ]; exact (Or.inl ⟨_, _, _, rfl, hfr, hlen, hsl, h80, h87, h88, (by omega)⟩)
        · refine zz_bipush d_MO_posix_108 (by decide) ?_
          refine ab_goto (tgt := 234) d_MO_posix_110 (by decide) ?_
          refine ab_istore d_MO_posix_234 (Nat.le_of_ble_eq_true rfl) (Nat.le_of_ble_eq_true rfl) rfl ?_
          change ab_W _ _ _ G266 236 [some (vR 80), some (vz m_at), some (vz 1), some (vz m_taped), some (vz 7)] [] _
          refine ab_iload d_MO_posix_236 rfl ?_
          refine zz_if_lt (tgt := 262) d_MO_posix_238 (by decide) (by decide) (fun c450 => absurd c450 (by decide)) (fun c450 => ?_)
          refine ab_aload_n d_MO_posix_241 rfl ?_
          refine zz_iconst d_MO_posix_242 ?_
          refine ab_callV (d' := d - 1) (as := [vz 5]) (st := []) (r := _) (z_MO_here (o := o) (m_thrown := m_thrown) (m_taped := m_taped) (m_length := m_length) (m_out := m_out) (m_wide := m_wide) (m_gathered := m_gathered) (m_sets := m_sets) (m_ranges := m_ranges) (m_nodes := m_nodes) (m_at := ((m_at + 2) + 1)) (m_flags := m_flags) (m_fault := m_fault) (m_place := m_place) (m_numbered := m_numbered) (m_depth := m_depth) (m_value := m_value) (m_isNot := m_isNot) (m_least0 := m_least0) (m_most0 := m_most0) (m_slot := m_slot) (m_work := m_work) (m_got := m_got) (m_rowMany := m_rowMany) (m_charAt := m_charAt) (m_charWide := m_charWide) (m_trail := m_trail) (m_isMatch := m_isMatch) (m_matchGroups := m_matchGroups) (m_allFrom := m_allFrom) (m_allBefore := m_allBefore) (m_founds := m_founds) (m_pieces := m_pieces) (m_writtenMany := m_writtenMany) (m_templateWide := m_templateWide) (m_tooMuch := m_tooMuch) (A_tape := A_tape) (k := 5) h80 h84 (by omega) (by omega) jtp (by omega)) (fun oc G2 h => by rcases h with ⟨h, _⟩ | ⟨h, _⟩ <;> exact ⟨_, h⟩) (by omega) m_MO_here ml_MO_297 im_MO_here se_MO_here c_MO h80.2.2 (Nat.le_of_ble_eq_true rfl) d_MO_posix_243 rfl ?_
          intro v G451 hq
          rcases hq with ⟨hv, hGe, hq452⟩ | ⟨hv, hGe, hq453⟩
          · cases hv
            rw [hGe]
            change ab_W _ _ _ G266 246 [some (vR 80), some (vz m_at), some (vz 1), some (vz m_taped), some (vz 7)] [vz (A_tape (((m_at + 2) + 1) + 5))] _
            refine zz_bipush d_MO_posix_246 (by decide) ?_
            refine zz_icmp_ne (tgt := 262) d_MO_posix_248 (by decide) (by omega) (by decide) (fun c454 => ?_) (fun c454 => ?_)
            · refine ab_aload_n d_MO_posix_262 rfl ?_
              refine zz_bipush d_MO_posix_263 (by decide) ?_
              refine ab_iload_n d_MO_posix_265 rfl ?_
              refine ab_callV (d' := d - 1) (as := [vz 7, vz m_at]) (st := []) (r := _) (z_MO_wrong (o := o) (m_thrown := m_thrown) (m_taped := m_taped) (m_length := m_length) (m_out := m_out) (m_wide := m_wide) (m_gathered := m_gathered) (m_sets := m_sets) (m_ranges := m_ranges) (m_nodes := m_nodes) (m_at := ((m_at + 2) + 1)) (m_flags := m_flags) (m_fault := m_fault) (m_place := m_place) (m_numbered := m_numbered) (m_depth := m_depth) (m_value := m_value) (m_isNot := m_isNot) (m_least0 := m_least0) (m_most0 := m_most0) (m_slot := m_slot) (m_work := m_work) (m_got := m_got) (m_rowMany := m_rowMany) (m_charAt := m_charAt) (m_charWide := m_charWide) (m_trail := m_trail) (m_isMatch := m_isMatch) (m_matchGroups := m_matchGroups) (m_allFrom := m_allFrom) (m_allBefore := m_allBefore) (m_founds := m_founds) (m_pieces := m_pieces) (m_writtenMany := m_writtenMany) (m_templateWide := m_templateWide) (m_tooMuch := m_tooMuch) (x := 7) (y := m_at) h80 (by omega) (by omega)) (fun oc G2 h => by rcases h with ⟨_, _, h, _⟩ <;> exact ⟨_, h⟩) (by omega) m_MO_wrong ml_MO_304 im_MO_wrong se_MO_wrong c_MO h80.2.2 (Nat.le_of_ble_eq_true rfl) d_MO_posix_266 rfl ?_
              intro v G455 hq
              rcases hq with ⟨f2456, p2457, hv, hfk, hlk, hsk, hN80, hq458⟩
              cases hv
              have h84 := hfk.get h84 (by decide)
              have h87 := hfk.get h87 (by decide)
              have h88 := hfk.get h88 (by decide)
              have h81 := hfk.get h81 (by decide)
              have h82 := hfk.get h82 (by decide)
              have hfr := hfr.tr hfk (by decide)
              have hlen := hlk.trans hlen
              have hsl := hsk.trans hsl
              have h80 := hN80
              change ab_W _ _ _ G455 269 [some (vR 80), some (vz m_at), some (vz 1), some (vz m_taped), some (vz 7)] [] _
              refine ab_vret rfl d_MO_posix_269 ?_
              rw [hQ]; exact (Or.inl ⟨_, _, _, rfl, hfr, hlen, hsl, h80, h87, h88, (by omega)⟩)
            · refine ab_aload_n d_MO_posix_251 rfl ?_
              refine zz_bipush d_MO_posix_252 (by decide) ?_
              refine ab_callV (d' := d - 1) (as := [vz 6]) (st := []) (r := _) (z_MO_here (o := o) (m_thrown := m_thrown) (m_taped := m_taped) (m_length := m_length) (m_out := m_out) (m_wide := m_wide) (m_gathered := m_gathered) (m_sets := m_sets) (m_ranges := m_ranges) (m_nodes := m_nodes) (m_at := ((m_at + 2) + 1)) (m_flags := m_flags) (m_fault := m_fault) (m_place := m_place) (m_numbered := m_numbered) (m_depth := m_depth) (m_value := m_value) (m_isNot := m_isNot) (m_least0 := m_least0) (m_most0 := m_most0) (m_slot := m_slot) (m_work := m_work) (m_got := m_got) (m_rowMany := m_rowMany) (m_charAt := m_charAt) (m_charWide := m_charWide) (m_trail := m_trail) (m_isMatch := m_isMatch) (m_matchGroups := m_matchGroups) (m_allFrom := m_allFrom) (m_allBefore := m_allBefore) (m_founds := m_founds) (m_pieces := m_pieces) (m_writtenMany := m_writtenMany) (m_templateWide := m_templateWide) (m_tooMuch := m_tooMuch) (A_tape := A_tape) (k := 6) h80 h84 (by omega) (by omega) jtp (by omega)) (fun oc G2 h => by rcases h with ⟨h, _⟩ | ⟨h, _⟩ <;> exact ⟨_, h⟩) (by omega) m_MO_here ml_MO_297 im_MO_here se_MO_here c_MO h80.2.2 (Nat.le_of_ble_eq_true rfl) d_MO_posix_254 rfl ?_
              intro v G459 hq
              rcases hq with ⟨hv, hGe, hq460⟩ | ⟨hv, hGe, hq461⟩
              · cases hv
                rw [hGe]
                change ab_W _ _ _ G266 257 [some (vR 80), some (vz m_at), some (vz 1), some (vz m_taped), some (vz 7)] [vz (A_tape (((m_at + 2) + 1) + 6))] _
                refine zz_bipush d_MO_posix_257 (by decide) ?_
                refine zz_icmp_eq (tgt := 270) d_MO_posix_259 (by decide) (by omega) (by decide) (fun c462 => ?_) (fun c462 => ?_)
                · refine ab_aload_n d_MO_posix_270 rfl ?_
                  refine ab_iload d_MO_posix_271 rfl ?_
                  refine ab_iload_n d_MO_posix_273 rfl ?_
                  refine ab_callV (d' := d - 1) (as := [vz 7, vz 1]) (st := []) (r := _) (z_MO_gatherNamed (o := o) (m_thrown := m_thrown) (m_taped := m_taped) (m_length := m_length) (m_out := m_out) (m_wide := m_wide) (m_gathered := m_gathered) (m_sets := m_sets) (m_ranges := m_ranges) (m_nodes := m_nodes) (m_at := ((m_at + 2) + 1)) (m_flags := m_flags) (m_fault := m_fault) (m_place := m_place) (m_numbered := m_numbered) (m_depth := m_depth) (m_value := m_value) (m_isNot := m_isNot) (m_least0 := m_least0) (m_most0 := m_most0) (m_slot := m_slot) (m_work := m_work) (m_got := m_got) (m_rowMany := m_rowMany) (m_charAt := m_charAt) (m_charWide := m_charWide) (m_trail := m_trail) (m_isMatch := m_isMatch) (m_matchGroups := m_matchGroups) (m_allFrom := m_allFrom) (m_allBefore := m_allBefore) (m_founds := m_founds) (m_pieces := m_pieces) (m_writtenMany := m_writtenMany) (m_templateWide := m_templateWide) (m_tooMuch := m_tooMuch) (LO := LO) (HI := HI) (MK := MK) (P := P) (w := 7) (nt := 1) (mm := mm) h80 h87 h88 h81 h82 (by omega) (by omega) jc jl (by omega)) (fun oc G2 h => by rcases h with ⟨_, _, _, _, h, _⟩ <;> exact ⟨_, h⟩) (by omega) m_MO_gatherNamed ml_MO_337 im_MO_gatherNamed se_MO_gatherNamed c_MO h80.2.2 (Nat.le_of_ble_eq_true rfl) d_MO_posix_274 rfl ?_
                  intro v G463 hq
                  rcases hq with ⟨g2464, LO2465, HI2466, P2467, hv, hfk, hlk, hsk, hN80, hN87, hN88, hq468, hq469, hq470, hq471⟩
                  cases hv
                  have h84 := hfk.get h84 (by decide)
                  have h81 := hfk.get h81 (by decide)
                  have h82 := hfk.get h82 (by decide)
                  have hfr := hfr.tr hfk (by decide)
                  have hlen := hlk.trans hlen
                  have hsl := hsk.trans hsl
                  have h80 := hN80
                  have h87 := hN87
                  have h88 := hN88
                  change ab_W _ _ _ G463 277 [some (vR 80), some (vz m_at), some (vz 1), some (vz m_taped), some (vz 7)] [] _
                  refine ab_aload_n d_MO_posix_277 rfl ?_
                  refine ab_dup d_MO_posix_278 rfl ?_
                  refine ab_getf (fs := mof m_thrown m_taped m_length m_out m_wide g2464 m_sets m_ranges m_nodes ((m_at + 2) + 1) m_flags m_fault m_place m_numbered m_depth m_value m_isNot m_least0 m_most0 m_slot m_work m_got m_rowMany m_charAt m_charWide m_trail m_isMatch m_matchGroups m_allFrom m_allBefore m_founds m_pieces m_writtenMany m_templateWide m_tooMuch) f_MO_279 d_MO_posix_279 h80.2.2 rfl ?_
                  refine zz_bipush d_MO_posix_282 (by decide) ?_
                  refine zz_iadd d_MO_posix_284 ?_
                  refine ab_putf (fs := mof m_thrown m_taped m_length m_out m_wide g2464 m_sets m_ranges m_nodes ((m_at + 2) + 1) m_flags m_fault m_place m_numbered m_depth m_value m_isNot m_least0 m_most0 m_slot m_work m_got m_rowMany m_charAt m_charWide m_trail m_isMatch m_matchGroups m_allFrom m_allBefore m_founds m_pieces m_writtenMany m_templateWide m_tooMuch) f_MO_279 (Or.inl rfl) d_MO_posix_285 h80.2.2 (Nat.le_of_ble_eq_true rfl) (fun _ => ⟨rfl, rfl⟩) (h80.2.1 (by decide)) ?_
                  obtain ⟨G472, eG472⟩ : ∃ z : ab_G, z = List.set G463 80 (ab_ob 12 (mof m_thrown m_taped m_length m_out m_wide g2464 m_sets m_ranges m_nodes (((m_at + 2) + 1) + 7) m_flags m_fault m_place m_numbered m_depth m_value m_isNot m_least0 m_most0 m_slot m_work m_got m_rowMany m_charAt m_charWide m_trail m_isMatch m_matchGroups m_allFrom m_allBefore m_founds m_pieces m_writtenMany m_templateWide m_tooMuch)) := ⟨_, rfl⟩
                  have h84 := h84.keep h80 eG472 (by decide)
                  have h87 := h87.keep h80 eG472 (by decide)
                  have h88 := h88.keep h80 eG472 (by decide)
                  have h81 := h81.keep h80 eG472 (by decide)
                  have h82 := h82.keep h80 eG472 (by decide)
                  have hlen := (z_len eG472).trans hlen
                  have hsl := (z_sl h80 eG472 rfl).trans hsl
                  have hfr := hfr.wr h80 eG472 (by decide)
                  have h80 := h80.kept eG472
                  change ab_W _ _ _ (List.set G463 80 (ab_ob 12 (mof m_thrown m_taped m_length m_out m_wide g2464 m_sets m_ranges m_nodes (((m_at + 2) + 1) + 7) m_flags m_fault m_place m_numbered m_depth m_value m_isNot m_least0 m_most0 m_slot m_work m_got m_rowMany m_charAt m_charWide m_trail m_isMatch m_matchGroups m_allFrom m_allBefore m_founds m_pieces m_writtenMany m_templateWide m_tooMuch))) 288 [some (vR 80), some (vz m_at), some (vz 1), some (vz m_taped), some (vz 7)] [] _
                  rw [← eG472]
                  refine ab_vret rfl d_MO_posix_288 ?_
                  rw [hQ]; exact (Or.inr ⟨_, _, _, _, _, rfl, hfr, hlen, hsl, h80, h87, h88, (by omega), (by exact hq470), (by exact lfc_w hq471 (by omega))⟩)
                · refine ab_aload_n d_MO_posix_262 rfl ?_
                  refine zz_bipush d_MO_posix_263 (by decide) ?_
                  refine ab_iload_n d_MO_posix_265 rfl ?_
                  refine ab_callV (d' := d - 1) (as := [vz 7, vz m_at]) (st := []) (r := _) (z_MO_wrong (o := o) (m_thrown := m_thrown) (m_taped := m_taped) (m_length := m_length) (m_out := m_out) (m_wide := m_wide) (m_gathered := m_gathered) (m_sets := m_sets) (m_ranges := m_ranges) (m_nodes := m_nodes) (m_at := ((m_at + 2) + 1)) (m_flags := m_flags) (m_fault := m_fault) (m_place := m_place) (m_numbered := m_numbered) (m_depth := m_depth) (m_value := m_value) (m_isNot := m_isNot) (m_least0 := m_least0) (m_most0 := m_most0) (m_slot := m_slot) (m_work := m_work) (m_got := m_got) (m_rowMany := m_rowMany) (m_charAt := m_charAt) (m_charWide := m_charWide) (m_trail := m_trail) (m_isMatch := m_isMatch) (m_matchGroups := m_matchGroups) (m_allFrom := m_allFrom) (m_allBefore := m_allBefore) (m_founds := m_founds) (m_pieces := m_pieces) (m_writtenMany := m_writtenMany) (m_templateWide := m_templateWide) (m_tooMuch := m_tooMuch) (x := 7) (y := m_at) h80 (by omega) (by omega)) (fun oc G2 h => by rcases h with ⟨_, _, h, _⟩ <;> exact ⟨_, h⟩) (by omega) m_MO_wrong ml_MO_304 im_MO_wrong se_MO_wrong c_MO h80.2.2 (Nat.le_of_ble_eq_true rfl) d_MO_posix_266 rfl ?_
                  intro v G473 hq
                  rcases hq with ⟨f2474, p2475, hv, hfk, hlk, hsk, hN80, hq476⟩
                  cases hv
                  have h84 := hfk.get h84 (by decide)
                  have h87 := hfk.get h87 (by decide)
                  have h88 := hfk.get h88 (by decide)
                  have h81 := hfk.get h81 (by decide)
                  have h82 := hfk.get h82 (by decide)
                  have hfr := hfr.tr hfk (by decide)
                  have hlen := hlk.trans hlen
                  have hsl := hsk.trans hsl
                  have h80 := hN80
                  change ab_W _ _ _ G473 269 [some (vR 80), some (vz m_at), some (vz 1), some (vz m_taped), some (vz 7)] [] _
                  refine ab_vret rfl d_MO_posix_269 ?_
                  rw [hQ]; exact (Or.inl ⟨_, _, _, rfl, hfr, hlen, hsl, h80, h87, h88, (by omega)⟩)
              · cases hv
                rw [hGe]
                change ab_W _ _ _ G266 257 [some (vR 80), some (vz m_at), some (vz 1), some (vz m_taped), some (vz 7)] [vz (-1)] _
                refine zz_bipush d_MO_posix_257 (by decide) ?_
                refine zz_icmp_eq (tgt := 270) d_MO_posix_259 (by decide) (by decide) (by decide) (fun c477 => absurd c477 (by decide)) (fun c477 => ?_)
                refine ab_aload_n d_MO_posix_262 rfl ?_
                refine zz_bipush d_MO_posix_263 (by decide) ?_
                refine ab_iload_n d_MO_posix_265 rfl ?_
                refine ab_callV (d' := d - 1) (as := [vz 7, vz m_at]) (st := []) (r := _) (z_MO_wrong (o := o) (m_thrown := m_thrown) (m_taped := m_taped) (m_length := m_length) (m_out := m_out) (m_wide := m_wide) (m_gathered := m_gathered) (m_sets := m_sets) (m_ranges := m_ranges) (m_nodes := m_nodes) (m_at := ((m_at + 2) + 1)) (m_flags := m_flags) (m_fault := m_fault) (m_place := m_place) (m_numbered := m_numbered) (m_depth := m_depth) (m_value := m_value) (m_isNot := m_isNot) (m_least0 := m_least0) (m_most0 := m_most0) (m_slot := m_slot) (m_work := m_work) (m_got := m_got) (m_rowMany := m_rowMany) (m_charAt := m_charAt) (m_charWide := m_charWide) (m_trail := m_trail) (m_isMatch := m_isMatch) (m_matchGroups := m_matchGroups) (m_allFrom := m_allFrom) (m_allBefore := m_allBefore) (m_founds := m_founds) (m_pieces := m_pieces) (m_writtenMany := m_writtenMany) (m_templateWide := m_templateWide) (m_tooMuch := m_tooMuch) (x := 7) (y := m_at) h80 (by omega) (by omega)) (fun oc G2 h => by rcases h with ⟨_, _, h, _⟩ <;> exact ⟨_, h⟩) (by omega) m_MO_wrong ml_MO_304 im_MO_wrong se_MO_wrong c_MO h80.2.2 (Nat.le_of_ble_eq_true rfl) d_MO_posix_266 rfl ?_
                intro v G478 hq
                rcases hq with ⟨f2479, p2480, hv, hfk, hlk, hsk, hN80, hq481⟩
                cases hv
                have h84 := hfk.get h84 (by decide)
                have h87 := hfk.get h87 (by decide)
                have h88 := hfk.get h88 (by decide)
                have h81 := hfk.get h81 (by decide)
                have h82 := hfk.get h82 (by decide)
                have hfr := hfr.tr hfk (by decide)
                have hlen := hlk.trans hlen
                have hsl := hsk.trans hsl
                have h80 := hN80
                change ab_W _ _ _ G478 269 [some (vR 80), some (vz m_at), some (vz 1), some (vz m_taped), some (vz 7)] [] _
                refine ab_vret rfl d_MO_posix_269 ?_
                rw [hQ]; exact (Or.inl ⟨_, _, _, rfl, hfr, hlen, hsl, h80, h87, h88, (by omega)⟩)
          · cases hv
            rw [hGe]
            change ab_W _ _ _ G266 246 [some (vR 80), some (vz m_at), some (vz 1), some (vz m_taped), some (vz 7)] [vz (-1)] _
            refine zz_bipush d_MO_posix_246 (by decide) ?_
            refine zz_icmp_ne (tgt := 262) d_MO_posix_248 (by decide) (by decide) (by decide) (fun c482 => ?_) (fun c482 => absurd c482 (by decide))
            refine ab_aload_n d_MO_posix_262 rfl ?_
            refine zz_bipush d_MO_posix_263 (by decide) ?_
            refine ab_iload_n d_MO_posix_265 rfl ?_
            refine ab_callV (d' := d - 1) (as := [vz 7, vz m_at]) (st := []) (r := _) (z_MO_wrong (o := o) (m_thrown := m_thrown) (m_taped := m_taped) (m_length := m_length) (m_out := m_out) (m_wide := m_wide) (m_gathered := m_gathered) (m_sets := m_sets) (m_ranges := m_ranges) (m_nodes := m_nodes) (m_at := ((m_at + 2) + 1)) (m_flags := m_flags) (m_fault := m_fault) (m_place := m_place) (m_numbered := m_numbered) (m_depth := m_depth) (m_value := m_value) (m_isNot := m_isNot) (m_least0 := m_least0) (m_most0 := m_most0) (m_slot := m_slot) (m_work := m_work) (m_got := m_got) (m_rowMany := m_rowMany) (m_charAt := m_charAt) (m_charWide := m_charWide) (m_trail := m_trail) (m_isMatch := m_isMatch) (m_matchGroups := m_matchGroups) (m_allFrom := m_allFrom) (m_allBefore := m_allBefore) (m_founds := m_founds) (m_pieces := m_pieces) (m_writtenMany := m_writtenMany) (m_templateWide := m_templateWide) (m_tooMuch := m_tooMuch) (x := 7) (y := m_at) h80 (by omega) (by omega)) (fun oc G2 h => by rcases h with ⟨_, _, h, _⟩ <;> exact ⟨_, h⟩) (by omega) m_MO_wrong ml_MO_304 im_MO_wrong se_MO_wrong c_MO h80.2.2 (Nat.le_of_ble_eq_true rfl) d_MO_posix_266 rfl ?_
            intro v G483 hq
            rcases hq with ⟨f2484, p2485, hv, hfk, hlk, hsk, hN80, hq486⟩
            cases hv
            have h84 := hfk.get h84 (by decide)
            have h87 := hfk.get h87 (by decide)
            have h88 := hfk.get h88 (by decide)
            have h81 := hfk.get h81 (by decide)
            have h82 := hfk.get h82 (by decide)
            have hfr := hfr.tr hfk (by decide)
            have hlen := hlk.trans hlen
            have hsl := hsk.trans hsl
            have h80 := hN80
            change ab_W _ _ _ G483 269 [some (vR 80), some (vz m_at), some (vz 1), some (vz m_taped), some (vz 7)] [] _
            refine ab_vret rfl d_MO_posix_269 ?_
            rw [hQ]; exact (Or.inl ⟨_, _, _, rfl, hfr, hlen, hsl, h80, h87, h88, (by omega)⟩)
      · refine zz_iconst d_MO_posix_79 ?_
        refine ab_goto (tgt := 234) d_MO_posix_80 (by decide) ?_
        refine ab_istore d_MO_posix_234 (Nat.le_of_ble_eq_true rfl) (Nat.le_of_ble_eq_true rfl) rfl ?_
        change ab_W _ _ _ G266 236 [some (vR 80), some (vz m_at), some (vz 1), some (vz m_taped), some (vz 0)] [] _
        refine ab_iload d_MO_posix_236 rfl ?_
        refine zz_if_lt (tgt := 262) d_MO_posix_238 (by decide) (by decide) (fun c487 => absurd c487 (by decide)) (fun c487 => ?_)
        refine ab_aload_n d_MO_posix_241 rfl ?_
        refine zz_iconst d_MO_posix_242 ?_
        refine ab_callV (d' := d - 1) (as := [vz 5]) (st := []) (r := _) (z_MO_here (o := o) (m_thrown := m_thrown) (m_taped := m_taped) (m_length := m_length) (m_out := m_out) (m_wide := m_wide) (m_gathered := m_gathered) (m_sets := m_sets) (m_ranges := m_ranges) (m_nodes := m_nodes) (m_at := ((m_at + 2) + 1)) (m_flags := m_flags) (m_fault := m_fault) (m_place := m_place) (m_numbered := m_numbered) (m_depth := m_depth) (m_value := m_value) (m_isNot := m_isNot) (m_least0 := m_least0) (m_most0 := m_most0) (m_slot := m_slot) (m_work := m_work) (m_got := m_got) (m_rowMany := m_rowMany) (m_charAt := m_charAt) (m_charWide := m_charWide) (m_trail := m_trail) (m_isMatch := m_isMatch) (m_matchGroups := m_matchGroups) (m_allFrom := m_allFrom) (m_allBefore := m_allBefore) (m_founds := m_founds) (m_pieces := m_pieces) (m_writtenMany := m_writtenMany) (m_templateWide := m_templateWide) (m_tooMuch := m_tooMuch) (A_tape := A_tape) (k := 5) h80 h84 (by omega) (by omega) jtp (by omega)) (fun oc G2 h => by rcases h with ⟨h, _⟩ | ⟨h, _⟩ <;> exact ⟨_, h⟩) (by omega) m_MO_here ml_MO_297 im_MO_here se_MO_here c_MO h80.2.2 (Nat.le_of_ble_eq_true rfl) d_MO_posix_243 rfl ?_
        intro v G488 hq
        rcases hq with ⟨hv, hGe, hq489⟩ | ⟨hv, hGe, hq490⟩
        · cases hv
          rw [hGe]
          change ab_W _ _ _ G266 246 [some (vR 80), some (vz m_at), some (vz 1), some (vz m_taped), some (vz 0)] [vz (A_tape (((m_at + 2) + 1) + 5))] _
          refine zz_bipush d_MO_posix_246 (by decide) ?_
          refine zz_icmp_ne (tgt := 262) d_MO_posix_248 (by decide) (by omega) (by decide) (fun c491 => ?_) (fun c491 => ?_)
          · refine ab_aload_n d_MO_posix_262 rfl ?_
            refine zz_bipush d_MO_posix_263 (by decide) ?_
            refine ab_iload_n d_MO_posix_265 rfl ?_
            refine ab_callV (d' := d - 1) (as := [vz 7, vz m_at]) (st := []) (r := _) (z_MO_wrong (o := o) (m_thrown := m_thrown) (m_taped := m_taped) (m_length := m_length) (m_out := m_out) (m_wide := m_wide) (m_gathered := m_gathered) (m_sets := m_sets) (m_ranges := m_ranges) (m_nodes := m_nodes) (m_at := ((m_at + 2) + 1)) (m_flags := m_flags) (m_fault := m_fault) (m_place := m_place) (m_numbered := m_numbered) (m_depth := m_depth) (m_value := m_value) (m_isNot := m_isNot) (m_least0 := m_least0) (m_most0 := m_most0) (m_slot := m_slot) (m_work := m_work) (m_got := m_got) (m_rowMany := m_rowMany) (m_charAt := m_charAt) (m_charWide := m_charWide) (m_trail := m_trail) (m_isMatch := m_isMatch) (m_matchGroups := m_matchGroups) (m_allFrom := m_allFrom) (m_allBefore := m_allBefore) (m_founds := m_founds) (m_pieces := m_pieces) (m_writtenMany := m_writtenMany) (m_templateWide := m_templateWide) (m_tooMuch := m_tooMuch) (x := 7) (y := m_at) h80 (by omega) (by omega)) (fun oc G2 h => by rcases h with ⟨_, _, h, _⟩ <;> exact ⟨_, h⟩) (by omega) m_MO_wrong ml_MO_304 im_MO_wrong se_MO_wrong c_MO h80.2.2 (Nat.le_of_ble_eq_true rfl) d_MO_posix_266 rfl ?_
            intro v G492 hq
            rcases hq with ⟨f2493, p2494, hv, hfk, hlk, hsk, hN80, hq495⟩
            cases hv
            have h84 := hfk.get h84 (by decide)
            have h87 := hfk.get h87 (by decide)
            have h88 := hfk.get h88 (by decide)
            have h81 := hfk.get h81 (by decide)
            have h82 := hfk.get h82 (by decide)
            have hfr := hfr.tr hfk (by decide)
            have hlen := hlk.trans hlen
            have hsl := hsk.trans hsl
            have h80 := hN80
            change ab_W _ _ _ G492 269 [some (vR 80), some (vz m_at), some (vz 1), some (vz m_taped), some (vz 0)] [] _
            refine ab_vret rfl d_MO_posix_269 ?_
            rw [hQ]; exact (Or.inl ⟨_, _, _, rfl, hfr, hlen, hsl, h80, h87, h88, (by omega)⟩)
          · refine ab_aload_n d_MO_posix_251 rfl ?_
            refine zz_bipush d_MO_posix_252 (by decide) ?_
            refine ab_callV (d' := d - 1) (as := [vz 6]) (st := []) (r := _) (z_MO_here (o := o) (m_thrown := m_thrown) (m_taped := m_taped) (m_length := m_length) (m_out := m_out) (m_wide := m_wide) (m_gathered := m_gathered) (m_sets := m_sets) (m_ranges := m_ranges) (m_nodes := m_nodes) (m_at := ((m_at + 2) + 1)) (m_flags := m_flags) (m_fault := m_fault) (m_place := m_place) (m_numbered := m_numbered) (m_depth := m_depth) (m_value := m_value) (m_isNot := m_isNot) (m_least0 := m_least0) (m_most0 := m_most0) (m_slot := m_slot) (m_work := m_work) (m_got := m_got) (m_rowMany := m_rowMany) (m_charAt := m_charAt) (m_charWide := m_charWide) (m_trail := m_trail) (m_isMatch := m_isMatch) (m_matchGroups := m_matchGroups) (m_allFrom := m_allFrom) (m_allBefore := m_allBefore) (m_founds := m_founds) (m_pieces := m_pieces) (m_writtenMany := m_writtenMany) (m_templateWide := m_templateWide) (m_tooMuch := m_tooMuch) (A_tape := A_tape) (k := 6) h80 h84 (by omega) (by omega) jtp (by omega)) (fun oc G2 h => by rcases h with ⟨h, _⟩ | ⟨h, _⟩ <;> exact ⟨_, h⟩) (by omega) m_MO_here ml_MO_297 im_MO_here se_MO_here c_MO h80.2.2 (Nat.le_of_ble_eq_true rfl) d_MO_posix_254 rfl ?_
            intro v G496 hq
            rcases hq with ⟨hv, hGe, hq497⟩ | ⟨hv, hGe, hq498⟩
            · cases hv
              rw [hGe]
              change ab_W _ _ _ G266 257 [some (vR 80), some (vz m_at), some (vz 1), some (vz m_taped), some (vz 0)] [vz (A_tape (((m_at + 2) + 1) + 6))] _
              refine zz_bipush d_MO_posix_257 (by decide) ?_
              refine zz_icmp_eq (tgt := 270) d_MO_posix_259 (by decide) (by omega) (by decide) (fun c499 => ?_) (fun c499 => ?_)
              · refine ab_aload_n d_MO_posix_270 rfl ?_
                refine ab_iload d_MO_posix_271 rfl ?_
                refine ab_iload_n d_MO_posix_273 rfl ?_
                refine ab_callV (d' := d - 1) (as := [vz 0, vz 1]) (st := []) (r := _) (z_MO_gatherNamed (o := o) (m_thrown := m_thrown) (m_taped := m_taped) (m_length := m_length) (m_out := m_out) (m_wide := m_wide) (m_gathered := m_gathered) (m_sets := m_sets) (m_ranges := m_ranges) (m_nodes := m_nodes) (m_at := ((m_at + 2) + 1)) (m_flags := m_flags) (m_fault := m_fault) (m_place := m_place) (m_numbered := m_numbered) (m_depth := m_depth) (m_value := m_value) (m_isNot := m_isNot) (m_least0 := m_least0) (m_most0 := m_most0) (m_slot := m_slot) (m_work := m_work) (m_got := m_got) (m_rowMany := m_rowMany) (m_charAt := m_charAt) (m_charWide := m_charWide) (m_trail := m_trail) (m_isMatch := m_isMatch) (m_matchGroups := m_matchGroups) (m_allFrom := m_allFrom) (m_allBefore := m_allBefore) (m_founds := m_founds) (m_pieces := m_pieces) (m_writtenMany := m_writtenMany) (m_templateWide := m_templateWide) (m_tooMuch := m_tooMuch) (LO := LO) (HI := HI) (MK := MK) (P := P) (w := 0) (nt := 1) (mm := mm) h80 h87 h88 h81 h82 (by omega) (by omega) jc jl (by omega)) (fun oc G2 h => by rcases h with ⟨_, _, _, _, h, _⟩ <;> exact ⟨_, h⟩) (by omega) m_MO_gatherNamed ml_MO_337 im_MO_gatherNamed se_MO_gatherNamed c_MO h80.2.2 (Nat.le_of_ble_eq_true rfl) d_MO_posix_274 rfl ?_
                intro v G500 hq
                rcases hq with ⟨g2501, LO2502, HI2503, P2504, hv, hfk, hlk, hsk, hN80, hN87, hN88, hq505, hq506, hq507, hq508⟩
                cases hv
                have h84 := hfk.get h84 (by decide)
                have h81 := hfk.get h81 (by decide)
                have h82 := hfk.get h82 (by decide)
                have hfr := hfr.tr hfk (by decide)
                have hlen := hlk.trans hlen
                have hsl := hsk.trans hsl
                have h80 := hN80
                have h87 := hN87
                have h88 := hN88
                change ab_W _ _ _ G500 277 [some (vR 80), some (vz m_at), some (vz 1), some (vz m_taped), some (vz 0)] [] _
                refine ab_aload_n d_MO_posix_277 rfl ?_
                refine ab_dup d_MO_posix_278 rfl ?_
                refine ab_getf (fs := mof m_thrown m_taped m_length m_out m_wide g2501 m_sets m_ranges m_nodes ((m_at + 2) + 1) m_flags m_fault m_place m_numbered m_depth m_value m_isNot m_least0 m_most0 m_slot m_work m_got m_rowMany m_charAt m_charWide m_trail m_isMatch m_matchGroups m_allFrom m_allBefore m_founds m_pieces m_writtenMany m_templateWide m_tooMuch) f_MO_279 d_MO_posix_279 h80.2.2 rfl ?_
                refine zz_bipush d_MO_posix_282 (by decide) ?_
                refine zz_iadd d_MO_posix_284 ?_
                refine ab_putf (fs := mof m_thrown m_taped m_length m_out m_wide g2501 m_sets m_ranges m_nodes ((m_at + 2) + 1) m_flags m_fault m_place m_numbered m_depth m_value m_isNot m_least0 m_most0 m_slot m_work m_got m_rowMany m_charAt m_charWide m_trail m_isMatch m_matchGroups m_allFrom m_allBefore m_founds m_pieces m_writtenMany m_templateWide m_tooMuch) f_MO_279 (Or.inl rfl) d_MO_posix_285 h80.2.2 (Nat.le_of_ble_eq_true rfl) (fun _ => ⟨rfl, rfl⟩) (h80.2.1 (by decide)) ?_
                obtain ⟨G509, eG509⟩ : ∃ z : ab_G, z = List.set G500 80 (ab_ob 12 (mof m_thrown m_taped m_length m_out m_wide g2501 m_sets m_ranges m_nodes (((m_at + 2) + 1) + 7) m_flags m_fault m_place m_numbered m_depth m_value m_isNot m_least0 m_most0 m_slot m_work m_got m_rowMany m_charAt m_charWide m_trail m_isMatch m_matchGroups m_allFrom m_allBefore m_founds m_pieces m_writtenMany m_templateWide m_tooMuch)) := ⟨_, rfl⟩
                have h84 := h84.keep h80 eG509 (by decide)
                have h87 := h87.keep h80 eG509 (by decide)
                have h88 := h88.keep h80 eG509 (by decide)
                have h81 := h81.keep h80 eG509 (by decide)
                have h82 := h82.keep h80 eG509 (by decide)
                have hlen := (z_len eG509).trans hlen
                have hsl := (z_sl h80 eG509 rfl).trans hsl
                have hfr := hfr.wr h80 eG509 (by decide)
                have h80 := h80.kept eG509
                change ab_W _ _ _ (List.set G500 80 (ab_ob 12 (mof m_thrown m_taped m_length m_out m_wide g2501 m_sets m_ranges m_nodes (((m_at + 2) + 1) + 7) m_flags m_fault m_place m_numbered m_depth m_value m_isNot m_least0 m_most0 m_slot m_work m_got m_rowMany m_charAt m_charWide m_trail m_isMatch m_matchGroups m_allFrom m_allBefore m_founds m_pieces m_writtenMany m_templateWide m_tooMuch))) 288 [some (vR 80), some (vz m_at), some (vz 1), some (vz m_taped), some (vz 0)] [] _
                rw [← eG509]
                refine ab_vret rfl d_MO_posix_288 ?_
                rw [hQ]; exact (Or.inr ⟨_, _, _, _, _, rfl, hfr, hlen, hsl, h80, h87, h88, (by omega), (by exact hq507), (by exact lfc_w hq508 (by omega))⟩)
              · refine ab_aload_n d_MO_posix_262 rfl ?_
                refine zz_bipush d_MO_posix_263 (by decide) ?_
                refine ab_iload_n d_MO_posix_265 rfl ?_
                refine ab_callV (d' := d - 1) (as := [vz 7, vz m_at]) (st := []) (r := _) (z_MO_wrong (o := o) (m_thrown := m_thrown) (m_taped := m_taped) (m_length := m_length) (m_out := m_out) (m_wide := m_wide) (m_gathered := m_gathered) (m_sets := m_sets) (m_ranges := m_ranges) (m_nodes := m_nodes) (m_at := ((m_at + 2) + 1)) (m_flags := m_flags) (m_fault := m_fault) (m_place := m_place) (m_numbered := m_numbered) (m_depth := m_depth) (m_value := m_value) (m_isNot := m_isNot) (m_least0 := m_least0) (m_most0 := m_most0) (m_slot := m_slot) (m_work := m_work) (m_got := m_got) (m_rowMany := m_rowMany) (m_charAt := m_charAt) (m_charWide := m_charWide) (m_trail := m_trail) (m_isMatch := m_isMatch) (m_matchGroups := m_matchGroups) (m_allFrom := m_allFrom) (m_allBefore := m_allBefore) (m_founds := m_founds) (m_pieces := m_pieces) (m_writtenMany := m_writtenMany) (m_templateWide := m_templateWide) (m_tooMuch := m_tooMuch) (x := 7) (y := m_at) h80 (by omega) (by omega)) (fun oc G2 h => by rcases h with ⟨_, _, h, _⟩ <;> exact ⟨_, h⟩) (by omega) m_MO_wrong ml_MO_304 im_MO_wrong se_MO_wrong c_MO h80.2.2 (Nat.le_of_ble_eq_true rfl) d_MO_posix_266 rfl ?_
                intro v G510 hq
                rcases hq with ⟨f2511, p2512, hv, hfk, hlk, hsk, hN80, hq513⟩
                cases hv
                have h84 := hfk.get h84 (by decide)
                have h87 := hfk.get h87 (by decide)
                have h88 := hfk.get h88 (by decide)
                have h81 := hfk.get h81 (by decide)
                have h82 := hfk.get h82 (by decide)
                have hfr := hfr.tr hfk (by decide)
                have hlen := hlk.trans hlen
                have hsl := hsk.trans hsl
                have h80 := hN80
                change ab_W _ _ _ G510 269 [some (vR 80), some (vz m_at), some (vz 1), some (vz m_taped), some (vz 0)] [] _
                refine ab_vret rfl d_MO_posix_269 ?_
                rw [hQ]; exact (Or.inl ⟨_, _, _, rfl, hfr, hlen, hsl, h80, h87, h88, (by omega)⟩)
            · cases hv
              rw [hGe]
              change ab_W _ _ _ G266 257 [some (vR 80), some (vz m_at), some (vz 1), some (vz m_taped), some (vz 0)] [vz (-1)] _
              refine zz_bipush d_MO_posix_257 (by decide) ?_
              refine zz_icmp_eq (tgt := 270) d_MO_posix_259 (by decide) (by decide) (by decide) (fun c514 => absurd c514 (by decide)) (fun c514 => ?_)
              refine ab_aload_n d_MO_posix_262 rfl ?_
              refine zz_bipush d_MO_posix_263 (by decide) ?_
              refine ab_iload_n d_MO_posix_265 rfl ?_
              refine ab_callV (d' := d - 1) (as := [vz 7, vz m_at]) (st := []) (r := _) (z_MO_wrong (o := o) (m_thrown := m_thrown) (m_taped := m_taped) (m_length := m_length) (m_out := m_out) (m_wide := m_wide) (m_gathered := m_gathered) (m_sets := m_sets) (m_ranges := m_ranges) (m_nodes := m_nodes) (m_at := ((m_at + 2) + 1)) (m_flags := m_flags) (m_fault := m_fault) (m_place := m_place) (m_numbered := m_numbered) (m_depth := m_depth) (m_value := m_value) (m_isNot := m_isNot) (m_least0 := m_least0) (m_most0 := m_most0) (m_slot := m_slot) (m_work := m_work) (m_got := m_got) (m_rowMany := m_rowMany) (m_charAt := m_charAt) (m_charWide := m_charWide) (m_trail := m_trail) (m_isMatch := m_isMatch) (m_matchGroups := m_matchGroups) (m_allFrom := m_allFrom) (m_allBefore := m_allBefore) (m_founds := m_founds) (m_pieces := m_pieces) (m_writtenMany := m_writtenMany) (m_templateWide := m_templateWide) (m_tooMuch := m_tooMuch) (x := 7) (y := m_at) h80 (by omega) (by omega)) (fun oc G2 h => by rcases h with ⟨_, _, h, _⟩ <;> exact ⟨_, h⟩) (by omega) m_MO_wrong ml_MO_304 im_MO_wrong se_MO_wrong c_MO h80.2.2 (Nat.le_of_ble_eq_true rfl) d_MO_posix_266 rfl ?_
              intro v G515 hq
              rcases hq with ⟨f2516, p2517, hv, hfk, hlk, hsk, hN80, hq518⟩
              cases hv
              have h84 := hfk.get h84 (by decide)
              have h87 := hfk.get h87 (by decide)
              have h88 := hfk.get h88 (by decide)
              have h81 := hfk.get h81 (by decide)
              have h82 := hfk.get h82 (by decide)
              have hfr := hfr.tr hfk (by decide)
              have hlen := hlk.trans hlen
              have hsl := hsk.trans hsl
              have h80 := hN80
              change ab_W _ _ _ G515 269 [some (vR 80), some (vz m_at), some (vz 1), some (vz m_taped), some (vz 0)] [] _
              refine ab_vret rfl d_MO_posix_269 ?_
              rw [hQ]; exact (Or.inl ⟨_, _, _, rfl, hfr, hlen, hsl, h80, h87, h88, (by omega)⟩)
        · cases hv
          rw [hGe]
          change ab_W _ _ _ G266 246 [some (vR 80), some (vz m_at), some (vz 1), some (vz m_taped), some (vz 0)] [vz (-1)] _
          refine zz_bipush d_MO_posix_246 (by decide) ?_
          refine zz_icmp_ne (tgt := 262) d_MO_posix_248 (by decide) (by decide) (by decide) (fun c519 => ?_) (fun c519 => absurd c519 (by decide))
          refine ab_aload_n d_MO_posix_262 rfl ?_
          refine zz_bipush d_MO_posix_263 (by decide) ?_
          refine ab_iload_n d_MO_posix_265 rfl ?_
          refine ab_callV (d' := d - 1) (as := [vz 7, vz m_at]) (st := []) (r := _) (z_MO_wrong (o := o) (m_thrown := m_thrown) (m_taped := m_taped) (m_length := m_length) (m_out := m_out) (m_wide := m_wide) (m_gathered := m_gathered) (m_sets := m_sets) (m_ranges := m_ranges) (m_nodes := m_nodes) (m_at := ((m_at + 2) + 1)) (m_flags := m_flags) (m_fault := m_fault) (m_place := m_place) (m_numbered := m_numbered) (m_depth := m_depth) (m_value := m_value) (m_isNot := m_isNot) (m_least0 := m_least0) (m_most0 := m_most0) (m_slot := m_slot) (m_work := m_work) (m_got := m_got) (m_rowMany := m_rowMany) (m_charAt := m_charAt) (m_charWide := m_charWide) (m_trail := m_trail) (m_isMatch := m_isMatch) (m_matchGroups := m_matchGroups) (m_allFrom := m_allFrom) (m_allBefore := m_allBefore) (m_founds := m_founds) (m_pieces := m_pieces) (m_writtenMany := m_writtenMany) (m_templateWide := m_templateWide) (m_tooMuch := m_tooMuch) (x := 7) (y := m_at) h80 (by omega) (by omega)) (fun oc G2 h => by rcases h with ⟨_, _, h, _⟩ <;> exact ⟨_, h⟩) (by omega) m_MO_wrong ml_MO_304 im_MO_wrong se_MO_wrong c_MO h80.2.2 (Nat.le_of_ble_eq_true rfl) d_MO_posix_266 rfl ?_
          intro v G520 hq
          rcases hq with ⟨f2521, p2522, hv, hfk, hlk, hsk, hN80, hq523⟩
          cases hv
          have h84 := hfk.get h84 (by decide)
          have h87 := hfk.get h87 (by decide)
          have h88 := hfk.get h88 (by decide)
          have h81 := hfk.get h81 (by decide)
          have h82 := hfk.get h82 (by decide)
          have hfr := hfr.tr hfk (by decide)
          have hlen := hlk.trans hlen
          have hsl := hsk.trans hsl
          have h80 := hN80
          change ab_W _ _ _ G520 269 [some (vR 80), some (vz m_at), some (vz 1), some (vz m_taped), some (vz 0)] [] _
          refine ab_vret rfl d_MO_posix_269 ?_
          rw [hQ]; exact (Or.inl ⟨_, _, _, rfl, hfr, hlen, hsl, h80, h87, h88, (by omega)⟩)
  · cases hv
    rw [hGe]
    change ab_W _ _ _ G1 20 [some (vR 80), some (vz m_at), none, none, none] [vz (-1)] _
    refine zz_bipush d_MO_posix_20 (by decide) ?_
    refine zz_icmp_ne (tgt := 29) d_MO_posix_22 (by decide) (by decide) (by decide) (fun c524 => ?_) (fun c524 => absurd c524 (by decide))
    refine zz_iconst d_MO_posix_29 ?_
    refine ab_istore_n d_MO_posix_30 (Nat.le_of_ble_eq_true rfl) (Nat.le_of_ble_eq_true rfl) rfl ?_
    change ab_W _ _ _ G1 31 [some (vR 80), some (vz m_at), some (vz 0), none, none] [] _
    refine ab_aload_n d_MO_posix_31 rfl ?_
    refine ab_dup d_MO_posix_32 rfl ?_
    refine ab_getf (fs := mof m_thrown m_taped m_length m_out m_wide m_gathered m_sets m_ranges m_nodes (m_at + 2) m_flags m_fault m_place m_numbered m_depth m_value m_isNot m_least0 m_most0 m_slot m_work m_got m_rowMany m_charAt m_charWide m_trail m_isMatch m_matchGroups m_allFrom m_allBefore m_founds m_pieces m_writtenMany m_templateWide m_tooMuch) f_MO_279 d_MO_posix_33 h80.2.2 rfl ?_
    refine ab_iload_n d_MO_posix_36 rfl ?_
    refine zz_if_eq (tgt := 44) d_MO_posix_37 (by decide) (by decide) (fun c525 => ?_) (fun c525 => absurd c525 (by decide))
    refine zz_iconst d_MO_posix_44 ?_
    refine zz_iadd d_MO_posix_45 ?_
    refine ab_putf (fs := mof m_thrown m_taped m_length m_out m_wide m_gathered m_sets m_ranges m_nodes (m_at + 2) m_flags m_fault m_place m_numbered m_depth m_value m_isNot m_least0 m_most0 m_slot m_work m_got m_rowMany m_charAt m_charWide m_trail m_isMatch m_matchGroups m_allFrom m_allBefore m_founds m_pieces m_writtenMany m_templateWide m_tooMuch) f_MO_279 (Or.inl rfl) d_MO_posix_46 h80.2.2 (Nat.le_of_ble_eq_true rfl) (fun _ => ⟨rfl, rfl⟩) (h80.2.1 (by decide)) ?_
    obtain ⟨G526, eG526⟩ : ∃ z : ab_G, z = List.set G1 80 (ab_ob 12 (mof m_thrown m_taped m_length m_out m_wide m_gathered m_sets m_ranges m_nodes ((m_at + 2) + 0) m_flags m_fault m_place m_numbered m_depth m_value m_isNot m_least0 m_most0 m_slot m_work m_got m_rowMany m_charAt m_charWide m_trail m_isMatch m_matchGroups m_allFrom m_allBefore m_founds m_pieces m_writtenMany m_templateWide m_tooMuch)) := ⟨_, rfl⟩
    have h84 := h84.keep h80 eG526 (by decide)
    have h87 := h87.keep h80 eG526 (by decide)
    have h88 := h88.keep h80 eG526 (by decide)
    have h81 := h81.keep h80 eG526 (by decide)
    have h82 := h82.keep h80 eG526 (by decide)
    have hlen := (z_len eG526).trans hlen
    have hsl := (z_sl h80 eG526 rfl).trans hsl
    have hfr := hfr.wr h80 eG526 (by decide)
    have h80 := h80.kept eG526
    change ab_W _ _ _ (List.set G1 80 (ab_ob 12 (mof m_thrown m_taped m_length m_out m_wide m_gathered m_sets m_ranges m_nodes ((m_at + 2) + 0) m_flags m_fault m_place m_numbered m_depth m_value m_isNot m_least0 m_most0 m_slot m_work m_got m_rowMany m_charAt m_charWide m_trail m_isMatch m_matchGroups m_allFrom m_allBefore m_founds m_pieces m_writtenMany m_templateWide m_tooMuch))) 49 [some (vR 80), some (vz m_at), some (vz 0), none, none] [] _
    rw [← eG526]
    refine ab_aload_n d_MO_posix_49 rfl ?_
    refine ab_getf (fs := mof m_thrown m_taped m_length m_out m_wide m_gathered m_sets m_ranges m_nodes ((m_at + 2) + 0) m_flags m_fault m_place m_numbered m_depth m_value m_isNot m_least0 m_most0 m_slot m_work m_got m_rowMany m_charAt m_charWide m_trail m_isMatch m_matchGroups m_allFrom m_allBefore m_founds m_pieces m_writtenMany m_templateWide m_tooMuch) f_MO_223 d_MO_posix_50 h80.2.2 rfl ?_
    refine ab_istore_n d_MO_posix_53 (Nat.le_of_ble_eq_true rfl) (Nat.le_of_ble_eq_true rfl) rfl ?_
    change ab_W _ _ _ G526 54 [some (vR 80), some (vz m_at), some (vz 0), some (vz m_taped), none] [] _
    refine ab_aload_n d_MO_posix_54 rfl ?_
    refine ab_getf (fs := mof m_thrown m_taped m_length m_out m_wide m_gathered m_sets m_ranges m_nodes ((m_at + 2) + 0) m_flags m_fault m_place m_numbered m_depth m_value m_isNot m_least0 m_most0 m_slot m_work m_got m_rowMany m_charAt m_charWide m_trail m_isMatch m_matchGroups m_allFrom m_allBefore m_founds m_pieces m_writtenMany m_templateWide m_tooMuch) f_MO_19 d_MO_posix_55 h80.2.2 rfl ?_
    refine ab_aload_n d_MO_posix_58 rfl ?_
    refine ab_getf (fs := mof m_thrown m_taped m_length m_out m_wide m_gathered m_sets m_ranges m_nodes ((m_at + 2) + 0) m_flags m_fault m_place m_numbered m_depth m_value m_isNot m_least0 m_most0 m_slot m_work m_got m_rowMany m_charAt m_charWide m_trail m_isMatch m_matchGroups m_allFrom m_allBefore m_founds m_pieces m_writtenMany m_templateWide m_tooMuch) f_MO_279 d_MO_posix_59 h80.2.2 rfl ?_
    refine ab_iload_n d_MO_posix_62 rfl ?_
    refine zz_bipush d_MO_posix_63 (by decide) ?_
    refine zz_bipush d_MO_posix_65 (by decide) ?_
    refine zz_bipush d_MO_posix_67 (by decide) ?_
    refine zz_bipush d_MO_posix_69 (by decide) ?_
    refine zz_bipush d_MO_posix_71 (by decide) ?_
    refine ab_callS (d' := d - 1) (as := [vR 84, vz ((m_at + 2) + 0), vz m_taped, vz 100, vz 105, vz 103, vz 105, vz 116]) (st := []) (z_MO_spells (o := o) (ar := 84) (la := 284) (m := 2000) (f := A_tape) (p := ((m_at + 2) + 0)) (n := m_taped) (c1 := 100) (c2 := 105) (c3 := 103) (c4 := 105) (c5 := 116) h84 (by omega) (by omega) jtp (by omega)) (fun oc G2 h => by rcases h with ⟨_, h, _⟩ <;> exact ⟨_, h⟩) (by omega) m_MO_spells ml_MO_333 st_MO_spells (Nat.le_of_ble_eq_true rfl) d_MO_posix_73 rfl ?_
    intro v G527 hq
    rcases hq with ⟨v528, hv, hGe, hq529, hq530⟩
    cases hv
    rw [hGe]
    change ab_W _ _ _ G526 76 [some (vR 80), some (vz m_at), some (vz 0), some (vz m_taped), none] [vz v528] _
    refine zz_if_eq (tgt := 83) d_MO_posix_76 (by decide) (by omega) (fun c531 => ?_) (fun c531 => ?_)
    · refine ab_aload_n d_MO_posix_83 rfl ?_
      refine ab_getf (fs := mof m_thrown m_taped m_length m_out m_wide m_gathered m_sets m_ranges m_nodes ((m_at + 2) + 0) m_flags m_fault m_place m_numbered m_depth m_value m_isNot m_least0 m_most0 m_slot m_work m_got m_rowMany m_charAt m_charWide m_trail m_isMatch m_matchGroups m_allFrom m_allBefore m_founds m_pieces m_writtenMany m_templateWide m_tooMuch) f_MO_19 d_MO_posix_84 h80.2.2 rfl ?_
      refine ab_aload_n d_MO_posix_87 rfl ?_
      refine ab_getf (fs := mof m_thrown m_taped m_length m_out m_wide m_gathered m_sets m_ranges m_nodes ((m_at + 2) + 0) m_flags m_fault m_place m_numbered m_depth m_value m_isNot m_least0 m_most0 m_slot m_work m_got m_rowMany m_charAt m_charWide m_trail m_isMatch m_matchGroups m_allFrom m_allBefore m_founds m_pieces m_writtenMany m_templateWide m_tooMuch) f_MO_279 d_MO_posix_88 h80.2.2 rfl ?_
      refine ab_iload_n d_MO_posix_91 rfl ?_
      refine zz_bipush d_MO_posix_92 (by decide) ?_
      refine zz_bipush d_MO_posix_94 (by decide) ?_
      refine zz_bipush d_MO_posix_96 (by decide) ?_
      refine zz_bipush d_MO_posix_98 (by decide) ?_
      refine zz_bipush d_MO_posix_100 (by decide) ?_
      refine ab_callS (d' := d - 1) (as := [vR 84, vz ((m_at + 2) + 0), vz m_taped, vz 97, vz 108, vz 112, vz 104, vz 97]) (st := []) (z_MO_spells (o := o) (ar := 84) (la := 284) (m := 2000) (f := A_tape) (p := ((m_at + 2) + 0)) (n := m_taped) (c1 := 97) (c2 := 108) (c3 := 112) (c4 := 104) (c5 := 97) h84 (by omega) (by omega) jtp (by omega)) (fun oc G2 h => by rcases h with ⟨_, h, _⟩ <;> exact ⟨_, h⟩) (by omega) m_MO_spells ml_MO_333 st_MO_spells (Nat.le_of_ble_eq_true rfl) d_MO_posix_102 rfl ?_
      intro v G532 hq
      rcases hq with ⟨v533, hv, hGe, hq534, hq535⟩
      cases hv
      rw [hGe]
      change ab_W _ _ _ G526 105 [some (vR 80), some (vz m_at), some (vz 0), some (vz m_taped), none] [vz v533] _
      refine zz_if_eq (tgt := 113) d_MO_posix_105 (by decide) (by omega) (fun c536 => ?_) (fun c536 => ?_)
      · refine ab_aload_n d_MO_posix_113 rfl ?_
        refine ab_getf (fs := mof m_thrown m_taped m_length m_out m_wide m_gathered m_sets m_ranges m_nodes ((m_at + 2) + 0) m_flags m_fault m_place m_numbered m_depth m_value m_isNot m_least0 m_most0 m_slot m_work m_got m_rowMany m_charAt m_charWide m_trail m_isMatch m_matchGroups m_allFrom m_allBefore m_founds m_pieces m_writtenMany m_templateWide m_tooMuch) f_MO_19 d_MO_posix_114 h80.2.2 rfl ?_
        refine ab_aload_n d_MO_posix_117 rfl ?_
        refine ab_getf (fs := mof m_thrown m_taped m_length m_out m_wide m_gathered m_sets m_ranges m_nodes ((m_at + 2) + 0) m_flags m_fault m_place m_numbered m_depth m_value m_isNot m_least0 m_most0 m_slot m_work m_got m_rowMany m_charAt m_charWide m_trail m_isMatch m_matchGroups m_allFrom m_allBefore m_founds m_pieces m_writtenMany m_templateWide m_tooMuch) f_MO_279 d_MO_posix_118 h80.2.2 rfl ?_
        refine ab_iload_n d_MO_posix_121 rfl ?_
        refine zz_bipush d_MO_posix_122 (by decide) ?_
        refine zz_bipush d_MO_posix_124 (by decide) ?_
        refine zz_bipush d_MO_posix_126 (by decide) ?_
        refine zz_bipush d_MO_posix_128 (by decide) ?_
        refine zz_bipush d_MO_posix_130 (by decide) ?_
        refine ab_callS (d' := d - 1) (as := [vR 84, vz ((m_at + 2) + 0), vz m_taped, vz 117, vz 112, vz 112, vz 101, vz 114]) (st := []) (z_MO_spells (o := o) (ar := 84) (la := 284) (m := 2000) (f := A_tape) (p := ((m_at + 2) + 0)) (n := m_taped) (c1 := 117) (c2 := 112) (c3 := 112) (c4 := 101) (c5 := 114) h84 (by omega) (by omega) jtp (by omega)) (fun oc G2 h => by rcases h with ⟨_, h, _⟩ <;> exact ⟨_, h⟩) (by omega) m_MO_spells ml_MO_333 st_MO_spells (Nat.le_of_ble_eq_true rfl) d_MO_posix_132 rfl ?_
        intro v G537 hq
        rcases hq with ⟨v538, hv, hGe, hq539, hq540⟩
        cases hv
        rw [hGe]
        change ab_W _ _ _ G526 135 [some (vR 80), some (vz m_at), some (vz 0), some (vz m_taped), none] [vz v538] _
        refine zz_if_eq (tgt := 143) d_MO_posix_135 (by decide) (by omega) (fun c541 => ?_) (fun c541 => ?_)
        · refine ab_aload_n d_MO_posix_143 rfl ?_
          refine ab_getf (fs := mof m_thrown m_taped m_length m_out m_wide m_gathered m_sets m_ranges m_nodes ((m_at + 2) + 0) m_flags m_fault m_place m_numbered m_depth m_value m_isNot m_least0 m_most0 m_slot m_work m_got m_rowMany m_charAt m_charWide m_trail m_isMatch m_matchGroups m_allFrom m_allBefore m_founds m_pieces m_writtenMany m_templateWide m_tooMuch) f_MO_19 d_MO_posix_144 h80.2.2 rfl ?_
          refine ab_aload_n d_MO_posix_147 rfl ?_
          refine ab_getf (fs := mof m_thrown m_taped m_length m_out m_wide m_gathered m_sets m_ranges m_nodes ((m_at + 2) + 0) m_flags m_fault m_place m_numbered m_depth m_value m_isNot m_least0 m_most0 m_slot m_work m_got m_rowMany m_charAt m_charWide m_trail m_isMatch m_matchGroups m_allFrom m_allBefore m_founds m_pieces m_writtenMany m_templateWide m_tooMuch) f_MO_279 d_MO_posix_148 h80.2.2 rfl ?_
          refine ab_iload_n d_MO_posix_151 rfl ?_
          refine zz_bipush d_MO_posix_152 (by decide) ?_
          refine zz_bipush d_MO_posix_154 (by decide) ?_
          refine zz_bipush d_MO_posix_156 (by decide) ?_
          refine zz_bipush d_MO_posix_158 (by decide) ?_
          refine zz_bipush d_MO_posix_160 (by decide) ?_
          refine ab_callS (d' := d - 1) (as := [vR 84, vz ((m_at + 2) + 0), vz m_taped, vz 108, vz 111, vz 119, vz 101, vz 114]) (st := []) (z_MO_spells (o := o) (ar := 84) (la := 284) (m := 2000) (f := A_tape) (p := ((m_at + 2) + 0)) (n := m_taped) (c1 := 108) (c2 := 111) (c3 := 119) (c4 := 101) (c5 := 114) h84 (by omega) (by omega) jtp (by omega)) (fun oc G2 h => by rcases h with ⟨_, h, _⟩ <;> exact ⟨_, h⟩) (by omega) m_MO_spells ml_MO_333 st_MO_spells (Nat.le_of_ble_eq_true rfl) d_MO_posix_162 rfl ?_
          intro v G542 hq
          rcases hq with ⟨v543, hv, hGe, hq544, hq545⟩
          cases hv
          rw [hGe]
          change ab_W _ _ _ G526 165 [some (vR 80), some (vz m_at), some (vz 0), some (vz m_taped), none] [vz v543] _
          refine zz_if_eq (tgt := 173) d_MO_posix_165 (by decide) (by omega) (fun c546 => ?_) (fun c546 => ?_)
          · refine ab_aload_n d_MO_posix_173 rfl ?_
            refine ab_getf (fs := mof m_thrown m_taped m_length m_out m_wide m_gathered m_sets m_ranges m_nodes ((m_at + 2) + 0) m_flags m_fault m_place m_numbered m_depth m_value m_isNot m_least0 m_most0 m_slot m_work m_got m_rowMany m_charAt m_charWide m_trail m_isMatch m_matchGroups m_allFrom m_allBefore m_founds m_pieces m_writtenMany m_templateWide m_tooMuch) f_MO_19 d_MO_posix_174 h80.2.2 rfl ?_
            refine ab_aload_n d_MO_posix_177 rfl ?_
            refine ab_getf (fs := mof m_thrown m_taped m_length m_out m_wide m_gathered m_sets m_ranges m_nodes ((m_at + 2) + 0) m_flags m_fault m_place m_numbered m_depth m_value m_isNot m_least0 m_most0 m_slot m_work m_got m_rowMany m_charAt m_charWide m_trail m_isMatch m_matchGroups m_allFrom m_allBefore m_founds m_pieces m_writtenMany m_templateWide m_tooMuch) f_MO_279 d_MO_posix_178 h80.2.2 rfl ?_
            refine ab_iload_n d_MO_posix_181 rfl ?_
            refine zz_bipush d_MO_posix_182 (by decide) ?_
            refine zz_bipush d_MO_posix_184 (by decide) ?_
            refine zz_bipush d_MO_posix_186 (by decide) ?_
            refine zz_bipush d_MO_posix_188 (by decide) ?_
            refine zz_bipush d_MO_posix_190 (by decide) ?_
            refine ab_callS (d' := d - 1) (as := [vR 84, vz ((m_at + 2) + 0), vz m_taped, vz 112, vz 117, vz 110, vz 99, vz 116]) (st := []) (z_MO_spells (o := o) (ar := 84) (la := 284) (m := 2000) (f := A_tape) (p := ((m_at + 2) + 0)) (n := m_taped) (c1 := 112) (c2 := 117) (c3 := 110) (c4 := 99) (c5 := 116) h84 (by omega) (by omega) jtp (by omega)) (fun oc G2 h => by rcases h with ⟨_, h, _⟩ <;> exact ⟨_, h⟩) (by omega) m_MO_spells ml_MO_333 st_MO_spells (Nat.le_of_ble_eq_true rfl) d_MO_posix_192 rfl ?_
            intro v G547 hq
            rcases hq with ⟨v548, hv, hGe, hq549, hq550⟩
            cases hv
            rw [hGe]
            change ab_W _ _ _ G526 195 [some (vR 80), some (vz m_at), some (vz 0), some (vz m_taped), none] [vz v548] _
            refine zz_if_eq (tgt := 203) d_MO_posix_195 (by decide) (by omega) (fun c551 => ?_) (fun c551 => ?_)
            · refine ab_aload_n d_MO_posix_203 rfl ?_
              refine ab_getf (fs := mof m_thrown m_taped m_length m_out m_wide m_gathered m_sets m_ranges m_nodes ((m_at + 2) + 0) m_flags m_fault m_place m_numbered m_depth m_value m_isNot m_least0 m_most0 m_slot m_work m_got m_rowMany m_charAt m_charWide m_trail m_isMatch m_matchGroups m_allFrom m_allBefore m_founds m_pieces m_writtenMany m_templateWide m_tooMuch) f_MO_19 d_MO_posix_204 h80.2.2 rfl ?_
              refine ab_aload_n d_MO_posix_207 rfl ?_
              refine ab_getf (fs := mof m_thrown m_taped m_length m_out m_wide m_gathered m_sets m_ranges m_nodes ((m_at + 2) + 0) m_flags m_fault m_place m_numbered m_depth m_value m_isNot m_least0 m_most0 m_slot m_work m_got m_rowMany m_charAt m_charWide m_trail m_isMatch m_matchGroups m_allFrom m_allBefore m_founds m_pieces m_writtenMany m_templateWide m_tooMuch) f_MO_279 d_MO_posix_208 h80.2.2 rfl ?_
              refine ab_iload_n d_MO_posix_211 rfl ?_
              refine zz_bipush d_MO_posix_212 (by decide) ?_
              refine zz_bipush d_MO_posix_214 (by decide) ?_
              refine zz_bipush d_MO_posix_216 (by decide) ?_
              refine zz_bipush d_MO_posix_218 (by decide) ?_
              refine zz_bipush d_MO_posix_220 (by decide) ?_
              refine ab_callS (d' := d - 1) (as := [vR 84, vz ((m_at + 2) + 0), vz m_taped, vz 115, vz 112, vz 97, vz 99, vz 101]) (st := []) (z_MO_spells (o := o) (ar := 84) (la := 284) (m := 2000) (f := A_tape) (p := ((m_at + 2) + 0)) (n := m_taped) (c1 := 115) (c2 := 112) (c3 := 97) (c4 := 99) (c5 := 101) h84 (by omega) (by omega) jtp (by omega)) (fun oc G2 h => by rcases h with ⟨_, h, _⟩ <;> exact ⟨_, h⟩) (by omega) m_MO_spells ml_MO_333 st_MO_spells (Nat.le_of_ble_eq_true rfl) d_MO_posix_222 rfl ?_
              intro v G552 hq
              rcases hq with ⟨v553, hv, hGe, hq554, hq555⟩
              cases hv
              rw [hGe]
              change ab_W _ _ _ G526 225 [some (vR 80), some (vz m_at), some (vz 0), some (vz m_taped), none] [vz v553] _
              refine zz_if_eq (tgt := 233) d_MO_posix_225 (by decide) (by omega) (fun c556 => ?_) (fun c556 => ?_)
              · refine zz_iconst d_MO_posix_233 ?_
                refine ab_istore d_MO_posix_234 (Nat.le_of_ble_eq_true rfl) (Nat.le_of_ble_eq_true rfl) rfl ?_
                change ab_W _ _ _ G526 236 [some (vR 80), some (vz m_at), some (vz 0), some (vz m_taped), some (vz (-1))] [] _
                refine ab_iload d_MO_posix_236 rfl ?_
                refine zz_if_lt (tgt := 262) d_MO_posix_238 (by decide) (by decide) (fun c557 => ?_) (fun c557 => absurd c557 (by decide))
                refine ab_aload_n d_MO_posix_262 rfl ?_
                refine zz_bipush d_MO_posix_263 (by decide) ?_
                refine ab_iload_n d_MO_posix_265 rfl ?_
                refine ab_callV (d' := d - 1) (as := [vz 7, vz m_at]) (st := []) (r := _) (z_MO_wrong (o := o) (m_thrown := m_thrown) (m_taped := m_taped) (m_length := m_length) (m_out := m_out) (m_wide := m_wide) (m_gathered := m_gathered) (m_sets := m_sets) (m_ranges := m_ranges) (m_nodes := m_nodes) (m_at := ((m_at + 2) + 0)) (m_flags := m_flags) (m_fault := m_fault) (m_place := m_place) (m_numbered := m_numbered) (m_depth := m_depth) (m_value := m_value) (m_isNot := m_isNot) (m_least0 := m_least0) (m_most0 := m_most0) (m_slot := m_slot) (m_work := m_work) (m_got := m_got) (m_rowMany := m_rowMany) (m_charAt := m_charAt) (m_charWide := m_charWide) (m_trail := m_trail) (m_isMatch := m_isMatch) (m_matchGroups := m_matchGroups) (m_allFrom := m_allFrom) (m_allBefore := m_allBefore) (m_founds := m_founds) (m_pieces := m_pieces) (m_writtenMany := m_writtenMany) (m_templateWide := m_templateWide) (m_tooMuch := m_tooMuch) (x := 7) (y := m_at) h80 (by omega) (by omega)) (fun oc G2 h => by rcases h with ⟨_, _, h, _⟩ <;> exact ⟨_, h⟩) (by omega) m_MO_wrong ml_MO_304 im_MO_wrong se_MO_wrong c_MO h80.2.2 (Nat.le_of_ble_eq_true rfl) d_MO_posix_266 rfl ?_
                intro v G558 hq
                rcases hq with ⟨f2559, p2560, hv, hfk, hlk, hsk, hN80, hq561⟩
                cases hv
                have h84 := hfk.get h84 (by decide)
                have h87 := hfk.get h87 (by decide)
                have h88 := hfk.get h88 (by decide)
                have h81 := hfk.get h81 (by decide)
                have h82 := hfk.get h82 (by decide)
                have hfr := hfr.tr hfk (by decide)
                have hlen := hlk.trans hlen
                have hsl := hsk.trans hsl
                have h80 := hN80
                change ab_W _ _ _ G558 269 [some (vR 80), some (vz m_at), some (vz 0), some (vz m_taped), some (vz (-1))] [] _
                refine ab_vret rfl d_MO_posix_269 ?_
                rw [hQ]; exact (Or.inl ⟨_, _, _, rfl, hfr, hlen, hsl, h80, h87, h88, (by omega)⟩)
              · refine zz_bipush d_MO_posix_228 (by decide) ?_
                refine ab_goto (tgt := 234) d_MO_posix_230 (by decide) ?_
                refine ab_istore d_MO_posix_234 (Nat.le_of_ble_eq_true rfl) (Nat.le_of_ble_eq_true rfl) rfl ?_
                change ab_W _ _ _ G526 236 [some (vR 80), some (vz m_at), some (vz 0), some (vz m_taped), some (vz 11)] [] _
                refine ab_iload d_MO_posix_236 rfl ?_
                refine zz_if_lt (tgt := 262) d_MO_posix_238 (by decide) (by decide) (fun c562 => absurd c562 (by decide)) (fun c562 => ?_)
                refine ab_aload_n d_MO_posix_241 rfl ?_
                refine zz_iconst d_MO_posix_242 ?_
                refine ab_callV (d' := d - 1) (as := [vz 5]) (st := []) (r := _) (z_MO_here (o := o) (m_thrown := m_thrown) (m_taped := m_taped) (m_length := m_length) (m_out := m_out) (m_wide := m_wide) (m_gathered := m_gathered) (m_sets := m_sets) (m_ranges := m_ranges) (m_nodes := m_nodes) (m_at := ((m_at + 2) + 0)) (m_flags := m_flags) (m_fault := m_fault) (m_place := m_place) (m_numbered := m_numbered) (m_depth := m_depth) (m_value := m_value) (m_isNot := m_isNot) (m_least0 := m_least0) (m_most0 := m_most0) (m_slot := m_slot) (m_work := m_work) (m_got := m_got) (m_rowMany := m_rowMany) (m_charAt := m_charAt) (m_charWide := m_charWide) (m_trail := m_trail) (m_isMatch := m_isMatch) (m_matchGroups := m_matchGroups) (m_allFrom := m_allFrom) (m_allBefore := m_allBefore) (m_founds := m_founds) (m_pieces := m_pieces) (m_writtenMany := m_writtenMany) (m_templateWide := m_templateWide) (m_tooMuch := m_tooMuch) (A_tape := A_tape) (k := 5) h80 h84 (by omega) (by omega) jtp (by omega)) (fun oc G2 h => by rcases h with ⟨h, _⟩ | ⟨h, _⟩ <;> exact ⟨_, h⟩) (by omega) m_MO_here ml_MO_297 im_MO_here se_MO_here c_MO h80.2.2 (Nat.le_of_ble_eq_true rfl) d_MO_posix_243 rfl ?_
                intro v G563 hq
                rcases hq with ⟨hv, hGe, hq564⟩ | ⟨hv, hGe, hq565⟩
                · cases hv
                  rw [hGe]
                  change ab_W _ _ _ G526 246 [some (vR 80), some (vz m_at), some (vz 0), some (vz m_taped), some (vz 11)] [vz (A_tape (((m_at + 2) + 0) + 5))] _
                  exfalso; omega
                · cases hv
                  rw [hGe]
                  change ab_W _ _ _ G526 246 [some (vR 80), some (vz m_at), some (vz 0), some (vz m_taped), some (vz 11)] [vz (-1)] _
                  refine zz_bipush d_MO_posix_246 (by decide) ?_
                  refine zz_icmp_ne (tgt := 262) d_MO_posix_248 (by decide) (by decide) (by decide) (fun c566 => ?_) (fun c566 => absurd c566 (by decide))
                  refine ab_aload_n d_MO_posix_262 rfl ?_
                  refine zz_bipush d_MO_posix_263 (by decide) ?_
                  refine ab_iload_n d_MO_posix_265 rfl ?_
                  refine ab_callV (d' := d - 1) (as := [vz 7, vz m_at]) (st := []) (r := _) (z_MO_wrong (o := o) (m_thrown := m_thrown) (m_taped := m_taped) (m_length := m_length) (m_out := m_out) (m_wide := m_wide) (m_gathered := m_gathered) (m_sets := m_sets) (m_ranges := m_ranges) (m_nodes := m_nodes) (m_at := ((m_at + 2) + 0)) (m_flags := m_flags) (m_fault := m_fault) (m_place := m_place) (m_numbered := m_numbered) (m_depth := m_depth) (m_value := m_value) (m_isNot := m_isNot) (m_least0 := m_least0) (m_most0 := m_most0) (m_slot := m_slot) (m_work := m_work) (m_got := m_got) (m_rowMany := m_rowMany) (m_charAt := m_charAt) (m_charWide := m_charWide) (m_trail := m_trail) (m_isMatch := m_isMatch) (m_matchGroups := m_matchGroups) (m_allFrom := m_allFrom) (m_allBefore := m_allBefore) (m_founds := m_founds) (m_pieces := m_pieces) (m_writtenMany := m_writtenMany) (m_templateWide := m_templateWide) (m_tooMuch := m_tooMuch) (x := 7) (y := m_at) h80 (by omega) (by omega)) (fun oc G2 h => by rcases h with ⟨_, _, h, _⟩ <;> exact ⟨_, h⟩) (by omega) m_MO_wrong ml_MO_304 im_MO_wrong se_MO_wrong c_MO h80.2.2 (Nat.le_of_ble_eq_true rfl) d_MO_posix_266 rfl ?_
                  intro v G567 hq
                  rcases hq with ⟨f2568, p2569, hv, hfk, hlk, hsk, hN80, hq570⟩
                  cases hv
                  have h84 := hfk.get h84 (by decide)
                  have h87 := hfk.get h87 (by decide)
                  have h88 := hfk.get h88 (by decide)
                  have h81 := hfk.get h81 (by decide)
                  have h82 := hfk.get h82 (by decide)
                  have hfr := hfr.tr hfk (by decide)
                  have hlen := hlk.trans hlen
                  have hsl := hsk.trans hsl
                  have h80 := hN80
                  change ab_W _ _ _ G567 269 [some (vR 80), some (vz m_at), some (vz 0), some (vz m_taped), some (vz 11)] [] _
                  refine ab_vret rfl d_MO_posix_269 ?_
                  rw [hQ]; exact (Or.inl ⟨_, _, _, rfl, hfr, hlen, hsl, h80, h87, h88, (by omega)⟩)
            · refine zz_bipush d_MO_posix_198 (by decide) ?_
              refine ab_goto (tgt := 234) d_MO_posix_200 (by decide) ?_
              refine ab_istore d_MO_posix_234 (Nat.le_of_ble_eq_true rfl) (Nat.le_of_ble_eq_true rfl) rfl ?_
              change ab_W _ _ _ G526 236 [some (vR 80), some (vz m_at), some (vz 0), some (vz m_taped), some (vz 10)] [] _
              refine ab_iload d_MO_posix_236 rfl ?_
              refine zz_if_lt (tgt := 262) d_MO_posix_238 (by decide) (by decide) (fun c571 => absurd c571 (by decide)) (fun c571 => ?_)
              refine ab_aload_n d_MO_posix_241 rfl ?_
              refine zz_iconst d_MO_posix_242 ?_
              refine ab_callV (d' := d - 1) (as := [vz 5]) (st := []) (r := _) (z_MO_here (o := o) (m_thrown := m_thrown) (m_taped := m_taped) (m_length := m_length) (m_out := m_out) (m_wide := m_wide) (m_gathered := m_gathered) (m_sets := m_sets) (m_ranges := m_ranges) (m_nodes := m_nodes) (m_at := ((m_at + 2) + 0)) (m_flags := m_flags) (m_fault := m_fault) (m_place := m_place) (m_numbered := m_numbered) (m_depth := m_depth) (m_value := m_value) (m_isNot := m_isNot) (m_least0 := m_least0) (m_most0 := m_most0) (m_slot := m_slot) (m_work := m_work) (m_got := m_got) (m_rowMany := m_rowMany) (m_charAt := m_charAt) (m_charWide := m_charWide) (m_trail := m_trail) (m_isMatch := m_isMatch) (m_matchGroups := m_matchGroups) (m_allFrom := m_allFrom) (m_allBefore := m_allBefore) (m_founds := m_founds) (m_pieces := m_pieces) (m_writtenMany := m_writtenMany) (m_templateWide := m_templateWide) (m_tooMuch := m_tooMuch) (A_tape := A_tape) (k := 5) h80 h84 (by omega) (by omega) jtp (by omega)) (fun oc G2 h => by rcases h with ⟨h, _⟩ | ⟨h, _⟩ <;> exact ⟨_, h⟩) (by omega) m_MO_here ml_MO_297 im_MO_here se_MO_here c_MO h80.2.2 (Nat.le_of_ble_eq_true rfl) d_MO_posix_243 rfl ?_
              intro v G572 hq
              rcases hq with ⟨hv, hGe, hq573⟩ | ⟨hv, hGe, hq574⟩
              · cases hv
                rw [hGe]
                change ab_W _ _ _ G526 246 [some (vR 80), some (vz m_at), some (vz 0), some (vz m_taped), some (vz 10)] [vz (A_tape (((m_at + 2) + 0) + 5))] _
                exfalso; omega
              · cases hv
                rw [hGe]
                change ab_W _ _ _ G526 246 [some (vR 80), some (vz m_at), some (vz 0), some (vz m_taped), some (vz 10)] [vz (-1)] _
                refine zz_bipush d_MO_posix_246 (by decide) ?_
                refine zz_icmp_ne (tgt := 262) d_MO_posix_248 (by decide) (by decide) (by decide) (fun c575 => ?_) (fun c575 => absurd c575 (by decide))
                refine ab_aload_n d_MO_posix_262 rfl ?_
                refine zz_bipush d_MO_posix_263 (by decide) ?_
                refine ab_iload_n d_MO_posix_265 rfl ?_
                refine ab_callV (d' := d - 1) (as := [vz 7, vz m_at]) (st := []) (r := _) (z_MO_wrong (o := o) (m_thrown := m_thrown) (m_taped := m_taped) (m_length := m_length) (m_out := m_out) (m_wide := m_wide) (m_gathered := m_gathered) (m_sets := m_sets) (m_ranges := m_ranges) (m_nodes := m_nodes) (m_at := ((m_at + 2) + 0)) (m_flags := m_flags) (m_fault := m_fault) (m_place := m_place) (m_numbered := m_numbered) (m_depth := m_depth) (m_value := m_value) (m_isNot := m_isNot) (m_least0 := m_least0) (m_most0 := m_most0) (m_slot := m_slot) (m_work := m_work) (m_got := m_got) (m_rowMany := m_rowMany) (m_charAt := m_charAt) (m_charWide := m_charWide) (m_trail := m_trail) (m_isMatch := m_isMatch) (m_matchGroups := m_matchGroups) (m_allFrom := m_allFrom) (m_allBefore := m_allBefore) (m_founds := m_founds) (m_pieces := m_pieces) (m_writtenMany := m_writtenMany) (m_templateWide := m_templateWide) (m_tooMuch := m_tooMuch) (x := 7) (y := m_at) h80 (by omega) (by omega)) (fun oc G2 h => by rcases h with ⟨_, _, h, _⟩ <;> exact ⟨_, h⟩) (by omega) m_MO_wrong ml_MO_304 im_MO_wrong se_MO_wrong c_MO h80.2.2 (Nat.le_of_ble_eq_true rfl) d_MO_posix_266 rfl ?_
                intro v G576 hq
                rcases hq with ⟨f2577, p2578, hv, hfk, hlk, hsk, hN80, hq579⟩
                cases hv
                have h84 := hfk.get h84 (by decide)
                have h87 := hfk.get h87 (by decide)
                have h88 := hfk.get h88 (by decide)
                have h81 := hfk.get h81 (by decide)
                have h82 := hfk.get h82 (by decide)
                have hfr := hfr.tr hfk (by decide)
                have hlen := hlk.trans hlen
                have hsl := hsk.trans hsl
                have h80 := hN80
                change ab_W _ _ _ G576 269 [some (vR 80), some (vz m_at), some (vz 0), some (vz m_taped), some (vz 10)] [] _
                refine ab_vret rfl d_MO_posix_269 ?_
                rw [hQ]; exact (Or.inl ⟨_, _, _, rfl, hfr, hlen, hsl, h80, h87, h88, (by omega)⟩)
          · refine zz_bipush d_MO_posix_168 (by decide) ?_
            refine ab_goto (tgt := 234) d_MO_posix_170 (by decide) ?_
            refine ab_istore d_MO_posix_234 (Nat.le_of_ble_eq_true rfl) (Nat.le_of_ble_eq_true rfl) rfl ?_
            change ab_W _ _ _ G526 236 [some (vR 80), some (vz m_at), some (vz 0), some (vz m_taped), some (vz 9)] [] _
            refine ab_iload d_MO_posix_236 rfl ?_
            refine zz_if_lt (tgt := 262) d_MO_posix_238 (by decide) (by decide) (fun c580 => absurd c580 (by decide)) (fun c580 => ?_)
            refine ab_aload_n d_MO_posix_241 rfl ?_
            refine zz_iconst d_MO_posix_242 ?_
            refine ab_callV (d' := d - 1) (as := [vz 5]) (st := []) (r := _) (z_MO_here (o := o) (m_thrown := m_thrown) (m_taped := m_taped) (m_length := m_length) (m_out := m_out) (m_wide := m_wide) (m_gathered := m_gathered) (m_sets := m_sets) (m_ranges := m_ranges) (m_nodes := m_nodes) (m_at := ((m_at + 2) + 0)) (m_flags := m_flags) (m_fault := m_fault) (m_place := m_place) (m_numbered := m_numbered) (m_depth := m_depth) (m_value := m_value) (m_isNot := m_isNot) (m_least0 := m_least0) (m_most0 := m_most0) (m_slot := m_slot) (m_work := m_work) (m_got := m_got) (m_rowMany := m_rowMany) (m_charAt := m_charAt) (m_charWide := m_charWide) (m_trail := m_trail) (m_isMatch := m_isMatch) (m_matchGroups := m_matchGroups) (m_allFrom := m_allFrom) (m_allBefore := m_allBefore) (m_founds := m_founds) (m_pieces := m_pieces) (m_writtenMany := m_writtenMany) (m_templateWide := m_templateWide) (m_tooMuch := m_tooMuch) (A_tape := A_tape) (k := 5) h80 h84 (by omega) (by omega) jtp (by omega)) (fun oc G2 h => by rcases h with ⟨h, _⟩ | ⟨h, _⟩ <;> exact ⟨_, h⟩) (by omega) m_MO_here ml_MO_297 im_MO_here se_MO_here c_MO h80.2.2 (Nat.le_of_ble_eq_true rfl) d_MO_posix_243 rfl ?_
            intro v G581 hq
            rcases hq with ⟨hv, hGe, hq582⟩ | ⟨hv, hGe, hq583⟩
            · cases hv
              rw [hGe]
              change ab_W _ _ _ G526 246 [some (vR 80), some (vz m_at), some (vz 0), some (vz m_taped), some (vz 9)] [vz (A_tape (((m_at + 2) + 0) + 5))] _
              exfalso; omega
            · cases hv
              rw [hGe]
              change ab_W _ _ _ G526 246 [some (vR 80), some (vz m_at), some (vz 0), some (vz m_taped), some (vz 9)] [vz (-1)] _
              refine zz_bipush d_MO_posix_246 (by decide) ?_
              refine zz_icmp_ne (tgt := 262) d_MO_posix_248 (by decide) (by decide) (by decide) (fun c584 => ?_) (fun c584 => absurd c584 (by decide))
              refine ab_aload_n d_MO_posix_262 rfl ?_
              refine zz_bipush d_MO_posix_263 (by decide) ?_
              refine ab_iload_n d_MO_posix_265 rfl ?_
              refine ab_callV (d' := d - 1) (as := [vz 7, vz m_at]) (st := []) (r := _) (z_MO_wrong (o := o) (m_thrown := m_thrown) (m_taped := m_taped) (m_length := m_length) (m_out := m_out) (m_wide := m_wide) (m_gathered := m_gathered) (m_sets := m_sets) (m_ranges := m_ranges) (m_nodes := m_nodes) (m_at := ((m_at + 2) + 0)) (m_flags := m_flags) (m_fault := m_fault) (m_place := m_place) (m_numbered := m_numbered) (m_depth := m_depth) (m_value := m_value) (m_isNot := m_isNot) (m_least0 := m_least0) (m_most0 := m_most0) (m_slot := m_slot) (m_work := m_work) (m_got := m_got) (m_rowMany := m_rowMany) (m_charAt := m_charAt) (m_charWide := m_charWide) (m_trail := m_trail) (m_isMatch := m_isMatch) (m_matchGroups := m_matchGroups) (m_allFrom := m_allFrom) (m_allBefore := m_allBefore) (m_founds := m_founds) (m_pieces := m_pieces) (m_writtenMany := m_writtenMany) (m_templateWide := m_templateWide) (m_tooMuch := m_tooMuch) (x := 7) (y := m_at) h80 (by omega) (by omega)) (fun oc G2 h => by rcases h with ⟨_, _, h, _⟩ <;> exact ⟨_, h⟩) (by omega) m_MO_wrong ml_MO_304 im_MO_wrong se_MO_wrong c_MO h80.2.2 (Nat.le_of_ble_eq_true rfl) d_MO_posix_266 rfl ?_
              intro v G585 hq
              rcases hq with ⟨f2586, p2587, hv, hfk, hlk, hsk, hN80, hq588⟩
              cases hv
              have h84 := hfk.get h84 (by decide)
              have h87 := hfk.get h87 (by decide)
              have h88 := hfk.get h88 (by decide)
              have h81 := hfk.get h81 (by decide)
              have h82 := hfk.get h82 (by decide)
              have hfr := hfr.tr hfk (by decide)
              have hlen := hlk.trans hlen
              have hsl := hsk.trans hsl
              have h80 := hN80
              change ab_W _ _ _ G585 269 [some (vR 80), some (vz m_at), some (vz 0), some (vz m_taped), some (vz 9)] [] _
              refine ab_vret rfl d_MO_posix_269 ?_
              rw [hQ]; exact (Or.inl ⟨_, _, _, rfl, hfr, hlen, hsl, h80, h87, h88, (by omega)⟩)
        · refine zz_bipush d_MO_posix_138 (by decide) ?_
          refine ab_goto (tgt := 234) d_MO_posix_140 (by decide) ?_
          refine ab_istore d_MO_posix_234 (Nat.le_of_ble_eq_true rfl) (Nat.le_of_ble_eq_true rfl) rfl ?_
          change ab_W _ _ _ G526 236 [some (vR 80), some (vz m_at), some (vz 0), some (vz m_taped), some (vz 8)] [] _
          refine ab_iload d_MO_posix_236 rfl ?_
          refine zz_if_lt (tgt := 262) d_MO_posix_238 (by decide) (by decide) (fun c589 => absurd c589 (by decide)) (fun c589 => ?_)
          refine ab_aload_n d_MO_posix_241 rfl ?_
          refine zz_iconst d_MO_posix_242 ?_
          refine ab_callV (d' := d - 1) (as := [vz 5]) (st := []) (r := _) (z_MO_here (o := o) (m_thrown := m_thrown) (m_taped := m_taped) (m_length := m_length) (m_out := m_out) (m_wide := m_wide) (m_gathered := m_gathered) (m_sets := m_sets) (m_ranges := m_ranges) (m_nodes := m_nodes) (m_at := ((m_at + 2) + 0)) (m_flags := m_flags) (m_fault := m_fault) (m_place := m_place) (m_numbered := m_numbered) (m_depth := m_depth) (m_value := m_value) (m_isNot := m_isNot) (m_least0 := m_least0) (m_most0 := m_most0) (m_slot := m_slot) (m_work := m_work) (m_got := m_got) (m_rowMany := m_rowMany) (m_charAt := m_charAt) (m_charWide := m_charWide) (m_trail := m_trail) (m_isMatch := m_isMatch) (m_matchGroups := m_matchGroups) (m_allFrom := m_allFrom) (m_allBefore := m_allBefore) (m_founds := m_founds) (m_pieces := m_pieces) (m_writtenMany := m_writtenMany) (m_templateWide := m_templateWide) (m_tooMuch := m_tooMuch) (A_tape := A_tape) (k := 5) h80 h84 (by omega) (by omega) jtp (by omega)) (fun oc G2 h => by rcases h with ⟨h, _⟩ | ⟨h, _⟩ <;> exact ⟨_, h⟩) (by omega) m_MO_here ml_MO_297 im_MO_here se_MO_here c_MO h80.2.2 (Nat.le_of_ble_eq_true rfl) d_MO_posix_243 rfl ?_
          intro v G590 hq
          rcases hq with ⟨hv, hGe, hq591⟩ | ⟨hv, hGe, hq592⟩
          · cases hv
            rw [hGe]
            change ab_W _ _ _ G526 246 [some (vR 80), some (vz m_at), some (vz 0), some (vz m_taped), some (vz 8)] [vz (A_tape (((m_at + 2) + 0) + 5))] _
            exfalso; omega
          · cases hv
            rw [hGe]
            change ab_W _ _ _ G526 246 [some (vR 80), some (vz m_at), some (vz 0), some (vz m_taped), some (vz 8)] [vz (-1)] _
            refine zz_bipush d_MO_posix_246 (by decide) ?_
            refine zz_icmp_ne (tgt := 262) d_MO_posix_248 (by decide) (by decide) (by decide) (fun c593 => ?_) (fun c593 => absurd c593 (by decide))
            refine ab_aload_n d_MO_posix_262 rfl ?_
            refine zz_bipush d_MO_posix_263 (by decide) ?_
            refine ab_iload_n d_MO_posix_265 rfl ?_
            refine ab_callV (d' := d - 1) (as := [vz 7, vz m_at]) (st := []) (r := _) (z_MO_wrong (o := o) (m_thrown := m_thrown) (m_taped := m_taped) (m_length := m_length) (m_out := m_out) (m_wide := m_wide) (m_gathered := m_gathered) (m_sets := m_sets) (m_ranges := m_ranges) (m_nodes := m_nodes) (m_at := ((m_at + 2) + 0)) (m_flags := m_flags) (m_fault := m_fault) (m_place := m_place) (m_numbered := m_numbered) (m_depth := m_depth) (m_value := m_value) (m_isNot := m_isNot) (m_least0 := m_least0) (m_most0 := m_most0) (m_slot := m_slot) (m_work := m_work) (m_got := m_got) (m_rowMany := m_rowMany) (m_charAt := m_charAt) (m_charWide := m_charWide) (m_trail := m_trail) (m_isMatch := m_isMatch) (m_matchGroups := m_matchGroups) (m_allFrom := m_allFrom) (m_allBefore := m_allBefore) (m_founds := m_founds) (m_pieces := m_pieces) (m_writtenMany := m_writtenMany) (m_templateWide := m_templateWide) (m_tooMuch := m_tooMuch) (x := 7) (y := m_at) h80 (by omega) (by omega)) (fun oc G2 h => by rcases h with ⟨_, _, h, _⟩ <;> exact ⟨_, h⟩) (by omega) m_MO_wrong ml_MO_304 im_MO_wrong se_MO_wrong c_MO h80.2.2 (Nat.le_of_ble_eq_true rfl) d_MO_posix_266 rfl ?_
            intro v G594 hq
            rcases hq with ⟨f2595, p2596, hv, hfk, hlk, hsk, hN80, hq597⟩
            cases hv
            have h84 := hfk.get h84 (by decide)
            have h87 := hfk.get h87 (by decide)
            have h88 := hfk.get h88 (by decide)
            have h81 := hfk.get h81 (by decide)
            have h82 := hfk.get h82 (by decide)
            have hfr := hfr.tr hfk (by decide)
            have hlen := hlk.trans hlen
            have hsl := hsk.trans hsl
            have h80 := hN80
            change ab_W _ _ _ G594 269 [some (vR 80), some (vz m_at), some (vz 0), some (vz m_taped), some (vz 8)] [] _
            refine ab_vret rfl d_MO_posix_269 ?_
            rw [hQ]; exact (Or.inl ⟨_, _, _, rfl, hfr, hlen, hsl, h80, h87, h88, (by omega)⟩)
      · refine zz_bipush d_MO_posix_108 (by decide) ?_
        refine ab_goto (tgt := 234) d_MO_posix_110 (by decide) ?_
        refine ab_istore d_MO_posix_234 (Nat.le_of_ble_eq_true rfl) (Nat.le_of_ble_eq_true rfl) rfl ?_
        change ab_W _ _ _ G526 236 [some (vR 80), some (vz m_at), some (vz 0), some (vz m_taped), some (vz 7)] [] _
        refine ab_iload d_MO_posix_236 rfl ?_
        refine zz_if_lt (tgt := 262) d_MO_posix_238 (by decide) (by decide) (fun c598 => absurd c598 (by decide)) (fun c598 => ?_)
        refine ab_aload_n d_MO_posix_241 rfl ?_
        refine zz_iconst d_MO_posix_242 ?_
        refine ab_callV (d' := d - 1) (as := [vz 5]) (st := []) (r := _) (z_MO_here (o := o) (m_thrown := m_thrown) (m_taped := m_taped) (m_length := m_length) (m_out := m_out) (m_wide := m_wide) (m_gathered := m_gathered) (m_sets := m_sets) (m_ranges := m_ranges) (m_nodes := m_nodes) (m_at := ((m_at + 2) + 0)) (m_flags := m_flags) (m_fault := m_fault) (m_place := m_place) (m_numbered := m_numbered) (m_depth := m_depth) (m_value := m_value) (m_isNot := m_isNot) (m_least0 := m_least0) (m_most0 := m_most0) (m_slot := m_slot) (m_work := m_work) (m_got := m_got) (m_rowMany := m_rowMany) (m_charAt := m_charAt) (m_charWide := m_charWide) (m_trail := m_trail) (m_isMatch := m_isMatch) (m_matchGroups := m_matchGroups) (m_allFrom := m_allFrom) (m_allBefore := m_allBefore) (m_founds := m_founds) (m_pieces := m_pieces) (m_writtenMany := m_writtenMany) (m_templateWide := m_templateWide) (m_tooMuch := m_tooMuch) (A_tape := A_tape) (k := 5) h80 h84 (by omega) (by omega) jtp (by omega)) (fun oc G2 h => by rcases h with ⟨h, _⟩ | ⟨h, _⟩ <;> exact ⟨_, h⟩) (by omega) m_MO_here ml_MO_297 im_MO_here se_MO_here c_MO h80.2.2 (Nat.le_of_ble_eq_true rfl) d_MO_posix_243 rfl ?_
        intro v G599 hq
        rcases hq with ⟨hv, hGe, hq600⟩ | ⟨hv, hGe, hq601⟩
        · cases hv
          rw [hGe]
          change ab_W _ _ _ G526 246 [some (vR 80), some (vz m_at), some (vz 0), some (vz m_taped), some (vz 7)] [vz (A_tape (((m_at + 2) + 0) + 5))] _
          exfalso; omega
        · cases hv
          rw [hGe]
          change ab_W _ _ _ G526 246 [some (vR 80), some (vz m_at), some (vz 0), some (vz m_taped), some (vz 7)] [vz (-1)] _
          refine zz_bipush d_MO_posix_246 (by decide) ?_
          refine zz_icmp_ne (tgt := 262) d_MO_posix_248 (by decide) (by decide) (by decide) (fun c602 => ?_) (fun c602 => absurd c602 (by decide))
          refine ab_aload_n d_MO_posix_262 rfl ?_
          refine zz_bipush d_MO_posix_263 (by decide) ?_
          refine ab_iload_n d_MO_posix_265 rfl ?_
          refine ab_callV (d' := d - 1) (as := [vz 7, vz m_at]) (st := []) (r := _) (z_MO_wrong (o := o) (m_thrown := m_thrown) (m_taped := m_taped) (m_length := m_length) (m_out := m_out) (m_wide := m_wide) (m_gathered := m_gathered) (m_sets := m_sets) (m_ranges := m_ranges) (m_nodes := m_nodes) (m_at := ((m_at + 2) + 0)) (m_flags := m_flags) (m_fault := m_fault) (m_place := m_place) (m_numbered := m_numbered) (m_depth := m_depth) (m_value := m_value) (m_isNot := m_isNot) (m_least0 := m_least0) (m_most0 := m_most0) (m_slot := m_slot) (m_work := m_work) (m_got := m_got) (m_rowMany := m_rowMany) (m_charAt := m_charAt) (m_charWide := m_charWide) (m_trail := m_trail) (m_isMatch := m_isMatch) (m_matchGroups := m_matchGroups) (m_allFrom := m_allFrom) (m_allBefore := m_allBefore) (m_founds := m_founds) (m_pieces := m_pieces) (m_writtenMany := m_writtenMany) (m_templateWide := m_templateWide) (m_tooMuch := m_tooMuch) (x := 7) (y := m_at) h80 (by omega) (by omega)) (fun oc G2 h => by rcases h with ⟨_, _, h, _⟩ <;> exact ⟨_, h⟩) (by omega) m_MO_wrong ml_MO_304 im_MO_wrong se_MO_wrong c_MO h80.2.2 (Nat.le_of_ble_eq_true rfl) d_MO_posix_266 rfl ?_
          intro v G603 hq
          rcases hq with ⟨f2604, p2605, hv, hfk, hlk, hsk, hN80, hq606⟩
          cases hv
          have h84 := hfk.get h84 (by decide)
          have h87 := hfk.get h87 (by decide)
          have h88 := hfk.get h88 (by decide)
          have h81 := hfk.get h81 (by decide)
          have h82 := hfk.get h82 (by decide)
          have hfr := hfr.tr hfk (by decide)
          have hlen := hlk.trans hlen
          have hsl := hsk.trans hsl
          have h80 := hN80
          change ab_W _ _ _ G603 269 [some (vR 80), some (vz m_at), some (vz 0), some (vz m_taped), some (vz 7)] [] _
          refine ab_vret rfl d_MO_posix_269 ?_
          rw [hQ]; exact (Or.inl ⟨_, _, _, rfl, hfr, hlen, hsl, h80, h87, h88, (by omega)⟩)
    · refine zz_iconst d_MO_posix_79 ?_
      refine ab_goto (tgt := 234) d_MO_posix_80 (by decide) ?_
      refine ab_istore d_MO_posix_234 (Nat.le_of_ble_eq_true rfl) (Nat.le_of_ble_eq_true rfl) rfl ?_
      change ab_W _ _ _ G526 236 [some (vR 80), some (vz m_at), some (vz 0), some (vz m_taped), some (vz 0)] [] _
      refine ab_iload d_MO_posix_236 rfl ?_
      refine zz_if_lt (tgt := 262) d_MO_posix_238 (by decide) (by decide) (fun c607 => absurd c607 (by decide)) (fun c607 => ?_)
      refine ab_aload_n d_MO_posix_241 rfl ?_
      refine zz_iconst d_MO_posix_242 ?_
      refine ab_callV (d' := d - 1) (as := [vz 5]) (st := []) (r := _) (z_MO_here (o := o) (m_thrown := m_thrown) (m_taped := m_taped) (m_length := m_length) (m_out := m_out) (m_wide := m_wide) (m_gathered := m_gathered) (m_sets := m_sets) (m_ranges := m_ranges) (m_nodes := m_nodes) (m_at := ((m_at + 2) + 0)) (m_flags := m_flags) (m_fault := m_fault) (m_place := m_place) (m_numbered := m_numbered) (m_depth := m_depth) (m_value := m_value) (m_isNot := m_isNot) (m_least0 := m_least0) (m_most0 := m_most0) (m_slot := m_slot) (m_work := m_work) (m_got := m_got) (m_rowMany := m_rowMany) (m_charAt := m_charAt) (m_charWide := m_charWide) (m_trail := m_trail) (m_isMatch := m_isMatch) (m_matchGroups := m_matchGroups) (m_allFrom := m_allFrom) (m_allBefore := m_allBefore) (m_founds := m_founds) (m_pieces := m_pieces) (m_writtenMany := m_writtenMany) (m_templateWide := m_templateWide) (m_tooMuch := m_tooMuch) (A_tape := A_tape) (k := 5) h80 h84 (by omega) (by omega) jtp (by omega)) (fun oc G2 h => by rcases h with ⟨h, _⟩ | ⟨h, _⟩ <;> exact ⟨_, h⟩) (by omega) m_MO_here ml_MO_297 im_MO_here se_MO_here c_MO h80.2.2 (Nat.le_of_ble_eq_true rfl) d_MO_posix_243 rfl ?_
      intro v G608 hq
      rcases hq with ⟨hv, hGe, hq609⟩ | ⟨hv, hGe, hq610⟩
      · cases hv
        rw [hGe]
        change ab_W _ _ _ G526 246 [some (vR 80), some (vz m_at), some (vz 0), some (vz m_taped), some (vz 0)] [vz (A_tape (((m_at + 2) + 0) + 5))] _
        exfalso; omega
      · cases hv
        rw [hGe]
        change ab_W _ _ _ G526 246 [some (vR 80), some (vz m_at), some (vz 0), some (vz m_taped), some (vz 0)] [vz (-1)] _
        refine zz_bipush d_MO_posix_246 (by decide) ?_
        refine zz_icmp_ne (tgt := 262) d_MO_posix_248 (by decide) (by decide) (by decide) (fun c611 => ?_) (fun c611 => absurd c611 (by decide))
        refine ab_aload_n d_MO_posix_262 rfl ?_
        refine zz_bipush d_MO_posix_263 (by decide) ?_
        refine ab_iload_n d_MO_posix_265 rfl ?_
        refine ab_callV (d' := d - 1) (as := [vz 7, vz m_at]) (st := []) (r := _) (z_MO_wrong (o := o) (m_thrown := m_thrown) (m_taped := m_taped) (m_length := m_length) (m_out := m_out) (m_wide := m_wide) (m_gathered := m_gathered) (m_sets := m_sets) (m_ranges := m_ranges) (m_nodes := m_nodes) (m_at := ((m_at + 2) + 0)) (m_flags := m_flags) (m_fault := m_fault) (m_place := m_place) (m_numbered := m_numbered) (m_depth := m_depth) (m_value := m_value) (m_isNot := m_isNot) (m_least0 := m_least0) (m_most0 := m_most0) (m_slot := m_slot) (m_work := m_work) (m_got := m_got) (m_rowMany := m_rowMany) (m_charAt := m_charAt) (m_charWide := m_charWide) (m_trail := m_trail) (m_isMatch := m_isMatch) (m_matchGroups := m_matchGroups) (m_allFrom := m_allFrom) (m_allBefore := m_allBefore) (m_founds := m_founds) (m_pieces := m_pieces) (m_writtenMany := m_writtenMany) (m_templateWide := m_templateWide) (m_tooMuch := m_tooMuch) (x := 7) (y := m_at) h80 (by omega) (by omega)) (fun oc G2 h => by rcases h with ⟨_, _, h, _⟩ <;> exact ⟨_, h⟩) (by omega) m_MO_wrong ml_MO_304 im_MO_wrong se_MO_wrong c_MO h80.2.2 (Nat.le_of_ble_eq_true rfl) d_MO_posix_266 rfl ?_
        intro v G612 hq
        rcases hq with ⟨f2613, p2614, hv, hfk, hlk, hsk, hN80, hq615⟩
        cases hv
        have h84 := hfk.get h84 (by decide)
        have h87 := hfk.get h87 (by decide)
        have h88 := hfk.get h88 (by decide)
        have h81 := hfk.get h81 (by decide)
        have h82 := hfk.get h82 (by decide)
        have hfr := hfr.tr hfk (by decide)
        have hlen := hlk.trans hlen
        have hsl := hsk.trans hsl
        have h80 := hN80
        change ab_W _ _ _ G612 269 [some (vR 80), some (vz m_at), some (vz 0), some (vz m_taped), some (vz 0)] [] _
        refine ab_vret rfl d_MO_posix_269 ?_
        rw [hQ]; exact (Or.inl ⟨_, _, _, rfl, hfr, hlen, hsl, h80, h87, h88, (by omega)⟩)
set_option maxRecDepth 100000 in
set_option maxHeartbeats 4000000 in
theorem z_MO_rangeEnd {X : ab_X} {d : Nat} {o : Nat → Nat} {G : ab_G} {m_thrown : Int} {m_taped : Int} {m_length : Int} {m_out : Int} {m_wide : Int} {m_gathered : Int} {m_sets : Int} {m_ranges : Int} {m_nodes : Int} {m_at : Int} {m_flags : Int} {m_fault : Int} {m_place : Int} {m_numbered : Int} {m_depth : Int} {m_value : Int} {m_isNot : Int} {m_least0 : Int} {m_most0 : Int} {m_slot : Int} {m_work : Int} {m_got : Int} {m_rowMany : Int} {m_charAt : Int} {m_charWide : Int} {m_trail : Int} {m_isMatch : Int} {m_matchGroups : Int} {m_allFrom : Int} {m_allBefore : Int} {m_founds : Int} {m_pieces : Int} {m_writtenMany : Int} {m_templateWide : Int} {m_tooMuch : Int} {A_tape : Int → Int} {wh : Int} (h80 : cc o G 80 280 (ab_ob 12 (mof m_thrown m_taped m_length m_out m_wide m_gathered m_sets m_ranges m_nodes m_at m_flags m_fault m_place m_numbered m_depth m_value m_isNot m_least0 m_most0 m_slot m_work m_got m_rowMany m_charAt m_charWide m_trail m_isMatch m_matchGroups m_allFrom m_allBefore m_founds m_pieces m_writtenMany m_templateWide m_tooMuch))) (h84 : cc o G 84 284 (za 2000 A_tape)) (n18 : ab_n0 = 18) (cta : 0 ≤ m_taped ∧ m_taped ≤ 2000) (jtp : rgs A_tape 2000 0 255) (cat : 0 ≤ m_at ∧ m_at < m_taped) (cf : m_fault = 0) (cval : -2147483648 ≤ m_value ∧ m_value ≤ 2147483647) (hd : 4 ≤ d) : ab_F X d y_MO_rangeEnd (.code y_MO_rangeEnd b_MO_rangeEnd 3 (some (.int))) [vR 80, vz wh] G (fun oc G2 => (∃ v : Int, ∃ a2 : Int, ∃ f2 : Int, ∃ p2 : Int, ∃ v2 : Int, ∃ nt2 : Int, ∃ w2 : Int, oc = .returned (some (vz v)) ∧ fx o o [280] G G2 ∧ G2.length = G.length ∧ ab_slots G2 = ab_slots G ∧ cc o G2 80 280 (ab_ob 12 (mof m_thrown m_taped m_length m_out w2 m_gathered m_sets m_ranges m_nodes a2 m_flags f2 p2 m_numbered m_depth v2 nt2 m_least0 m_most0 m_slot m_work m_got m_rowMany m_charAt m_charWide m_trail m_isMatch m_matchGroups m_allFrom m_allBefore m_founds m_pieces m_writtenMany m_templateWide m_tooMuch)) ∧ (1 ≤ f2 ∧ f2 ≤ 14 ∧ 0 ≤ a2 ∧ a2 ≤ 4000 ∧ -2147483648 ≤ v ∧ v ≤ 2147483647 ∧ -2147483648 ≤ v2 ∧ v2 ≤ 2147483647)) ∨ (∃ v : Int, ∃ a2 : Int, ∃ v2 : Int, ∃ w2 : Int, oc = .returned (some (vz v)) ∧ fx o o [280] G G2 ∧ G2.length = G.length ∧ ab_slots G2 = ab_slots G ∧ cc o G2 80 280 (ab_ob 12 (mof m_thrown m_taped m_length m_out w2 m_gathered m_sets m_ranges m_nodes a2 m_flags m_fault m_place m_numbered m_depth v2 m_isNot m_least0 m_most0 m_slot m_work m_got m_rowMany m_charAt m_charWide m_trail m_isMatch m_matchGroups m_allFrom m_allBefore m_founds m_pieces m_writtenMany m_templateWide m_tooMuch)) ∧ (0 ≤ v ∧ v ≤ 1114111 ∧ m_at + 1 ≤ a2 ∧ a2 ≤ m_taped ∧ -2147483648 ≤ v2 ∧ v2 ≤ 2147483647))) := by
  refine ab_F_of (by decide +kernel) (Nat.le_of_ble_eq_true rfl) ?_
  obtain ⟨Q, hQ⟩ : ∃ z : Outcome → ab_G → Prop, z = (fun oc G2 => (∃ v : Int, ∃ a2 : Int, ∃ f2 : Int, ∃ p2 : Int, ∃ v2 : Int, ∃ nt2 : Int, ∃ w2 : Int, oc = .returned (some (vz v)) ∧ fx o o [280] G G2 ∧ G2.length = G.length ∧ ab_slots G2 = ab_slots G ∧ cc o G2 80 280 (ab_ob 12 (mof m_thrown m_taped m_length m_out w2 m_gathered m_sets m_ranges m_nodes a2 m_flags f2 p2 m_numbered m_depth v2 nt2 m_least0 m_most0 m_slot m_work m_got m_rowMany m_charAt m_charWide m_trail m_isMatch m_matchGroups m_allFrom m_allBefore m_founds m_pieces m_writtenMany m_templateWide m_tooMuch)) ∧ (1 ≤ f2 ∧ f2 ≤ 14 ∧ 0 ≤ a2 ∧ a2 ≤ 4000 ∧ -2147483648 ≤ v ∧ v ≤ 2147483647 ∧ -2147483648 ≤ v2 ∧ v2 ≤ 2147483647)) ∨ (∃ v : Int, ∃ a2 : Int, ∃ v2 : Int, ∃ w2 : Int, oc = .returned (some (vz v)) ∧ fx o o [280] G G2 ∧ G2.length = G.length ∧ ab_slots G2 = ab_slots G ∧ cc o G2 80 280 (ab_ob 12 (mof m_thrown m_taped m_length m_out w2 m_gathered m_sets m_ranges m_nodes a2 m_flags m_fault m_place m_numbered m_depth v2 m_isNot m_least0 m_most0 m_slot m_work m_got m_rowMany m_charAt m_charWide m_trail m_isMatch m_matchGroups m_allFrom m_allBefore m_founds m_pieces m_writtenMany m_templateWide m_tooMuch)) ∧ (0 ≤ v ∧ v ≤ 1114111 ∧ m_at + 1 ≤ a2 ∧ a2 ≤ m_taped ∧ -2147483648 ≤ v2 ∧ v2 ≤ 2147483647))) := ⟨_, rfl⟩
  rw [← hQ]
  change ab_W X (ab_pl y_MO_rangeEnd b_MO_rangeEnd 3 (some (.int))) d G 0 [some (vR 80), some (vz wh), none] [] Q
  have hfr : fx o o [280] G G := fx.rf
  have hlen : G.length = G.length := rfl
  have hsl : ab_slots G = ab_slots G := rfl
  refine ab_aload_n d_MO_rangeEnd_0 rfl ?_
  refine zz_iconst d_MO_rangeEnd_1 ?_
  refine ab_callV (d' := d - 1) (as := [vz 0]) (st := []) (r := _) (z_MO_here (o := o) (m_thrown := m_thrown) (m_taped := m_taped) (m_length := m_length) (m_out := m_out) (m_wide := m_wide) (m_gathered := m_gathered) (m_sets := m_sets) (m_ranges := m_ranges) (m_nodes := m_nodes) (m_at := m_at) (m_flags := m_flags) (m_fault := m_fault) (m_place := m_place) (m_numbered := m_numbered) (m_depth := m_depth) (m_value := m_value) (m_isNot := m_isNot) (m_least0 := m_least0) (m_most0 := m_most0) (m_slot := m_slot) (m_work := m_work) (m_got := m_got) (m_rowMany := m_rowMany) (m_charAt := m_charAt) (m_charWide := m_charWide) (m_trail := m_trail) (m_isMatch := m_isMatch) (m_matchGroups := m_matchGroups) (m_allFrom := m_allFrom) (m_allBefore := m_allBefore) (m_founds := m_founds) (m_pieces := m_pieces) (m_writtenMany := m_writtenMany) (m_templateWide := m_templateWide) (m_tooMuch := m_tooMuch) (A_tape := A_tape) (k := 0) h80 h84 (by omega) (by omega) jtp (by omega)) (fun oc G2 h => by rcases h with ⟨h, _⟩ | ⟨h, _⟩ <;> exact ⟨_, h⟩) (by omega) m_MO_here ml_MO_297 im_MO_here se_MO_here c_MO h80.2.2 (Nat.le_of_ble_eq_true rfl) d_MO_rangeEnd_2 rfl ?_
  intro v G1 hq
  rcases hq with ⟨hv, hGe, hq2⟩ | ⟨hv, hGe, hq3⟩
  · cases hv
    rw [hGe]
    change ab_W _ _ _ G 5 [some (vR 80), some (vz wh), none] [vz (A_tape (m_at + 0))] _
    refine zz_bipush d_MO_rangeEnd_5 (by decide) ?_
    refine zz_icmp_ne (tgt := 29) d_MO_rangeEnd_7 (by decide) (by omega) (by decide) (fun c4 => ?_) (fun c4 => ?_)
    · refine ab_aload_n d_MO_rangeEnd_29 rfl ?_
      refine zz_iconst d_MO_rangeEnd_30 ?_
      refine ab_callV (d' := d - 1) (as := [vz 0]) (st := []) (r := _) (z_MO_here (o := o) (m_thrown := m_thrown) (m_taped := m_taped) (m_length := m_length) (m_out := m_out) (m_wide := m_wide) (m_gathered := m_gathered) (m_sets := m_sets) (m_ranges := m_ranges) (m_nodes := m_nodes) (m_at := m_at) (m_flags := m_flags) (m_fault := m_fault) (m_place := m_place) (m_numbered := m_numbered) (m_depth := m_depth) (m_value := m_value) (m_isNot := m_isNot) (m_least0 := m_least0) (m_most0 := m_most0) (m_slot := m_slot) (m_work := m_work) (m_got := m_got) (m_rowMany := m_rowMany) (m_charAt := m_charAt) (m_charWide := m_charWide) (m_trail := m_trail) (m_isMatch := m_isMatch) (m_matchGroups := m_matchGroups) (m_allFrom := m_allFrom) (m_allBefore := m_allBefore) (m_founds := m_founds) (m_pieces := m_pieces) (m_writtenMany := m_writtenMany) (m_templateWide := m_templateWide) (m_tooMuch := m_tooMuch) (A_tape := A_tape) (k := 0) h80 h84 (by omega) (by omega) jtp (by omega)) (fun oc G2 h => by rcases h with ⟨h, _⟩ | ⟨h, _⟩ <;> exact ⟨_, h⟩) (by omega) m_MO_here ml_MO_297 im_MO_here se_MO_here c_MO h80.2.2 (Nat.le_of_ble_eq_true rfl) d_MO_rangeEnd_31 rfl ?_
      intro v G5 hq
      rcases hq with ⟨hv, hGe, hq6⟩ | ⟨hv, hGe, hq7⟩
      · cases hv
        rw [hGe]
        change ab_W _ _ _ G 34 [some (vR 80), some (vz wh), none] [vz (A_tape (m_at + 0))] _
        refine zz_bipush d_MO_rangeEnd_34 (by decide) ?_
        refine zz_icmp_eq (tgt := 44) d_MO_rangeEnd_36 (by decide) (by omega) (by decide) (fun c8 => ?_) (fun c8 => ?_)
        · refine ab_aload_n d_MO_rangeEnd_44 rfl ?_
          refine zz_iconst d_MO_rangeEnd_45 ?_
          refine ab_callV (d' := d - 1) (as := [vz 1]) (st := []) (r := _) (z_MO_escape (o := o) (m_thrown := m_thrown) (m_taped := m_taped) (m_length := m_length) (m_out := m_out) (m_wide := m_wide) (m_gathered := m_gathered) (m_sets := m_sets) (m_ranges := m_ranges) (m_nodes := m_nodes) (m_at := m_at) (m_flags := m_flags) (m_fault := m_fault) (m_place := m_place) (m_numbered := m_numbered) (m_depth := m_depth) (m_value := m_value) (m_isNot := m_isNot) (m_least0 := m_least0) (m_most0 := m_most0) (m_slot := m_slot) (m_work := m_work) (m_got := m_got) (m_rowMany := m_rowMany) (m_charAt := m_charAt) (m_charWide := m_charWide) (m_trail := m_trail) (m_isMatch := m_isMatch) (m_matchGroups := m_matchGroups) (m_allFrom := m_allFrom) (m_allBefore := m_allBefore) (m_founds := m_founds) (m_pieces := m_pieces) (m_writtenMany := m_writtenMany) (m_templateWide := m_templateWide) (m_tooMuch := m_tooMuch) (A_tape := A_tape) (ic := 1) h80 h84 (by omega) (by omega) jtp (by omega) (by omega) (by omega) (by omega)) (fun oc G2 h => by rcases h with ⟨_, _, _, h, _⟩ | ⟨_, _, h, _⟩ | ⟨_, _, _, h, _⟩ | ⟨_, h, _⟩ | ⟨h, _⟩ <;> exact ⟨_, h⟩) (by omega) m_MO_escape ml_MO_344 im_MO_escape se_MO_escape c_MO h80.2.2 (Nat.le_of_ble_eq_true rfl) d_MO_rangeEnd_46 rfl ?_
          intro v G9 hq
          rcases hq with ⟨a210, f211, p212, hv, hfk, hlk, hsk, hN80, hq13⟩ | ⟨a214, v215, hv, hfk, hlk, hsk, hN80, hq16⟩ | ⟨a217, v218, nt219, hv, hfk, hlk, hsk, hN80, hq20⟩ | ⟨v221, hv, hfk, hlk, hsk, hN80, hq22⟩ | ⟨hv, hfk, hlk, hsk, hN80, hq23⟩
          · cases hv
            have h84 := hfk.get h84 (by decide)
            have hfr := hfr.tr hfk (by decide)
            have hlen := hlk.trans hlen
            have hsl := hsk.trans hsl
            have h80 := hN80
            change ab_W _ _ _ G9 49 [some (vR 80), some (vz wh), none] [vz (-1)] _
            refine ab_istore_n d_MO_rangeEnd_49 (Nat.le_of_ble_eq_true rfl) (Nat.le_of_ble_eq_true rfl) rfl ?_
            change ab_W _ _ _ G9 50 [some (vR 80), some (vz wh), some (vz (-1))] [] _
            refine ab_iload_n d_MO_rangeEnd_50 rfl ?_
            refine zz_iconst d_MO_rangeEnd_51 ?_
            refine zz_icmp_ne (tgt := 62) d_MO_rangeEnd_52 (by decide) (by decide) (by decide) (fun c24 => ?_) (fun c24 => absurd c24 (by decide))
            refine ab_aload_n d_MO_rangeEnd_62 rfl ?_
            refine ab_getf (fs := mof m_thrown m_taped m_length m_out m_wide m_gathered m_sets m_ranges m_nodes a210 m_flags f211 p212 m_numbered m_depth m_value m_isNot m_least0 m_most0 m_slot m_work m_got m_rowMany m_charAt m_charWide m_trail m_isMatch m_matchGroups m_allFrom m_allBefore m_founds m_pieces m_writtenMany m_templateWide m_tooMuch) f_MO_307 d_MO_rangeEnd_63 h80.2.2 rfl ?_
            refine zz_iret rfl d_MO_rangeEnd_66 ?_
            rw [hQ]; exact (Or.inl ⟨_, _, _, _, _, _, _, rfl, hfr, hlen, hsl, h80, (by omega)⟩)
          · cases hv
            have h84 := hfk.get h84 (by decide)
            have hfr := hfr.tr hfk (by decide)
            have hlen := hlk.trans hlen
            have hsl := hsk.trans hsl
            have h80 := hN80
            change ab_W _ _ _ G9 49 [some (vR 80), some (vz wh), none] [vz 0] _
            refine ab_istore_n d_MO_rangeEnd_49 (Nat.le_of_ble_eq_true rfl) (Nat.le_of_ble_eq_true rfl) rfl ?_
            change ab_W _ _ _ G9 50 [some (vR 80), some (vz wh), some (vz 0)] [] _
            refine ab_iload_n d_MO_rangeEnd_50 rfl ?_
            refine zz_iconst d_MO_rangeEnd_51 ?_
            refine zz_icmp_ne (tgt := 62) d_MO_rangeEnd_52 (by decide) (by decide) (by decide) (fun c25 => ?_) (fun c25 => absurd c25 (by decide))
            refine ab_aload_n d_MO_rangeEnd_62 rfl ?_
            refine ab_getf (fs := mof m_thrown m_taped m_length m_out m_wide m_gathered m_sets m_ranges m_nodes a214 m_flags m_fault m_place m_numbered m_depth v215 m_isNot m_least0 m_most0 m_slot m_work m_got m_rowMany m_charAt m_charWide m_trail m_isMatch m_matchGroups m_allFrom m_allBefore m_founds m_pieces m_writtenMany m_templateWide m_tooMuch) f_MO_307 d_MO_rangeEnd_63 h80.2.2 rfl ?_
            refine zz_iret rfl d_MO_rangeEnd_66 ?_
            rw [hQ]; exact (Or.inr ⟨_, _, _, _, rfl, hfr, hlen, hsl, h80, (by omega)⟩)
          · cases hv
            have h84 := hfk.get h84 (by decide)
            have hfr := hfr.tr hfk (by decide)
            have hlen := hlk.trans hlen
            have hsl := hsk.trans hsl
            have h80 := hN80
            change ab_W _ _ _ G9 49 [some (vR 80), some (vz wh), none] [vz 1] _
            refine ab_istore_n d_MO_rangeEnd_49 (Nat.le_of_ble_eq_true rfl) (Nat.le_of_ble_eq_true rfl) rfl ?_
            change ab_W _ _ _ G9 50 [some (vR 80), some (vz wh), some (vz 1)] [] _
            refine ab_iload_n d_MO_rangeEnd_50 rfl ?_
            refine zz_iconst d_MO_rangeEnd_51 ?_
            refine zz_icmp_ne (tgt := 62) d_MO_rangeEnd_52 (by decide) (by decide) (by decide) (fun c26 => absurd c26 (by decide)) (fun c26 => ?_)
            refine ab_aload_n d_MO_rangeEnd_55 rfl ?_
            refine zz_bipush d_MO_rangeEnd_56 (by decide) ?_
            refine ab_iload_n d_MO_rangeEnd_58 rfl ?_
            refine ab_callV (d' := d - 1) (as := [vz 6, vz wh]) (st := []) (r := _) (z_MO_wrong (o := o) (m_thrown := m_thrown) (m_taped := m_taped) (m_length := m_length) (m_out := m_out) (m_wide := m_wide) (m_gathered := m_gathered) (m_sets := m_sets) (m_ranges := m_ranges) (m_nodes := m_nodes) (m_at := a217) (m_flags := m_flags) (m_fault := m_fault) (m_place := m_place) (m_numbered := m_numbered) (m_depth := m_depth) (m_value := v218) (m_isNot := nt219) (m_least0 := m_least0) (m_most0 := m_most0) (m_slot := m_slot) (m_work := m_work) (m_got := m_got) (m_rowMany := m_rowMany) (m_charAt := m_charAt) (m_charWide := m_charWide) (m_trail := m_trail) (m_isMatch := m_isMatch) (m_matchGroups := m_matchGroups) (m_allFrom := m_allFrom) (m_allBefore := m_allBefore) (m_founds := m_founds) (m_pieces := m_pieces) (m_writtenMany := m_writtenMany) (m_templateWide := m_templateWide) (m_tooMuch := m_tooMuch) (x := 6) (y := wh) h80 (by omega) (by omega)) (fun oc G2 h => by rcases h with ⟨_, _, h, _⟩ <;> exact ⟨_, h⟩) (by omega) m_MO_wrong ml_MO_304 im_MO_wrong se_MO_wrong c_MO h80.2.2 (Nat.le_of_ble_eq_true rfl) d_MO_rangeEnd_59 rfl ?_
            intro v G27 hq
            rcases hq with ⟨f228, p229, hv, hfk, hlk, hsk, hN80, hq30⟩
            cases hv
            have h84 := hfk.get h84 (by decide)
            have hfr := hfr.tr hfk (by decide)
            have hlen := hlk.trans hlen
            have hsl := hsk.trans hsl
            have h80 := hN80
            change ab_W _ _ _ G27 62 [some (vR 80), some (vz wh), some (vz 1)] [] _
            refine ab_aload_n d_MO_rangeEnd_62 rfl ?_
            refine ab_getf (fs := mof m_thrown m_taped m_length m_out m_wide m_gathered m_sets m_ranges m_nodes a217 m_flags f228 p229 m_numbered m_depth v218 nt219 m_least0 m_most0 m_slot m_work m_got m_rowMany m_charAt m_charWide m_trail m_isMatch m_matchGroups m_allFrom m_allBefore m_founds m_pieces m_writtenMany m_templateWide m_tooMuch) f_MO_307 d_MO_rangeEnd_63 h80.2.2 rfl ?_
            refine zz_iret rfl d_MO_rangeEnd_66 ?_
            rw [hQ]; exact (Or.inl ⟨_, _, _, _, _, _, _, rfl, hfr, hlen, hsl, h80, (by omega)⟩)
          · cases hv
            have h84 := hfk.get h84 (by decide)
            have hfr := hfr.tr hfk (by decide)
            have hlen := hlk.trans hlen
            have hsl := hsk.trans hsl
            have h80 := hN80
            change ab_W _ _ _ G9 49 [some (vR 80), some (vz wh), none] [vz 2] _
            exfalso; omega
          · cases hv
            have h84 := hfk.get h84 (by decide)
            have hfr := hfr.tr hfk (by decide)
            have hlen := hlk.trans hlen
            have hsl := hsk.trans hsl
            have h80 := hN80
            change ab_W _ _ _ G9 49 [some (vR 80), some (vz wh), none] [vz 3] _
            exfalso; omega
        · refine ab_aload_n d_MO_rangeEnd_39 rfl ?_
          refine ab_callV (d' := d - 1) (as := []) (st := []) (r := _) (z_MO_plain (o := o) (m_thrown := m_thrown) (m_taped := m_taped) (m_length := m_length) (m_out := m_out) (m_wide := m_wide) (m_gathered := m_gathered) (m_sets := m_sets) (m_ranges := m_ranges) (m_nodes := m_nodes) (m_at := m_at) (m_flags := m_flags) (m_fault := m_fault) (m_place := m_place) (m_numbered := m_numbered) (m_depth := m_depth) (m_value := m_value) (m_isNot := m_isNot) (m_least0 := m_least0) (m_most0 := m_most0) (m_slot := m_slot) (m_work := m_work) (m_got := m_got) (m_rowMany := m_rowMany) (m_charAt := m_charAt) (m_charWide := m_charWide) (m_trail := m_trail) (m_isMatch := m_isMatch) (m_matchGroups := m_matchGroups) (m_allFrom := m_allFrom) (m_allBefore := m_allBefore) (m_founds := m_founds) (m_pieces := m_pieces) (m_writtenMany := m_writtenMany) (m_templateWide := m_templateWide) (m_tooMuch := m_tooMuch) (A_tape := A_tape) h80 h84 (by omega) (by omega) jtp (by omega) (by omega) (by omega)) (fun oc G2 h => by rcases h with ⟨_, _, _, h, _⟩ | ⟨_, _, _, h, _⟩ <;> exact ⟨_, h⟩) (by omega) m_MO_plain ml_MO_348 im_MO_plain se_MO_plain c_MO h80.2.2 (Nat.le_of_ble_eq_true rfl) d_MO_rangeEnd_40 rfl ?_
          intro v G31 hq
          rcases hq with ⟨w232, f233, p234, hv, hfk, hlk, hsk, hN80, hq35⟩ | ⟨v36, w237, a238, hv, hfk, hlk, hsk, hN80, hq39⟩
          · cases hv
            have h84 := hfk.get h84 (by decide)
            have hfr := hfr.tr hfk (by decide)
            have hlen := hlk.trans hlen
            have hsl := hsk.trans hsl
            have h80 := hN80
            change ab_W _ _ _ G31 43 [some (vR 80), some (vz wh), none] [vz (-1)] _
            refine zz_iret rfl d_MO_rangeEnd_43 ?_
            rw [hQ]; exact (Or.inl ⟨_, _, _, _, _, _, _, rfl, hfr, hlen, hsl, h80, (by omega)⟩)
          · cases hv
            have h84 := hfk.get h84 (by decide)
            have hfr := hfr.tr hfk (by decide)
            have hlen := hlk.trans hlen
            have hsl := hsk.trans hsl
            have h80 := hN80
            change ab_W _ _ _ G31 43 [some (vR 80), some (vz wh), none] [vz v36] _
            refine zz_iret rfl d_MO_rangeEnd_43 ?_
            rw [hQ]; exact (Or.inr ⟨_, _, _, _, rfl, hfr, hlen, hsl, h80, (by omega)⟩)
      · cases hv
        rw [hGe]
        change ab_W _ _ _ G 34 [some (vR 80), some (vz wh), none] [vz (-1)] _
        exfalso; omega
    · refine ab_aload_n d_MO_rangeEnd_10 rfl ?_
      refine zz_iconst d_MO_rangeEnd_11 ?_
      refine ab_callV (d' := d - 1) (as := [vz 1]) (st := []) (r := _) (z_MO_here (o := o) (m_thrown := m_thrown) (m_taped := m_taped) (m_length := m_length) (m_out := m_out) (m_wide := m_wide) (m_gathered := m_gathered) (m_sets := m_sets) (m_ranges := m_ranges) (m_nodes := m_nodes) (m_at := m_at) (m_flags := m_flags) (m_fault := m_fault) (m_place := m_place) (m_numbered := m_numbered) (m_depth := m_depth) (m_value := m_value) (m_isNot := m_isNot) (m_least0 := m_least0) (m_most0 := m_most0) (m_slot := m_slot) (m_work := m_work) (m_got := m_got) (m_rowMany := m_rowMany) (m_charAt := m_charAt) (m_charWide := m_charWide) (m_trail := m_trail) (m_isMatch := m_isMatch) (m_matchGroups := m_matchGroups) (m_allFrom := m_allFrom) (m_allBefore := m_allBefore) (m_founds := m_founds) (m_pieces := m_pieces) (m_writtenMany := m_writtenMany) (m_templateWide := m_templateWide) (m_tooMuch := m_tooMuch) (A_tape := A_tape) (k := 1) h80 h84 (by omega) (by omega) jtp (by omega)) (fun oc G2 h => by rcases h with ⟨h, _⟩ | ⟨h, _⟩ <;> exact ⟨_, h⟩) (by omega) m_MO_here ml_MO_297 im_MO_here se_MO_here c_MO h80.2.2 (Nat.le_of_ble_eq_true rfl) d_MO_rangeEnd_12 rfl ?_
      intro v G40 hq
      rcases hq with ⟨hv, hGe, hq41⟩ | ⟨hv, hGe, hq42⟩
      · cases hv
        rw [hGe]
        change ab_W _ _ _ G 15 [some (vR 80), some (vz wh), none] [vz (A_tape (m_at + 1))] _
        refine zz_bipush d_MO_rangeEnd_15 (by decide) ?_
        refine zz_icmp_ne (tgt := 29) d_MO_rangeEnd_17 (by decide) (by omega) (by decide) (fun c43 => ?_) (fun c43 => ?_)
        · refine ab_aload_n d_MO_rangeEnd_29 rfl ?_
          refine zz_iconst d_MO_rangeEnd_30 ?_
          refine ab_callV (d' := d - 1) (as := [vz 0]) (st := []) (r := _) (z_MO_here (o := o) (m_thrown := m_thrown) (m_taped := m_taped) (m_length := m_length) (m_out := m_out) (m_wide := m_wide) (m_gathered := m_gathered) (m_sets := m_sets) (m_ranges := m_ranges) (m_nodes := m_nodes) (m_at := m_at) (m_flags := m_flags) (m_fault := m_fault) (m_place := m_place) (m_numbered := m_numbered) (m_depth := m_depth) (m_value := m_value) (m_isNot := m_isNot) (m_least0 := m_least0) (m_most0 := m_most0) (m_slot := m_slot) (m_work := m_work) (m_got := m_got) (m_rowMany := m_rowMany) (m_charAt := m_charAt) (m_charWide := m_charWide) (m_trail := m_trail) (m_isMatch := m_isMatch) (m_matchGroups := m_matchGroups) (m_allFrom := m_allFrom) (m_allBefore := m_allBefore) (m_founds := m_founds) (m_pieces := m_pieces) (m_writtenMany := m_writtenMany) (m_templateWide := m_templateWide) (m_tooMuch := m_tooMuch) (A_tape := A_tape) (k := 0) h80 h84 (by omega) (by omega) jtp (by omega)) (fun oc G2 h => by rcases h with ⟨h, _⟩ | ⟨h, _⟩ <;> exact ⟨_, h⟩) (by omega) m_MO_here ml_MO_297 im_MO_here se_MO_here c_MO h80.2.2 (Nat.le_of_ble_eq_true rfl) d_MO_rangeEnd_31 rfl ?_
          intro v G44 hq
          rcases hq with ⟨hv, hGe, hq45⟩ | ⟨hv, hGe, hq46⟩
          · cases hv
            rw [hGe]
            change ab_W _ _ _ G 34 [some (vR 80), some (vz wh), none] [vz (A_tape (m_at + 0))] _
            refine zz_bipush d_MO_rangeEnd_34 (by decide) ?_
            refine zz_icmp_eq (tgt := 44) d_MO_rangeEnd_36 (by decide) (by omega) (by decide) (fun c47 => absurd c47 (by omega)) (fun c47 => ?_)
            refine ab_aload_n d_MO_rangeEnd_39 rfl ?_
            refine ab_callV (d' := d - 1) (as := []) (st := []) (r := _) (z_MO_plain (o := o) (m_thrown := m_thrown) (m_taped := m_taped) (m_length := m_length) (m_out := m_out) (m_wide := m_wide) (m_gathered := m_gathered) (m_sets := m_sets) (m_ranges := m_ranges) (m_nodes := m_nodes) (m_at := m_at) (m_flags := m_flags) (m_fault := m_fault) (m_place := m_place) (m_numbered := m_numbered) (m_depth := m_depth) (m_value := m_value) (m_isNot := m_isNot) (m_least0 := m_least0) (m_most0 := m_most0) (m_slot := m_slot) (m_work := m_work) (m_got := m_got) (m_rowMany := m_rowMany) (m_charAt := m_charAt) (m_charWide := m_charWide) (m_trail := m_trail) (m_isMatch := m_isMatch) (m_matchGroups := m_matchGroups) (m_allFrom := m_allFrom) (m_allBefore := m_allBefore) (m_founds := m_founds) (m_pieces := m_pieces) (m_writtenMany := m_writtenMany) (m_templateWide := m_templateWide) (m_tooMuch := m_tooMuch) (A_tape := A_tape) h80 h84 (by omega) (by omega) jtp (by omega) (by omega) (by omega)) (fun oc G2 h => by rcases h with ⟨_, _, _, h, _⟩ | ⟨_, _, _, h, _⟩ <;> exact ⟨_, h⟩) (by omega) m_MO_plain ml_MO_348 im_MO_plain se_MO_plain c_MO h80.2.2 (Nat.le_of_ble_eq_true rfl) d_MO_rangeEnd_40 rfl ?_
            intro v G48 hq
            rcases hq with ⟨w249, f250, p251, hv, hfk, hlk, hsk, hN80, hq52⟩ | ⟨v53, w254, a255, hv, hfk, hlk, hsk, hN80, hq56⟩
            · cases hv
              have h84 := hfk.get h84 (by decide)
              have hfr := hfr.tr hfk (by decide)
              have hlen := hlk.trans hlen
              have hsl := hsk.trans hsl
              have h80 := hN80
              change ab_W _ _ _ G48 43 [some (vR 80), some (vz wh), none] [vz (-1)] _
              refine zz_iret rfl d_MO_rangeEnd_43 ?_
              rw [hQ]; exact (Or.inl ⟨_, _, _, _, _, _, _, rfl, hfr, hlen, hsl, h80, (by omega)⟩)
            · cases hv
              have h84 := hfk.get h84 (by decide)
              have hfr := hfr.tr hfk (by decide)
              have hlen := hlk.trans hlen
              have hsl := hsk.trans hsl
              have h80 := hN80
              change ab_W _ _ _ G48 43 [some (vR 80), some (vz wh), none] [vz v53] _
              refine zz_iret rfl d_MO_rangeEnd_43 ?_
              rw [hQ]; exact (Or.inr ⟨_, _, _, _, rfl, hfr, hlen, hsl, h80, (by omega)⟩)
          · cases hv
            rw [hGe]
            change ab_W _ _ _ G 34 [some (vR 80), some (vz wh), none] [vz (-1)] _
            exfalso; omega
        · refine ab_aload_n d_MO_rangeEnd_20 rfl ?_
          refine zz_bipush d_MO_rangeEnd_21 (by decide) ?_
          refine ab_iload_n d_MO_rangeEnd_23 rfl ?_
          refine ab_callV (d' := d - 1) (as := [vz 6, vz wh]) (st := []) (r := _) (z_MO_wrong (o := o) (m_thrown := m_thrown) (m_taped := m_taped) (m_length := m_length) (m_out := m_out) (m_wide := m_wide) (m_gathered := m_gathered) (m_sets := m_sets) (m_ranges := m_ranges) (m_nodes := m_nodes) (m_at := m_at) (m_flags := m_flags) (m_fault := m_fault) (m_place := m_place) (m_numbered := m_numbered) (m_depth := m_depth) (m_value := m_value) (m_isNot := m_isNot) (m_least0 := m_least0) (m_most0 := m_most0) (m_slot := m_slot) (m_work := m_work) (m_got := m_got) (m_rowMany := m_rowMany) (m_charAt := m_charAt) (m_charWide := m_charWide) (m_trail := m_trail) (m_isMatch := m_isMatch) (m_matchGroups := m_matchGroups) (m_allFrom := m_allFrom) (m_allBefore := m_allBefore) (m_founds := m_founds) (m_pieces := m_pieces) (m_writtenMany := m_writtenMany) (m_templateWide := m_templateWide) (m_tooMuch := m_tooMuch) (x := 6) (y := wh) h80 (by omega) (by omega)) (fun oc G2 h => by rcases h with ⟨_, _, h, _⟩ <;> exact ⟨_, h⟩) (by omega) m_MO_wrong ml_MO_304 im_MO_wrong se_MO_wrong c_MO h80.2.2 (Nat.le_of_ble_eq_true rfl) d_MO_rangeEnd_24 rfl ?_
          intro v G57 hq
          rcases hq with ⟨f258, p259, hv, hfk, hlk, hsk, hN80, hq60⟩
          cases hv
          have h84 := hfk.get h84 (by decide)
          have hfr := hfr.tr hfk (by decide)
          have hlen := hlk.trans hlen
          have hsl := hsk.trans hsl
          have h80 := hN80
          change ab_W _ _ _ G57 27 [some (vR 80), some (vz wh), none] [] _
          refine zz_iconst d_MO_rangeEnd_27 ?_
          refine zz_iret rfl d_MO_rangeEnd_28 ?_
          rw [hQ]; exact (Or.inl ⟨_, _, _, _, _, _, _, rfl, hfr, hlen, hsl, h80, (by omega)⟩)
      · cases hv
        rw [hGe]
        change ab_W _ _ _ G 15 [some (vR 80), some (vz wh), none] [vz (-1)] _
        refine zz_bipush d_MO_rangeEnd_15 (by decide) ?_
        refine zz_icmp_ne (tgt := 29) d_MO_rangeEnd_17 (by decide) (by decide) (by decide) (fun c61 => ?_) (fun c61 => absurd c61 (by decide))
        refine ab_aload_n d_MO_rangeEnd_29 rfl ?_
        refine zz_iconst d_MO_rangeEnd_30 ?_
        refine ab_callV (d' := d - 1) (as := [vz 0]) (st := []) (r := _) (z_MO_here (o := o) (m_thrown := m_thrown) (m_taped := m_taped) (m_length := m_length) (m_out := m_out) (m_wide := m_wide) (m_gathered := m_gathered) (m_sets := m_sets) (m_ranges := m_ranges) (m_nodes := m_nodes) (m_at := m_at) (m_flags := m_flags) (m_fault := m_fault) (m_place := m_place) (m_numbered := m_numbered) (m_depth := m_depth) (m_value := m_value) (m_isNot := m_isNot) (m_least0 := m_least0) (m_most0 := m_most0) (m_slot := m_slot) (m_work := m_work) (m_got := m_got) (m_rowMany := m_rowMany) (m_charAt := m_charAt) (m_charWide := m_charWide) (m_trail := m_trail) (m_isMatch := m_isMatch) (m_matchGroups := m_matchGroups) (m_allFrom := m_allFrom) (m_allBefore := m_allBefore) (m_founds := m_founds) (m_pieces := m_pieces) (m_writtenMany := m_writtenMany) (m_templateWide := m_templateWide) (m_tooMuch := m_tooMuch) (A_tape := A_tape) (k := 0) h80 h84 (by omega) (by omega) jtp (by omega)) (fun oc G2 h => by rcases h with ⟨h, _⟩ | ⟨h, _⟩ <;> exact ⟨_, h⟩) (by omega) m_MO_here ml_MO_297 im_MO_here se_MO_here c_MO h80.2.2 (Nat.le_of_ble_eq_true rfl) d_MO_rangeEnd_31 rfl ?_
        intro v G62 hq
        rcases hq with ⟨hv, hGe, hq63⟩ | ⟨hv, hGe, hq64⟩
        · cases hv
          rw [hGe]
          change ab_W _ _ _ G 34 [some (vR 80), some (vz wh), none] [vz (A_tape (m_at + 0))] _
          refine zz_bipush d_MO_rangeEnd_34 (by decide) ?_
          refine zz_icmp_eq (tgt := 44) d_MO_rangeEnd_36 (by decide) (by omega) (by decide) (fun c65 => absurd c65 (by omega)) (fun c65 => ?_)
          refine ab_aload_n d_MO_rangeEnd_39 rfl ?_
          refine ab_callV (d' := d - 1) (as := []) (st := []) (r := _) (z_MO_plain (o := o) (m_thrown := m_thrown) (m_taped := m_taped) (m_length := m_length) (m_out := m_out) (m_wide := m_wide) (m_gathered := m_gathered) (m_sets := m_sets) (m_ranges := m_ranges) (m_nodes := m_nodes) (m_at := m_at) (m_flags := m_flags) (m_fault := m_fault) (m_place := m_place) (m_numbered := m_numbered) (m_depth := m_depth) (m_value := m_value) (m_isNot := m_isNot) (m_least0 := m_least0) (m_most0 := m_most0) (m_slot := m_slot) (m_work := m_work) (m_got := m_got) (m_rowMany := m_rowMany) (m_charAt := m_charAt) (m_charWide := m_charWide) (m_trail := m_trail) (m_isMatch := m_isMatch) (m_matchGroups := m_matchGroups) (m_allFrom := m_allFrom) (m_allBefore := m_allBefore) (m_founds := m_founds) (m_pieces := m_pieces) (m_writtenMany := m_writtenMany) (m_templateWide := m_templateWide) (m_tooMuch := m_tooMuch) (A_tape := A_tape) h80 h84 (by omega) (by omega) jtp (by omega) (by omega) (by omega)) (fun oc G2 h => by rcases h with ⟨_, _, _, h, _⟩ | ⟨_, _, _, h, _⟩ <;> exact ⟨_, h⟩) (by omega) m_MO_plain ml_MO_348 im_MO_plain se_MO_plain c_MO h80.2.2 (Nat.le_of_ble_eq_true rfl) d_MO_rangeEnd_40 rfl ?_
          intro v G66 hq
          rcases hq with ⟨w267, f268, p269, hv, hfk, hlk, hsk, hN80, hq70⟩ | ⟨v71, w272, a273, hv, hfk, hlk, hsk, hN80, hq74⟩
          · cases hv
            have h84 := hfk.get h84 (by decide)
            have hfr := hfr.tr hfk (by decide)
            have hlen := hlk.trans hlen
            have hsl := hsk.trans hsl
            have h80 := hN80
            change ab_W _ _ _ G66 43 [some (vR 80), some (vz wh), none] [vz (-1)] _
            refine zz_iret rfl d_MO_rangeEnd_43 ?_
            rw [hQ]; exact (Or.inl ⟨_, _, _, _, _, _, _, rfl, hfr, hlen, hsl, h80, (by omega)⟩)
          · cases hv
            have h84 := hfk.get h84 (by decide)
            have hfr := hfr.tr hfk (by decide)
            have hlen := hlk.trans hlen
            have hsl := hsk.trans hsl
            have h80 := hN80
            change ab_W _ _ _ G66 43 [some (vR 80), some (vz wh), none] [vz v71] _
            refine zz_iret rfl d_MO_rangeEnd_43 ?_
            rw [hQ]; exact (Or.inr ⟨_, _, _, _, rfl, hfr, hlen, hsl, h80, (by omega)⟩)
        · cases hv
          rw [hGe]
          change ab_W _ _ _ G 34 [some (vR 80), some (vz wh), none] [vz (-1)] _
          exfalso; omega
  · cases hv
    rw [hGe]
    change ab_W _ _ _ G 5 [some (vR 80), some (vz wh), none] [vz (-1)] _
    exfalso; omega
set_option maxRecDepth 100000 in
set_option maxHeartbeats 4000000 in
theorem z_MO_item {X : ab_X} {d : Nat} {o : Nat → Nat} {G : ab_G} {m_thrown : Int} {m_taped : Int} {m_length : Int} {m_out : Int} {m_wide : Int} {m_gathered : Int} {m_sets : Int} {m_ranges : Int} {m_nodes : Int} {m_at : Int} {m_flags : Int} {m_fault : Int} {m_place : Int} {m_numbered : Int} {m_depth : Int} {m_value : Int} {m_isNot : Int} {m_least0 : Int} {m_most0 : Int} {m_slot : Int} {m_work : Int} {m_got : Int} {m_rowMany : Int} {m_charAt : Int} {m_charWide : Int} {m_trail : Int} {m_isMatch : Int} {m_matchGroups : Int} {m_allFrom : Int} {m_allBefore : Int} {m_founds : Int} {m_pieces : Int} {m_writtenMany : Int} {m_templateWide : Int} {m_tooMuch : Int} {A_tape : Int → Int} {LO : Int → Int} {HI : Int → Int} {MK : Int → Int} {P : Int → Prop} {mm : Int} (h80 : cc o G 80 280 (ab_ob 12 (mof m_thrown m_taped m_length m_out m_wide m_gathered m_sets m_ranges m_nodes m_at m_flags m_fault m_place m_numbered m_depth m_value m_isNot m_least0 m_most0 m_slot m_work m_got m_rowMany m_charAt m_charWide m_trail m_isMatch m_matchGroups m_allFrom m_allBefore m_founds m_pieces m_writtenMany m_templateWide m_tooMuch))) (h84 : cc o G 84 284 (za 2000 A_tape)) (h93 : cc o G 93 293 (zb 1200 MK)) (h87 : cc o G 87 287 (za 9000 LO)) (h88 : cc o G 88 288 (za 9000 HI)) (h81 : cc o G 81 281 (za 13 tbA)) (h82 : cc o G 82 282 (za 66 tbT)) (n18 : ab_n0 = 18) (cta : 0 ≤ m_taped ∧ m_taped ≤ 2000) (jtp : rgs A_tape 2000 0 255) (cat : 0 ≤ m_at ∧ m_at < m_taped) (cf : m_fault = 0) (cval : -2147483648 ≤ m_value ∧ m_value ≤ 2147483647) (cga : 0 ≤ m_gathered ∧ m_gathered ≤ 6700) (jmk : rgs MK 1200 0 1) (jc : clsI LO HI m_gathered MK P) (jl : lfc P mm) (hd : 5 ≤ d) : ab_F X d y_MO_item (.code y_MO_item b_MO_item 4 none) [vR 80] G (fun oc G2 => (∃ a2 : Int, ∃ f2 : Int, ∃ p2 : Int, ∃ v2 : Int, ∃ nt2 : Int, ∃ w2 : Int, ∃ g2 : Int, ∃ LO2 : Int → Int, ∃ HI2 : Int → Int, ∃ MK2 : Int → Int, oc = .returned none ∧ fx o o [280, 287, 288, 293] G G2 ∧ G2.length = G.length ∧ ab_slots G2 = ab_slots G ∧ cc o G2 80 280 (ab_ob 12 (mof m_thrown m_taped m_length m_out w2 g2 m_sets m_ranges m_nodes a2 m_flags f2 p2 m_numbered m_depth v2 nt2 m_least0 m_most0 m_slot m_work m_got m_rowMany m_charAt m_charWide m_trail m_isMatch m_matchGroups m_allFrom m_allBefore m_founds m_pieces m_writtenMany m_templateWide m_tooMuch)) ∧ cc o G2 87 287 (za 9000 LO2) ∧ cc o G2 88 288 (za 9000 HI2) ∧ cc o G2 93 293 (zb 1200 MK2) ∧ (1 ≤ f2 ∧ f2 ≤ 14 ∧ 0 ≤ a2 ∧ a2 ≤ 4000 ∧ -2147483648 ≤ v2 ∧ v2 ≤ 2147483647 ∧ 0 ≤ g2 ∧ g2 ≤ 6710) ∧ (rgs MK2 1200 0 1)) ∨ (∃ a2 : Int, ∃ v2 : Int, ∃ nt2 : Int, ∃ w2 : Int, ∃ g2 : Int, ∃ m2 : Int, ∃ LO2 : Int → Int, ∃ HI2 : Int → Int, ∃ MK2 : Int → Int, ∃ P2 : Int → Prop, oc = .returned none ∧ fx o o [280, 287, 288, 293] G G2 ∧ G2.length = G.length ∧ ab_slots G2 = ab_slots G ∧ cc o G2 80 280 (ab_ob 12 (mof m_thrown m_taped m_length m_out w2 g2 m_sets m_ranges m_nodes a2 m_flags m_fault m_place m_numbered m_depth v2 nt2 m_least0 m_most0 m_slot m_work m_got m_rowMany m_charAt m_charWide m_trail m_isMatch m_matchGroups m_allFrom m_allBefore m_founds m_pieces m_writtenMany m_templateWide m_tooMuch)) ∧ cc o G2 87 287 (za 9000 LO2) ∧ cc o G2 88 288 (za 9000 HI2) ∧ cc o G2 93 293 (zb 1200 MK2) ∧ (m_at + 1 ≤ a2 ∧ a2 ≤ m_taped ∧ -2147483648 ≤ v2 ∧ v2 ≤ 2147483647 ∧ m_gathered ≤ g2 ∧ 3 * g2 ≤ 3 * m_gathered + 10 * (a2 - m_at) ∧ mm ≤ m2 ∧ m2 ≤ mm + 11 * (a2 - m_at)) ∧ (rgs MK2 1200 0 1) ∧ (clsI LO2 HI2 g2 MK2 P2) ∧ (lfc P2 m2))) := by
  refine ab_F_of (by decide +kernel) (Nat.le_of_ble_eq_true rfl) ?_
  obtain ⟨Q, hQ⟩ : ∃ z : Outcome → ab_G → Prop, z = (fun oc G2 => (∃ a2 : Int, ∃ f2 : Int, ∃ p2 : Int, ∃ v2 : Int, ∃ nt2 : Int, ∃ w2 : Int, ∃ g2 : Int, ∃ LO2 : Int → Int, ∃ HI2 : Int → Int, ∃ MK2 : Int → Int, oc = .returned none ∧ fx o o [280, 287, 288, 293] G G2 ∧ G2.length = G.length ∧ ab_slots G2 = ab_slots G ∧ cc o G2 80 280 (ab_ob 12 (mof m_thrown m_taped m_length m_out w2 g2 m_sets m_ranges m_nodes a2 m_flags f2 p2 m_numbered m_depth v2 nt2 m_least0 m_most0 m_slot m_work m_got m_rowMany m_charAt m_charWide m_trail m_isMatch m_matchGroups m_allFrom m_allBefore m_founds m_pieces m_writtenMany m_templateWide m_tooMuch)) ∧ cc o G2 87 287 (za 9000 LO2) ∧ cc o G2 88 288 (za 9000 HI2) ∧ cc o G2 93 293 (zb 1200 MK2) ∧ (1 ≤ f2 ∧ f2 ≤ 14 ∧ 0 ≤ a2 ∧ a2 ≤ 4000 ∧ -2147483648 ≤ v2 ∧ v2 ≤ 2147483647 ∧ 0 ≤ g2 ∧ g2 ≤ 6710) ∧ (rgs MK2 1200 0 1)) ∨ (∃ a2 : Int, ∃ v2 : Int, ∃ nt2 : Int, ∃ w2 : Int, ∃ g2 : Int, ∃ m2 : Int, ∃ LO2 : Int → Int, ∃ HI2 : Int → Int, ∃ MK2 : Int → Int, ∃ P2 : Int → Prop, oc = .returned none ∧ fx o o [280, 287, 288, 293] G G2 ∧ G2.length = G.length ∧ ab_slots G2 = ab_slots G ∧ cc o G2 80 280 (ab_ob 12 (mof m_thrown m_taped m_length m_out w2 g2 m_sets m_ranges m_nodes a2 m_flags m_fault m_place m_numbered m_depth v2 nt2 m_least0 m_most0 m_slot m_work m_got m_rowMany m_charAt m_charWide m_trail m_isMatch m_matchGroups m_allFrom m_allBefore m_founds m_pieces m_writtenMany m_templateWide m_tooMuch)) ∧ cc o G2 87 287 (za 9000 LO2) ∧ cc o G2 88 288 (za 9000 HI2) ∧ cc o G2 93 293 (zb 1200 MK2) ∧ (m_at + 1 ≤ a2 ∧ a2 ≤ m_taped ∧ -2147483648 ≤ v2 ∧ v2 ≤ 2147483647 ∧ m_gathered ≤ g2 ∧ 3 * g2 ≤ 3 * m_gathered + 10 * (a2 - m_at) ∧ mm ≤ m2 ∧ m2 ≤ mm + 11 * (a2 - m_at)) ∧ (rgs MK2 1200 0 1) ∧ (clsI LO2 HI2 g2 MK2 P2) ∧ (lfc P2 m2))) := ⟨_, rfl⟩
  rw [← hQ]
  change ab_W X (ab_pl y_MO_item b_MO_item 4 none) d G 0 [some (vR 80), none, none, none] [] Q
  have hfr : fx o o [280, 287, 288, 293] G G := fx.rf
  have hlen : G.length = G.length := rfl
  have hsl : ab_slots G = ab_slots G := rfl
  refine ab_aload_n d_MO_item_0 rfl ?_
  refine ab_getf (fs := mof m_thrown m_taped m_length m_out m_wide m_gathered m_sets m_ranges m_nodes m_at m_flags m_fault m_place m_numbered m_depth m_value m_isNot m_least0 m_most0 m_slot m_work m_got m_rowMany m_charAt m_charWide m_trail m_isMatch m_matchGroups m_allFrom m_allBefore m_founds m_pieces m_writtenMany m_templateWide m_tooMuch) f_MO_279 d_MO_item_1 h80.2.2 rfl ?_
  refine ab_istore_n d_MO_item_4 (Nat.le_of_ble_eq_true rfl) (Nat.le_of_ble_eq_true rfl) rfl ?_
  change ab_W _ _ _ G 5 [some (vR 80), some (vz m_at), none, none] [] _
  refine ab_aload_n d_MO_item_5 rfl ?_
  refine zz_iconst d_MO_item_6 ?_
  refine ab_callV (d' := d - 1) (as := [vz 0]) (st := []) (r := _) (z_MO_here (o := o) (m_thrown := m_thrown) (m_taped := m_taped) (m_length := m_length) (m_out := m_out) (m_wide := m_wide) (m_gathered := m_gathered) (m_sets := m_sets) (m_ranges := m_ranges) (m_nodes := m_nodes) (m_at := m_at) (m_flags := m_flags) (m_fault := m_fault) (m_place := m_place) (m_numbered := m_numbered) (m_depth := m_depth) (m_value := m_value) (m_isNot := m_isNot) (m_least0 := m_least0) (m_most0 := m_most0) (m_slot := m_slot) (m_work := m_work) (m_got := m_got) (m_rowMany := m_rowMany) (m_charAt := m_charAt) (m_charWide := m_charWide) (m_trail := m_trail) (m_isMatch := m_isMatch) (m_matchGroups := m_matchGroups) (m_allFrom := m_allFrom) (m_allBefore := m_allBefore) (m_founds := m_founds) (m_pieces := m_pieces) (m_writtenMany := m_writtenMany) (m_templateWide := m_templateWide) (m_tooMuch := m_tooMuch) (A_tape := A_tape) (k := 0) h80 h84 (by omega) (by omega) jtp (by omega)) (fun oc G2 h => by rcases h with ⟨h, _⟩ | ⟨h, _⟩ <;> exact ⟨_, h⟩) (by omega) m_MO_here ml_MO_297 im_MO_here se_MO_here c_MO h80.2.2 (Nat.le_of_ble_eq_true rfl) d_MO_item_7 rfl ?_
  intro v G1 hq
  rcases hq with ⟨hv, hGe, hq2⟩ | ⟨hv, hGe, hq3⟩
  · cases hv
    rw [hGe]
    change ab_W _ _ _ G 10 [some (vR 80), some (vz m_at), none, none] [vz (A_tape (m_at + 0))] _
    refine zz_bipush d_MO_item_10 (by decide) ?_
    refine zz_icmp_ne (tgt := 30) d_MO_item_12 (by decide) (by omega) (by decide) (fun c4 => ?_) (fun c4 => ?_)
    · refine ab_aload_n d_MO_item_30 rfl ?_
      refine zz_iconst d_MO_item_31 ?_
      refine ab_callV (d' := d - 1) (as := [vz 0]) (st := []) (r := _) (z_MO_here (o := o) (m_thrown := m_thrown) (m_taped := m_taped) (m_length := m_length) (m_out := m_out) (m_wide := m_wide) (m_gathered := m_gathered) (m_sets := m_sets) (m_ranges := m_ranges) (m_nodes := m_nodes) (m_at := m_at) (m_flags := m_flags) (m_fault := m_fault) (m_place := m_place) (m_numbered := m_numbered) (m_depth := m_depth) (m_value := m_value) (m_isNot := m_isNot) (m_least0 := m_least0) (m_most0 := m_most0) (m_slot := m_slot) (m_work := m_work) (m_got := m_got) (m_rowMany := m_rowMany) (m_charAt := m_charAt) (m_charWide := m_charWide) (m_trail := m_trail) (m_isMatch := m_isMatch) (m_matchGroups := m_matchGroups) (m_allFrom := m_allFrom) (m_allBefore := m_allBefore) (m_founds := m_founds) (m_pieces := m_pieces) (m_writtenMany := m_writtenMany) (m_templateWide := m_templateWide) (m_tooMuch := m_tooMuch) (A_tape := A_tape) (k := 0) h80 h84 (by omega) (by omega) jtp (by omega)) (fun oc G2 h => by rcases h with ⟨h, _⟩ | ⟨h, _⟩ <;> exact ⟨_, h⟩) (by omega) m_MO_here ml_MO_297 im_MO_here se_MO_here c_MO h80.2.2 (Nat.le_of_ble_eq_true rfl) d_MO_item_32 rfl ?_
      intro v G5 hq
      rcases hq with ⟨hv, hGe, hq6⟩ | ⟨hv, hGe, hq7⟩
      · cases hv
        rw [hGe]
        change ab_W _ _ _ G 35 [some (vR 80), some (vz m_at), none, none] [vz (A_tape (m_at + 0))] _
        refine zz_bipush d_MO_item_35 (by decide) ?_
        refine zz_icmp_ne (tgt := 76) d_MO_item_37 (by decide) (by omega) (by decide) (fun c8 => ?_) (fun c8 => ?_)
        · refine ab_aload_n d_MO_item_76 rfl ?_
          refine ab_callV (d' := d - 1) (as := []) (st := []) (r := _) (z_MO_plain (o := o) (m_thrown := m_thrown) (m_taped := m_taped) (m_length := m_length) (m_out := m_out) (m_wide := m_wide) (m_gathered := m_gathered) (m_sets := m_sets) (m_ranges := m_ranges) (m_nodes := m_nodes) (m_at := m_at) (m_flags := m_flags) (m_fault := m_fault) (m_place := m_place) (m_numbered := m_numbered) (m_depth := m_depth) (m_value := m_value) (m_isNot := m_isNot) (m_least0 := m_least0) (m_most0 := m_most0) (m_slot := m_slot) (m_work := m_work) (m_got := m_got) (m_rowMany := m_rowMany) (m_charAt := m_charAt) (m_charWide := m_charWide) (m_trail := m_trail) (m_isMatch := m_isMatch) (m_matchGroups := m_matchGroups) (m_allFrom := m_allFrom) (m_allBefore := m_allBefore) (m_founds := m_founds) (m_pieces := m_pieces) (m_writtenMany := m_writtenMany) (m_templateWide := m_templateWide) (m_tooMuch := m_tooMuch) (A_tape := A_tape) h80 h84 (by omega) (by omega) jtp (by omega) (by omega) (by omega)) (fun oc G2 h => by rcases h with ⟨_, _, _, h, _⟩ | ⟨_, _, _, h, _⟩ <;> exact ⟨_, h⟩) (by omega) m_MO_plain ml_MO_348 im_MO_plain se_MO_plain c_MO h80.2.2 (Nat.le_of_ble_eq_true rfl) d_MO_item_77 rfl ?_
          intro v G9 hq
          rcases hq with ⟨w210, f211, p212, hv, hfk, hlk, hsk, hN80, hq13⟩ | ⟨v14, w215, a216, hv, hfk, hlk, hsk, hN80, hq17⟩
          · cases hv
            have h84 := hfk.get h84 (by decide)
            have h93 := hfk.get h93 (by decide)
            have h87 := hfk.get h87 (by decide)
            have h88 := hfk.get h88 (by decide)
            have h81 := hfk.get h81 (by decide)
            have h82 := hfk.get h82 (by decide)
            have hfr := hfr.tr hfk (by decide)
            have hlen := hlk.trans hlen
            have hsl := hsk.trans hsl
            have h80 := hN80
            change ab_W _ _ _ G9 80 [some (vR 80), some (vz m_at), none, none] [vz (-1)] _
            refine ab_istore_n d_MO_item_80 (Nat.le_of_ble_eq_true rfl) (Nat.le_of_ble_eq_true rfl) rfl ?_
            change ab_W _ _ _ G9 81 [some (vR 80), some (vz m_at), some (vz (-1)), none] [] _
            refine ab_iload_n d_MO_item_81 rfl ?_
            refine ab_istore_n d_MO_item_82 (Nat.le_of_ble_eq_true rfl) (Nat.le_of_ble_eq_true rfl) rfl ?_
            change ab_W _ _ _ G9 83 [some (vR 80), some (vz m_at), some (vz (-1)), some (vz (-1))] [] _
            refine ab_aload_n d_MO_item_83 rfl ?_
            refine ab_getf (fs := mof m_thrown m_taped m_length m_out w210 m_gathered m_sets m_ranges m_nodes m_at m_flags f211 p212 m_numbered m_depth m_value m_isNot m_least0 m_most0 m_slot m_work m_got m_rowMany m_charAt m_charWide m_trail m_isMatch m_matchGroups m_allFrom m_allBefore m_founds m_pieces m_writtenMany m_templateWide m_tooMuch) f_MO_273 d_MO_item_84 h80.2.2 rfl ?_
            refine zz_if_ne (tgt := 153) d_MO_item_87 (by decide) (by omega) (fun c18 => ?_) (fun c18 => absurd c18 (by omega))
            refine ab_aload_n d_MO_item_153 rfl ?_
            refine ab_getf (fs := mof m_thrown m_taped m_length m_out w210 m_gathered m_sets m_ranges m_nodes m_at m_flags f211 p212 m_numbered m_depth m_value m_isNot m_least0 m_most0 m_slot m_work m_got m_rowMany m_charAt m_charWide m_trail m_isMatch m_matchGroups m_allFrom m_allBefore m_founds m_pieces m_writtenMany m_templateWide m_tooMuch) f_MO_273 d_MO_item_154 h80.2.2 rfl ?_
            refine zz_if_ne (tgt := 171) d_MO_item_157 (by decide) (by omega) (fun c19 => ?_) (fun c19 => absurd c19 (by omega))
            refine ab_vret rfl d_MO_item_171 ?_
            rw [hQ]; exact (Or.inl ⟨_, _, _, _, _, _, _, _, _, _, rfl, hfr, hlen, hsl, h80, h87, h88, h93, (by omega), (by first | exact jmk | exact rgs_w jmk (by omega))⟩)
          · cases hv
            have h84 := hfk.get h84 (by decide)
            have h93 := hfk.get h93 (by decide)
            have h87 := hfk.get h87 (by decide)
            have h88 := hfk.get h88 (by decide)
            have h81 := hfk.get h81 (by decide)
            have h82 := hfk.get h82 (by decide)
            have hfr := hfr.tr hfk (by decide)
            have hlen := hlk.trans hlen
            have hsl := hsk.trans hsl
            have h80 := hN80
            change ab_W _ _ _ G9 80 [some (vR 80), some (vz m_at), none, none] [vz v14] _
            refine ab_istore_n d_MO_item_80 (Nat.le_of_ble_eq_true rfl) (Nat.le_of_ble_eq_true rfl) rfl ?_
            change ab_W _ _ _ G9 81 [some (vR 80), some (vz m_at), some (vz v14), none] [] _
            refine ab_iload_n d_MO_item_81 rfl ?_
            refine ab_istore_n d_MO_item_82 (Nat.le_of_ble_eq_true rfl) (Nat.le_of_ble_eq_true rfl) rfl ?_
            change ab_W _ _ _ G9 83 [some (vR 80), some (vz m_at), some (vz v14), some (vz v14)] [] _
            refine ab_aload_n d_MO_item_83 rfl ?_
            refine ab_getf (fs := mof m_thrown m_taped m_length m_out w215 m_gathered m_sets m_ranges m_nodes a216 m_flags m_fault m_place m_numbered m_depth m_value m_isNot m_least0 m_most0 m_slot m_work m_got m_rowMany m_charAt m_charWide m_trail m_isMatch m_matchGroups m_allFrom m_allBefore m_founds m_pieces m_writtenMany m_templateWide m_tooMuch) f_MO_273 d_MO_item_84 h80.2.2 rfl ?_
            refine zz_if_ne (tgt := 153) d_MO_item_87 (by decide) (by omega) (fun c20 => absurd c20 (by omega)) (fun c20 => ?_)
            refine ab_aload_n d_MO_item_90 rfl ?_
            refine zz_iconst d_MO_item_91 ?_
            refine ab_callV (d' := d - 1) (as := [vz 0]) (st := []) (r := _) (z_MO_here (o := o) (m_thrown := m_thrown) (m_taped := m_taped) (m_length := m_length) (m_out := m_out) (m_wide := w215) (m_gathered := m_gathered) (m_sets := m_sets) (m_ranges := m_ranges) (m_nodes := m_nodes) (m_at := a216) (m_flags := m_flags) (m_fault := m_fault) (m_place := m_place) (m_numbered := m_numbered) (m_depth := m_depth) (m_value := m_value) (m_isNot := m_isNot) (m_least0 := m_least0) (m_most0 := m_most0) (m_slot := m_slot) (m_work := m_work) (m_got := m_got) (m_rowMany := m_rowMany) (m_charAt := m_charAt) (m_charWide := m_charWide) (m_trail := m_trail) (m_isMatch := m_isMatch) (m_matchGroups := m_matchGroups) (m_allFrom := m_allFrom) (m_allBefore := m_allBefore) (m_founds := m_founds) (m_pieces := m_pieces) (m_writtenMany := m_writtenMany) (m_templateWide := m_templateWide) (m_tooMuch := m_tooMuch) (A_tape := A_tape) (k := 0) h80 h84 (by omega) (by omega) jtp (by omega)) (fun oc G2 h => by rcases h with ⟨h, _⟩ | ⟨h, _⟩ <;> exact ⟨_, h⟩) (by omega) m_MO_here ml_MO_297 im_MO_here se_MO_here c_MO h80.2.2 (Nat.le_of_ble_eq_true rfl) d_MO_item_92 rfl ?_
            intro v G21 hq
            rcases hq with ⟨hv, hGe, hq22⟩ | ⟨hv, hGe, hq23⟩
            · cases hv
              rw [hGe]
              change ab_W _ _ _ G9 95 [some (vR 80), some (vz m_at), some (vz v14), some (vz v14)] [vz (A_tape (a216 + 0))] _
              refine zz_bipush d_MO_item_95 (by decide) ?_
              refine zz_icmp_ne (tgt := 153) d_MO_item_97 (by decide) (by omega) (by decide) (fun c24 => ?_) (fun c24 => ?_)
              · refine ab_aload_n d_MO_item_153 rfl ?_
                refine ab_getf (fs := mof m_thrown m_taped m_length m_out w215 m_gathered m_sets m_ranges m_nodes a216 m_flags m_fault m_place m_numbered m_depth m_value m_isNot m_least0 m_most0 m_slot m_work m_got m_rowMany m_charAt m_charWide m_trail m_isMatch m_matchGroups m_allFrom m_allBefore m_founds m_pieces m_writtenMany m_templateWide m_tooMuch) f_MO_273 d_MO_item_154 h80.2.2 rfl ?_
                refine zz_if_ne (tgt := 171) d_MO_item_157 (by decide) (by omega) (fun c25 => absurd c25 (by omega)) (fun c25 => ?_)
                refine ab_aload_n d_MO_item_160 rfl ?_
                refine ab_iload_n d_MO_item_161 rfl ?_
                refine ab_iload_n d_MO_item_162 rfl ?_
                refine ab_aload_n d_MO_item_163 rfl ?_
                refine zz_iconst d_MO_item_164 ?_
                refine ab_callV (d' := d - 1) (as := [vz 1]) (st := [vz v14, vz v14, vR 80]) (r := _) (z_MO_has (o := o) (m_thrown := m_thrown) (m_taped := m_taped) (m_length := m_length) (m_out := m_out) (m_wide := w215) (m_gathered := m_gathered) (m_sets := m_sets) (m_ranges := m_ranges) (m_nodes := m_nodes) (m_at := a216) (m_flags := m_flags) (m_fault := m_fault) (m_place := m_place) (m_numbered := m_numbered) (m_depth := m_depth) (m_value := m_value) (m_isNot := m_isNot) (m_least0 := m_least0) (m_most0 := m_most0) (m_slot := m_slot) (m_work := m_work) (m_got := m_got) (m_rowMany := m_rowMany) (m_charAt := m_charAt) (m_charWide := m_charWide) (m_trail := m_trail) (m_isMatch := m_isMatch) (m_matchGroups := m_matchGroups) (m_allFrom := m_allFrom) (m_allBefore := m_allBefore) (m_founds := m_founds) (m_pieces := m_pieces) (m_writtenMany := m_writtenMany) (m_templateWide := m_templateWide) (m_tooMuch := m_tooMuch) (x := 1) h80) (fun oc G2 h => by rcases h with ⟨_, h, _⟩ <;> exact ⟨_, h⟩) (by omega) m_MO_has ml_MO_355 im_MO_has se_MO_has c_MO h80.2.2 (Nat.le_of_ble_eq_true rfl) d_MO_item_165 rfl ?_
                intro v G26 hq
                rcases hq with ⟨v27, hv, hGe, hq28⟩
                cases hv
                rw [hGe]
                change ab_W _ _ _ G9 168 [some (vR 80), some (vz m_at), some (vz v14), some (vz v14)] [vz v27, vz v14, vz v14, vR 80] _
                refine ab_callV (d' := d - 1) (as := [vz v14, vz v14, vz v27]) (st := []) (r := _) (z_MO_gatherLike (o := o) (m_thrown := m_thrown) (m_taped := m_taped) (m_length := m_length) (m_out := m_out) (m_wide := w215) (m_gathered := m_gathered) (m_sets := m_sets) (m_ranges := m_ranges) (m_nodes := m_nodes) (m_at := a216) (m_flags := m_flags) (m_fault := m_fault) (m_place := m_place) (m_numbered := m_numbered) (m_depth := m_depth) (m_value := m_value) (m_isNot := m_isNot) (m_least0 := m_least0) (m_most0 := m_most0) (m_slot := m_slot) (m_work := m_work) (m_got := m_got) (m_rowMany := m_rowMany) (m_charAt := m_charAt) (m_charWide := m_charWide) (m_trail := m_trail) (m_isMatch := m_isMatch) (m_matchGroups := m_matchGroups) (m_allFrom := m_allFrom) (m_allBefore := m_allBefore) (m_founds := m_founds) (m_pieces := m_pieces) (m_writtenMany := m_writtenMany) (m_templateWide := m_templateWide) (m_tooMuch := m_tooMuch) (LO := LO) (HI := HI) (MK := MK) (P := P) (a := v14) (b := v14) (lk := v27) h80 h87 h88 h93 (by omega) (by omega) (by omega) (by omega) jmk jc (by omega)) (fun oc G2 h => by rcases h with ⟨_, _, _, h, _⟩ <;> exact ⟨_, h⟩) (by omega) m_MO_gatherLike ml_MO_358 im_MO_gatherLike se_MO_gatherLike c_MO h80.2.2 (Nat.le_of_ble_eq_true rfl) d_MO_item_168 rfl ?_
                intro v G29 hq
                rcases hq with ⟨LO230, HI231, MK232, hv, hfk, hlk, hsk, hN80, hN87, hN88, hN93, hq33, hq34⟩
                cases hv
                have h84 := hfk.get h84 (by decide)
                have h81 := hfk.get h81 (by decide)
                have h82 := hfk.get h82 (by decide)
                have hfr := hfr.tr hfk (by decide)
                have hlen := hlk.trans hlen
                have hsl := hsk.trans hsl
                have h80 := hN80
                have h87 := hN87
                have h88 := hN88
                have h93 := hN93
                change ab_W _ _ _ G29 171 [some (vR 80), some (vz m_at), some (vz v14), some (vz v14)] [] _
                refine ab_vret rfl d_MO_item_171 ?_
                rw [hQ]; exact (Or.inr ⟨_, _, _, _, _, (mm + 11), _, _, _, (fun x => P x ∨ lkS v27 v14 v14 x), rfl, hfr, hlen, hsl, h80, h87, h88, h93, (by omega), (by first | exact hq33 | exact rgs_w hq33 (by omega)), (by exact hq34), (by exact lfc_or jl (lfc_lk1 (by omega) (by omega)))⟩)
              · refine ab_aload_n d_MO_item_100 rfl ?_
                refine zz_iconst d_MO_item_101 ?_
                refine ab_callV (d' := d - 1) (as := [vz 1]) (st := []) (r := _) (z_MO_here (o := o) (m_thrown := m_thrown) (m_taped := m_taped) (m_length := m_length) (m_out := m_out) (m_wide := w215) (m_gathered := m_gathered) (m_sets := m_sets) (m_ranges := m_ranges) (m_nodes := m_nodes) (m_at := a216) (m_flags := m_flags) (m_fault := m_fault) (m_place := m_place) (m_numbered := m_numbered) (m_depth := m_depth) (m_value := m_value) (m_isNot := m_isNot) (m_least0 := m_least0) (m_most0 := m_most0) (m_slot := m_slot) (m_work := m_work) (m_got := m_got) (m_rowMany := m_rowMany) (m_charAt := m_charAt) (m_charWide := m_charWide) (m_trail := m_trail) (m_isMatch := m_isMatch) (m_matchGroups := m_matchGroups) (m_allFrom := m_allFrom) (m_allBefore := m_allBefore) (m_founds := m_founds) (m_pieces := m_pieces) (m_writtenMany := m_writtenMany) (m_templateWide := m_templateWide) (m_tooMuch := m_tooMuch) (A_tape := A_tape) (k := 1) h80 h84 (by omega) (by omega) jtp (by omega)) (fun oc G2 h => by rcases h with ⟨h, _⟩ | ⟨h, _⟩ <;> exact ⟨_, h⟩) (by omega) m_MO_here ml_MO_297 im_MO_here se_MO_here c_MO h80.2.2 (Nat.le_of_ble_eq_true rfl) d_MO_item_102 rfl ?_
                intro v G35 hq
                rcases hq with ⟨hv, hGe, hq36⟩ | ⟨hv, hGe, hq37⟩
                · cases hv
                  rw [hGe]
                  change ab_W _ _ _ G9 105 [some (vR 80), some (vz m_at), some (vz v14), some (vz v14)] [vz (A_tape (a216 + 1))] _
                  refine zz_if_lt (tgt := 153) d_MO_item_105 (by decide) (by omega) (fun c38 => absurd c38 (by omega)) (fun c38 => ?_)
                  refine ab_aload_n d_MO_item_108 rfl ?_
                  refine zz_iconst d_MO_item_109 ?_
                  refine ab_callV (d' := d - 1) (as := [vz 1]) (st := []) (r := _) (z_MO_here (o := o) (m_thrown := m_thrown) (m_taped := m_taped) (m_length := m_length) (m_out := m_out) (m_wide := w215) (m_gathered := m_gathered) (m_sets := m_sets) (m_ranges := m_ranges) (m_nodes := m_nodes) (m_at := a216) (m_flags := m_flags) (m_fault := m_fault) (m_place := m_place) (m_numbered := m_numbered) (m_depth := m_depth) (m_value := m_value) (m_isNot := m_isNot) (m_least0 := m_least0) (m_most0 := m_most0) (m_slot := m_slot) (m_work := m_work) (m_got := m_got) (m_rowMany := m_rowMany) (m_charAt := m_charAt) (m_charWide := m_charWide) (m_trail := m_trail) (m_isMatch := m_isMatch) (m_matchGroups := m_matchGroups) (m_allFrom := m_allFrom) (m_allBefore := m_allBefore) (m_founds := m_founds) (m_pieces := m_pieces) (m_writtenMany := m_writtenMany) (m_templateWide := m_templateWide) (m_tooMuch := m_tooMuch) (A_tape := A_tape) (k := 1) h80 h84 (by omega) (by omega) jtp (by omega)) (fun oc G2 h => by rcases h with ⟨h, _⟩ | ⟨h, _⟩ <;> exact ⟨_, h⟩) (by omega) m_MO_here ml_MO_297 im_MO_here se_MO_here c_MO h80.2.2 (Nat.le_of_ble_eq_true rfl) d_MO_item_110 rfl ?_
                  intro v G39 hq
                  rcases hq with ⟨hv, hGe, hq40⟩ | ⟨hv, hGe, hq41⟩
                  · cases hv
                    rw [hGe]
                    change ab_W _ _ _ G9 113 [some (vR 80), some (vz m_at), some (vz v14), some (vz v14)] [vz (A_tape (a216 + 1))] _
                    refine zz_bipush d_MO_item_113 (by decide) ?_
                    refine zz_icmp_eq (tgt := 153) d_MO_item_115 (by decide) (by omega) (by decide) (fun c42 => ?_) (fun c42 => ?_)
                    · refine ab_aload_n d_MO_item_153 rfl ?_
                      refine ab_getf (fs := mof m_thrown m_taped m_length m_out w215 m_gathered m_sets m_ranges m_nodes a216 m_flags m_fault m_place m_numbered m_depth m_value m_isNot m_least0 m_most0 m_slot m_work m_got m_rowMany m_charAt m_charWide m_trail m_isMatch m_matchGroups m_allFrom m_allBefore m_founds m_pieces m_writtenMany m_templateWide m_tooMuch) f_MO_273 d_MO_item_154 h80.2.2 rfl ?_
                      refine zz_if_ne (tgt := 171) d_MO_item_157 (by decide) (by omega) (fun c43 => absurd c43 (by omega)) (fun c43 => ?_)
                      refine ab_aload_n d_MO_item_160 rfl ?_
                      refine ab_iload_n d_MO_item_161 rfl ?_
                      refine ab_iload_n d_MO_item_162 rfl ?_
                      refine ab_aload_n d_MO_item_163 rfl ?_
                      refine zz_iconst d_MO_item_164 ?_
                      refine ab_callV (d' := d - 1) (as := [vz 1]) (st := [vz v14, vz v14, vR 80]) (r := _) (z_MO_has (o := o) (m_thrown := m_thrown) (m_taped := m_taped) (m_length := m_length) (m_out := m_out) (m_wide := w215) (m_gathered := m_gathered) (m_sets := m_sets) (m_ranges := m_ranges) (m_nodes := m_nodes) (m_at := a216) (m_flags := m_flags) (m_fault := m_fault) (m_place := m_place) (m_numbered := m_numbered) (m_depth := m_depth) (m_value := m_value) (m_isNot := m_isNot) (m_least0 := m_least0) (m_most0 := m_most0) (m_slot := m_slot) (m_work := m_work) (m_got := m_got) (m_rowMany := m_rowMany) (m_charAt := m_charAt) (m_charWide := m_charWide) (m_trail := m_trail) (m_isMatch := m_isMatch) (m_matchGroups := m_matchGroups) (m_allFrom := m_allFrom) (m_allBefore := m_allBefore) (m_founds := m_founds) (m_pieces := m_pieces) (m_writtenMany := m_writtenMany) (m_templateWide := m_templateWide) (m_tooMuch := m_tooMuch) (x := 1) h80) (fun oc G2 h => by rcases h with ⟨_, h, _⟩ <;> exact ⟨_, h⟩) (by omega) m_MO_has ml_MO_355 im_MO_has se_MO_has c_MO h80.2.2 (Nat.le_of_ble_eq_true rfl) d_MO_item_165 rfl ?_
                      intro v G44 hq
                      rcases hq with ⟨v45, hv, hGe, hq46⟩
                      cases hv
                      rw [hGe]
                      change ab_W _ _ _ G9 168 [some (vR 80), some (vz m_at), some (vz v14), some (vz v14)] [vz v45, vz v14, vz v14, vR 80] _
                      refine ab_callV (d' := d - 1) (as := [vz v14, vz v14, vz v45]) (st := []) (r := _) (z_MO_gatherLike (o := o) (m_thrown := m_thrown) (m_taped := m_taped) (m_length := m_length) (m_out := m_out) (m_wide := w215) (m_gathered := m_gathered) (m_sets := m_sets) (m_ranges := m_ranges) (m_nodes := m_nodes) (m_at := a216) (m_flags := m_flags) (m_fault := m_fault) (m_place := m_place) (m_numbered := m_numbered) (m_depth := m_depth) (m_value := m_value) (m_isNot := m_isNot) (m_least0 := m_least0) (m_most0 := m_most0) (m_slot := m_slot) (m_work := m_work) (m_got := m_got) (m_rowMany := m_rowMany) (m_charAt := m_charAt) (m_charWide := m_charWide) (m_trail := m_trail) (m_isMatch := m_isMatch) (m_matchGroups := m_matchGroups) (m_allFrom := m_allFrom) (m_allBefore := m_allBefore) (m_founds := m_founds) (m_pieces := m_pieces) (m_writtenMany := m_writtenMany) (m_templateWide := m_templateWide) (m_tooMuch := m_tooMuch) (LO := LO) (HI := HI) (MK := MK) (P := P) (a := v14) (b := v14) (lk := v45) h80 h87 h88 h93 (by omega) (by omega) (by omega) (by omega) jmk jc (by omega)) (fun oc G2 h => by rcases h with ⟨_, _, _, h, _⟩ <;> exact ⟨_, h⟩) (by omega) m_MO_gatherLike ml_MO_358 im_MO_gatherLike se_MO_gatherLike c_MO h80.2.2 (Nat.le_of_ble_eq_true rfl) d_MO_item_168 rfl ?_
                      intro v G47 hq
                      rcases hq with ⟨LO248, HI249, MK250, hv, hfk, hlk, hsk, hN80, hN87, hN88, hN93, hq51, hq52⟩
                      cases hv
                      have h84 := hfk.get h84 (by decide)
                      have h81 := hfk.get h81 (by decide)
                      have h82 := hfk.get h82 (by decide)
                      have hfr := hfr.tr hfk (by decide)
                      have hlen := hlk.trans hlen
                      have hsl := hsk.trans hsl
                      have h80 := hN80
                      have h87 := hN87
                      have h88 := hN88
                      have h93 := hN93
                      change ab_W _ _ _ G47 171 [some (vR 80), some (vz m_at), some (vz v14), some (vz v14)] [] _
                      refine ab_vret rfl d_MO_item_171 ?_
                      rw [hQ]; exact (Or.inr ⟨_, _, _, _, _, (mm + 11), _, _, _, (fun x => P x ∨ lkS v45 v14 v14 x), rfl, hfr, hlen, hsl, h80, h87, h88, h93, (by omega), (by first | exact hq51 | exact rgs_w hq51 (by omega)), (by exact hq52), (by exact lfc_or jl (lfc_lk1 (by omega) (by omega)))⟩)
                    · refine ab_aload_n d_MO_item_118 rfl ?_
                      refine ab_dup d_MO_item_119 rfl ?_
                      refine ab_getf (fs := mof m_thrown m_taped m_length m_out w215 m_gathered m_sets m_ranges m_nodes a216 m_flags m_fault m_place m_numbered m_depth m_value m_isNot m_least0 m_most0 m_slot m_work m_got m_rowMany m_charAt m_charWide m_trail m_isMatch m_matchGroups m_allFrom m_allBefore m_founds m_pieces m_writtenMany m_templateWide m_tooMuch) f_MO_279 d_MO_item_120 h80.2.2 rfl ?_
                      refine zz_iconst d_MO_item_123 ?_
                      refine zz_iadd d_MO_item_124 ?_
                      refine ab_putf (fs := mof m_thrown m_taped m_length m_out w215 m_gathered m_sets m_ranges m_nodes a216 m_flags m_fault m_place m_numbered m_depth m_value m_isNot m_least0 m_most0 m_slot m_work m_got m_rowMany m_charAt m_charWide m_trail m_isMatch m_matchGroups m_allFrom m_allBefore m_founds m_pieces m_writtenMany m_templateWide m_tooMuch) f_MO_279 (Or.inl rfl) d_MO_item_125 h80.2.2 (Nat.le_of_ble_eq_true rfl) (fun _ => ⟨rfl, rfl⟩) (h80.2.1 (by decide)) ?_
                      obtain ⟨G53, eG53⟩ : ∃ z : ab_G, z = List.set G9 80 (ab_ob 12 (mof m_thrown m_taped m_length m_out w215 m_gathered m_sets m_ranges m_nodes (a216 + 1) m_flags m_fault m_place m_numbered m_depth m_value m_isNot m_least0 m_most0 m_slot m_work m_got m_rowMany m_charAt m_charWide m_trail m_isMatch m_matchGroups m_allFrom m_allBefore m_founds m_pieces m_writtenMany m_templateWide m_tooMuch)) := ⟨_, rfl⟩
                      have h84 := h84.keep h80 eG53 (by decide)
                      have h93 := h93.keep h80 eG53 (by decide)
                      have h87 := h87.keep h80 eG53 (by decide)
                      have h88 := h88.keep h80 eG53 (by decide)
                      have h81 := h81.keep h80 eG53 (by decide)
                      have h82 := h82.keep h80 eG53 (by decide)
                      have hlen := (z_len eG53).trans hlen
                      have hsl := (z_sl h80 eG53 rfl).trans hsl
                      have hfr := hfr.wr h80 eG53 (by decide)
                      have h80 := h80.kept eG53
                      change ab_W _ _ _ (List.set G9 80 (ab_ob 12 (mof m_thrown m_taped m_length m_out w215 m_gathered m_sets m_ranges m_nodes (a216 + 1) m_flags m_fault m_place m_numbered m_depth m_value m_isNot m_least0 m_most0 m_slot m_work m_got m_rowMany m_charAt m_charWide m_trail m_isMatch m_matchGroups m_allFrom m_allBefore m_founds m_pieces m_writtenMany m_templateWide m_tooMuch))) 128 [some (vR 80), some (vz m_at), some (vz v14), some (vz v14)] [] _
                      rw [← eG53]
                      refine ab_aload_n d_MO_item_128 rfl ?_
                      refine ab_iload_n d_MO_item_129 rfl ?_
                      refine ab_callV (d' := d - 1) (as := [vz m_at]) (st := []) (r := _) (z_MO_rangeEnd (o := o) (m_thrown := m_thrown) (m_taped := m_taped) (m_length := m_length) (m_out := m_out) (m_wide := w215) (m_gathered := m_gathered) (m_sets := m_sets) (m_ranges := m_ranges) (m_nodes := m_nodes) (m_at := (a216 + 1)) (m_flags := m_flags) (m_fault := m_fault) (m_place := m_place) (m_numbered := m_numbered) (m_depth := m_depth) (m_value := m_value) (m_isNot := m_isNot) (m_least0 := m_least0) (m_most0 := m_most0) (m_slot := m_slot) (m_work := m_work) (m_got := m_got) (m_rowMany := m_rowMany) (m_charAt := m_charAt) (m_charWide := m_charWide) (m_trail := m_trail) (m_isMatch := m_isMatch) (m_matchGroups := m_matchGroups) (m_allFrom := m_allFrom) (m_allBefore := m_allBefore) (m_founds := m_founds) (m_pieces := m_pieces) (m_writtenMany := m_writtenMany) (m_templateWide := m_templateWide) (m_tooMuch := m_tooMuch) (A_tape := A_tape) (wh := m_at) h80 h84 (by omega) (by omega) jtp (by omega) (by omega) (by omega) (by omega)) (fun oc G2 h => by rcases h with ⟨_, _, _, _, _, _, _, h, _⟩ | ⟨_, _, _, _, h, _⟩ <;> exact ⟨_, h⟩) (by omega) m_MO_rangeEnd ml_MO_352 im_MO_rangeEnd se_MO_rangeEnd c_MO h80.2.2 (Nat.le_of_ble_eq_true rfl) d_MO_item_130 rfl ?_
                      intro v G54 hq
                      rcases hq with ⟨v55, a256, f257, p258, v259, nt260, w261, hv, hfk, hlk, hsk, hN80, hq62⟩ | ⟨v63, a264, v265, w266, hv, hfk, hlk, hsk, hN80, hq67⟩
                      · cases hv
                        have h84 := hfk.get h84 (by decide)
                        have h93 := hfk.get h93 (by decide)
                        have h87 := hfk.get h87 (by decide)
                        have h88 := hfk.get h88 (by decide)
                        have h81 := hfk.get h81 (by decide)
                        have h82 := hfk.get h82 (by decide)
                        have hfr := hfr.tr hfk (by decide)
                        have hlen := hlk.trans hlen
                        have hsl := hsk.trans hsl
                        have h80 := hN80
                        change ab_W _ _ _ G54 133 [some (vR 80), some (vz m_at), some (vz v14), some (vz v14)] [vz v55] _
                        refine ab_istore_n d_MO_item_133 (Nat.le_of_ble_eq_true rfl) (Nat.le_of_ble_eq_true rfl) rfl ?_
                        change ab_W _ _ _ G54 134 [some (vR 80), some (vz m_at), some (vz v14), some (vz v55)] [] _
                        refine ab_aload_n d_MO_item_134 rfl ?_
                        refine ab_getf (fs := mof m_thrown m_taped m_length m_out w261 m_gathered m_sets m_ranges m_nodes a256 m_flags f257 p258 m_numbered m_depth v259 nt260 m_least0 m_most0 m_slot m_work m_got m_rowMany m_charAt m_charWide m_trail m_isMatch m_matchGroups m_allFrom m_allBefore m_founds m_pieces m_writtenMany m_templateWide m_tooMuch) f_MO_273 d_MO_item_135 h80.2.2 rfl ?_
                        refine zz_if_ne (tgt := 153) d_MO_item_138 (by decide) (by omega) (fun c68 => ?_) (fun c68 => absurd c68 (by omega))
                        refine ab_aload_n d_MO_item_153 rfl ?_
                        refine ab_getf (fs := mof m_thrown m_taped m_length m_out w261 m_gathered m_sets m_ranges m_nodes a256 m_flags f257 p258 m_numbered m_depth v259 nt260 m_least0 m_most0 m_slot m_work m_got m_rowMany m_charAt m_charWide m_trail m_isMatch m_matchGroups m_allFrom m_allBefore m_founds m_pieces m_writtenMany m_templateWide m_tooMuch) f_MO_273 d_MO_item_154 h80.2.2 rfl ?_
                        refine zz_if_ne (tgt := 171) d_MO_item_157 (by decide) (by omega) (fun c69 => ?_) (fun c69 => absurd c69 (by omega))
                        refine ab_vret rfl d_MO_item_171 ?_
                        rw [hQ]; exact (Or.inl ⟨_, _, _, _, _, _, _, _, _, _, rfl, hfr, hlen, hsl, h80, h87, h88, h93, (by omega), (by first | exact jmk | exact rgs_w jmk (by omega))⟩)
                      · cases hv
                        have h84 := hfk.get h84 (by decide)
                        have h93 := hfk.get h93 (by decide)
                        have h87 := hfk.get h87 (by decide)
                        have h88 := hfk.get h88 (by decide)
                        have h81 := hfk.get h81 (by decide)
                        have h82 := hfk.get h82 (by decide)
                        have hfr := hfr.tr hfk (by decide)
                        have hlen := hlk.trans hlen
                        have hsl := hsk.trans hsl
                        have h80 := hN80
                        change ab_W _ _ _ G54 133 [some (vR 80), some (vz m_at), some (vz v14), some (vz v14)] [vz v63] _
                        refine ab_istore_n d_MO_item_133 (Nat.le_of_ble_eq_true rfl) (Nat.le_of_ble_eq_true rfl) rfl ?_
                        change ab_W _ _ _ G54 134 [some (vR 80), some (vz m_at), some (vz v14), some (vz v63)] [] _
                        refine ab_aload_n d_MO_item_134 rfl ?_
                        refine ab_getf (fs := mof m_thrown m_taped m_length m_out w266 m_gathered m_sets m_ranges m_nodes a264 m_flags m_fault m_place m_numbered m_depth v265 m_isNot m_least0 m_most0 m_slot m_work m_got m_rowMany m_charAt m_charWide m_trail m_isMatch m_matchGroups m_allFrom m_allBefore m_founds m_pieces m_writtenMany m_templateWide m_tooMuch) f_MO_273 d_MO_item_135 h80.2.2 rfl ?_
                        refine zz_if_ne (tgt := 153) d_MO_item_138 (by decide) (by omega) (fun c70 => absurd c70 (by omega)) (fun c70 => ?_)
                        refine ab_iload_n d_MO_item_141 rfl ?_
                        refine ab_iload_n d_MO_item_142 rfl ?_
                        refine zz_icmp_ge (tgt := 153) d_MO_item_143 (by decide) (by omega) (by omega) (fun c71 => ?_) (fun c71 => ?_)
                        · refine ab_aload_n d_MO_item_153 rfl ?_
                          refine ab_getf (fs := mof m_thrown m_taped m_length m_out w266 m_gathered m_sets m_ranges m_nodes a264 m_flags m_fault m_place m_numbered m_depth v265 m_isNot m_least0 m_most0 m_slot m_work m_got m_rowMany m_charAt m_charWide m_trail m_isMatch m_matchGroups m_allFrom m_allBefore m_founds m_pieces m_writtenMany m_templateWide m_tooMuch) f_MO_273 d_MO_item_154 h80.2.2 rfl ?_
                          refine zz_if_ne (tgt := 171) d_MO_item_157 (by decide) (by omega) (fun c72 => absurd c72 (by omega)) (fun c72 => ?_)
                          refine ab_aload_n d_MO_item_160 rfl ?_
                          refine ab_iload_n d_MO_item_161 rfl ?_
                          refine ab_iload_n d_MO_item_162 rfl ?_
                          refine ab_aload_n d_MO_item_163 rfl ?_
                          refine zz_iconst d_MO_item_164 ?_
                          refine ab_callV (d' := d - 1) (as := [vz 1]) (st := [vz v63, vz v14, vR 80]) (r := _) (z_MO_has (o := o) (m_thrown := m_thrown) (m_taped := m_taped) (m_length := m_length) (m_out := m_out) (m_wide := w266) (m_gathered := m_gathered) (m_sets := m_sets) (m_ranges := m_ranges) (m_nodes := m_nodes) (m_at := a264) (m_flags := m_flags) (m_fault := m_fault) (m_place := m_place) (m_numbered := m_numbered) (m_depth := m_depth) (m_value := v265) (m_isNot := m_isNot) (m_least0 := m_least0) (m_most0 := m_most0) (m_slot := m_slot) (m_work := m_work) (m_got := m_got) (m_rowMany := m_rowMany) (m_charAt := m_charAt) (m_charWide := m_charWide) (m_trail := m_trail) (m_isMatch := m_isMatch) (m_matchGroups := m_matchGroups) (m_allFrom := m_allFrom) (m_allBefore := m_allBefore) (m_founds := m_founds) (m_pieces := m_pieces) (m_writtenMany := m_writtenMany) (m_templateWide := m_templateWide) (m_tooMuch := m_tooMuch) (x := 1) h80) (fun oc G2 h => by rcases h with ⟨_, h, _⟩ <;> exact ⟨_, h⟩) (by omega) m_MO_has ml_MO_355 im_MO_has se_MO_has c_MO h80.2.2 (Nat.le_of_ble_eq_true rfl) d_MO_item_165 rfl ?_
                          intro v G73 hq
                          rcases hq with ⟨v74, hv, hGe, hq75⟩
                          cases hv
                          rw [hGe]
                          change ab_W _ _ _ G54 168 [some (vR 80), some (vz m_at), some (vz v14), some (vz v63)] [vz v74, vz v63, vz v14, vR 80] _
                          refine ab_callV (d' := d - 1) (as := [vz v14, vz v63, vz v74]) (st := []) (r := _) (z_MO_gatherLike (o := o) (m_thrown := m_thrown) (m_taped := m_taped) (m_length := m_length) (m_out := m_out) (m_wide := w266) (m_gathered := m_gathered) (m_sets := m_sets) (m_ranges := m_ranges) (m_nodes := m_nodes) (m_at := a264) (m_flags := m_flags) (m_fault := m_fault) (m_place := m_place) (m_numbered := m_numbered) (m_depth := m_depth) (m_value := v265) (m_isNot := m_isNot) (m_least0 := m_least0) (m_most0 := m_most0) (m_slot := m_slot) (m_work := m_work) (m_got := m_got) (m_rowMany := m_rowMany) (m_charAt := m_charAt) (m_charWide := m_charWide) (m_trail := m_trail) (m_isMatch := m_isMatch) (m_matchGroups := m_matchGroups) (m_allFrom := m_allFrom) (m_allBefore := m_allBefore) (m_founds := m_founds) (m_pieces := m_pieces) (m_writtenMany := m_writtenMany) (m_templateWide := m_templateWide) (m_tooMuch := m_tooMuch) (LO := LO) (HI := HI) (MK := MK) (P := P) (a := v14) (b := v63) (lk := v74) h80 h87 h88 h93 (by omega) (by omega) (by omega) (by omega) jmk jc (by omega)) (fun oc G2 h => by rcases h with ⟨_, _, _, h, _⟩ <;> exact ⟨_, h⟩) (by omega) m_MO_gatherLike ml_MO_358 im_MO_gatherLike se_MO_gatherLike c_MO h80.2.2 (Nat.le_of_ble_eq_true rfl) d_MO_item_168 rfl ?_
                          intro v G76 hq
                          rcases hq with ⟨LO277, HI278, MK279, hv, hfk, hlk, hsk, hN80, hN87, hN88, hN93, hq80, hq81⟩
                          cases hv
                          have h84 := hfk.get h84 (by decide)
                          have h81 := hfk.get h81 (by decide)
                          have h82 := hfk.get h82 (by decide)
                          have hfr := hfr.tr hfk (by decide)
                          have hlen := hlk.trans hlen
                          have hsl := hsk.trans hsl
                          have h80 := hN80
                          have h87 := hN87
                          have h88 := hN88
                          have h93 := hN93
                          change ab_W _ _ _ G76 171 [some (vR 80), some (vz m_at), some (vz v14), some (vz v63)] [] _
                          refine ab_vret rfl d_MO_item_171 ?_
                          rw [hQ]; exact (Or.inr ⟨_, _, _, _, _, (mm + 33), _, _, _, (fun x => P x ∨ lkS v74 v14 v63 x), rfl, hfr, hlen, hsl, h80, h87, h88, h93, (by omega), (by first | exact hq80 | exact rgs_w hq80 (by omega)), (by exact hq81), (by exact lfc_or jl (lfc_lk (by omega)))⟩)
                        · refine ab_aload_n d_MO_item_146 rfl ?_
                          refine zz_bipush d_MO_item_147 (by decide) ?_
                          refine ab_iload_n d_MO_item_149 rfl ?_
                          refine ab_callV (d' := d - 1) (as := [vz 6, vz m_at]) (st := []) (r := _) (z_MO_wrong (o := o) (m_thrown := m_thrown) (m_taped := m_taped) (m_length := m_length) (m_out := m_out) (m_wide := w266) (m_gathered := m_gathered) (m_sets := m_sets) (m_ranges := m_ranges) (m_nodes := m_nodes) (m_at := a264) (m_flags := m_flags) (m_fault := m_fault) (m_place := m_place) (m_numbered := m_numbered) (m_depth := m_depth) (m_value := v265) (m_isNot := m_isNot) (m_least0 := m_least0) (m_most0 := m_most0) (m_slot := m_slot) (m_work := m_work) (m_got := m_got) (m_rowMany := m_rowMany) (m_charAt := m_charAt) (m_charWide := m_charWide) (m_trail := m_trail) (m_isMatch := m_isMatch) (m_matchGroups := m_matchGroups) (m_allFrom := m_allFrom) (m_allBefore := m_allBefore) (m_founds := m_founds) (m_pieces := m_pieces) (m_writtenMany := m_writtenMany) (m_templateWide := m_templateWide) (m_tooMuch := m_tooMuch) (x := 6) (y := m_at) h80 (by omega) (by omega)) (fun oc G2 h => by rcases h with ⟨_, _, h, _⟩ <;> exact ⟨_, h⟩) (by omega) m_MO_wrong ml_MO_304 im_MO_wrong se_MO_wrong c_MO h80.2.2 (Nat.le_of_ble_eq_true rfl) d_MO_item_150 rfl ?_
                          intro v G82 hq
                          rcases hq with ⟨f283, p284, hv, hfk, hlk, hsk, hN80, hq85⟩
                          cases hv
                          have h84 := hfk.get h84 (by decide)
                          have h93 := hfk.get h93 (by decide)
                          have h87 := hfk.get h87 (by decide)
                          have h88 := hfk.get h88 (by decide)
                          have h81 := hfk.get h81 (by decide)
                          have h82 := hfk.get h82 (by decide)
                          have hfr := hfr.tr hfk (by decide)
                          have hlen := hlk.trans hlen
                          have hsl := hsk.trans hsl
                          have h80 := hN80
                          change ab_W _ _ _ G82 153 [some (vR 80), some (vz m_at), some (vz v14), some (vz v63)] [] _
                          refine ab_aload_n d_MO_item_153 rfl ?_
                          refine ab_getf (fs := mof m_thrown m_taped m_length m_out w266 m_gathered m_sets m_ranges m_nodes a264 m_flags f283 p284 m_numbered m_depth v265 m_isNot m_least0 m_most0 m_slot m_work m_got m_rowMany m_charAt m_charWide m_trail m_isMatch m_matchGroups m_allFrom m_allBefore m_founds m_pieces m_writtenMany m_templateWide m_tooMuch) f_MO_273 d_MO_item_154 h80.2.2 rfl ?_
                          refine zz_if_ne (tgt := 171) d_MO_item_157 (by decide) (by omega) (fun c86 => ?_) (fun c86 => absurd c86 (by omega))
                          refine ab_vret rfl d_MO_item_171 ?_
                          rw [hQ]; exact (Or.inl ⟨_, _, _, _, _, _, _, _, _, _, rfl, hfr, hlen, hsl, h80, h87, h88, h93, (by omega), (by first | exact jmk | exact rgs_w jmk (by omega))⟩)
                  · cases hv
                    rw [hGe]
                    change ab_W _ _ _ G9 113 [some (vR 80), some (vz m_at), some (vz v14), some (vz v14)] [vz (-1)] _
                    exfalso; omega
                · cases hv
                  rw [hGe]
                  change ab_W _ _ _ G9 105 [some (vR 80), some (vz m_at), some (vz v14), some (vz v14)] [vz (-1)] _
                  refine zz_if_lt (tgt := 153) d_MO_item_105 (by decide) (by decide) (fun c87 => ?_) (fun c87 => absurd c87 (by decide))
                  refine ab_aload_n d_MO_item_153 rfl ?_
                  refine ab_getf (fs := mof m_thrown m_taped m_length m_out w215 m_gathered m_sets m_ranges m_nodes a216 m_flags m_fault m_place m_numbered m_depth m_value m_isNot m_least0 m_most0 m_slot m_work m_got m_rowMany m_charAt m_charWide m_trail m_isMatch m_matchGroups m_allFrom m_allBefore m_founds m_pieces m_writtenMany m_templateWide m_tooMuch) f_MO_273 d_MO_item_154 h80.2.2 rfl ?_
                  refine zz_if_ne (tgt := 171) d_MO_item_157 (by decide) (by omega) (fun c88 => absurd c88 (by omega)) (fun c88 => ?_)
                  refine ab_aload_n d_MO_item_160 rfl ?_
                  refine ab_iload_n d_MO_item_161 rfl ?_
                  refine ab_iload_n d_MO_item_162 rfl ?_
                  refine ab_aload_n d_MO_item_163 rfl ?_
                  refine zz_iconst d_MO_item_164 ?_
                  refine ab_callV (d' := d - 1) (as := [vz 1]) (st := [vz v14, vz v14, vR 80]) (r := _) (z_MO_has (o := o) (m_thrown := m_thrown) (m_taped := m_taped) (m_length := m_length) (m_out := m_out) (m_wide := w215) (m_gathered := m_gathered) (m_sets := m_sets) (m_ranges := m_ranges) (m_nodes := m_nodes) (m_at := a216) (m_flags := m_flags) (m_fault := m_fault) (m_place := m_place) (m_numbered := m_numbered) (m_depth := m_depth) (m_value := m_value) (m_isNot := m_isNot) (m_least0 := m_least0) (m_most0 := m_most0) (m_slot := m_slot) (m_work := m_work) (m_got := m_got) (m_rowMany := m_rowMany) (m_charAt := m_charAt) (m_charWide := m_charWide) (m_trail := m_trail) (m_isMatch := m_isMatch) (m_matchGroups := m_matchGroups) (m_allFrom := m_allFrom) (m_allBefore := m_allBefore) (m_founds := m_founds) (m_pieces := m_pieces) (m_writtenMany := m_writtenMany) (m_templateWide := m_templateWide) (m_tooMuch := m_tooMuch) (x := 1) h80) (fun oc G2 h => by rcases h with ⟨_, h, _⟩ <;> exact ⟨_, h⟩) (by omega) m_MO_has ml_MO_355 im_MO_has se_MO_has c_MO h80.2.2 (Nat.le_of_ble_eq_true rfl) d_MO_item_165 rfl ?_
                  intro v G89 hq
                  rcases hq with ⟨v90, hv, hGe, hq91⟩
                  cases hv
                  rw [hGe]
                  change ab_W _ _ _ G9 168 [some (vR 80), some (vz m_at), some (vz v14), some (vz v14)] [vz v90, vz v14, vz v14, vR 80] _
                  refine ab_callV (d' := d - 1) (as := [vz v14, vz v14, vz v90]) (st := []) (r := _) (z_MO_gatherLike (o := o) (m_thrown := m_thrown) (m_taped := m_taped) (m_length := m_length) (m_out := m_out) (m_wide := w215) (m_gathered := m_gathered) (m_sets := m_sets) (m_ranges := m_ranges) (m_nodes := m_nodes) (m_at := a216) (m_flags := m_flags) (m_fault := m_fault) (m_place := m_place) (m_numbered := m_numbered) (m_depth := m_depth) (m_value := m_value) (m_isNot := m_isNot) (m_least0 := m_least0) (m_most0 := m_most0) (m_slot := m_slot) (m_work := m_work) (m_got := m_got) (m_rowMany := m_rowMany) (m_charAt := m_charAt) (m_charWide := m_charWide) (m_trail := m_trail) (m_isMatch := m_isMatch) (m_matchGroups := m_matchGroups) (m_allFrom := m_allFrom) (m_allBefore := m_allBefore) (m_founds := m_founds) (m_pieces := m_pieces) (m_writtenMany := m_writtenMany) (m_templateWide := m_templateWide) (m_tooMuch := m_tooMuch) (LO := LO) (HI := HI) (MK := MK) (P := P) (a := v14) (b := v14) (lk := v90) h80 h87 h88 h93 (by omega) (by omega) (by omega) (by omega) jmk jc (by omega)) (fun oc G2 h => by rcases h with ⟨_, _, _, h, _⟩ <;> exact ⟨_, h⟩) (by omega) m_MO_gatherLike ml_MO_358 im_MO_gatherLike se_MO_gatherLike c_MO h80.2.2 (Nat.le_of_ble_eq_true rfl) d_MO_item_168 rfl ?_
                  intro v G92 hq
                  rcases hq with ⟨LO293, HI294, MK295, hv, hfk, hlk, hsk, hN80, hN87, hN88, hN93, hq96, hq97⟩
                  cases hv
                  have h84 := hfk.get h84 (by decide)
                  have h81 := hfk.get h81 (by decide)
                  have h82 := hfk.get h82 (by decide)
                  have hfr := hfr.tr hfk (by decide)
                  have hlen := hlk.trans hlen
                  have hsl := hsk.trans hsl
                  have h80 := hN80
                  have h87 := hN87
                  have h88 := hN88
                  have h93 := hN93
                  change ab_W _ _ _ G92 171 [some (vR 80), some (vz m_at), some (vz v14), some (vz v14)] [] _
                  refine ab_vret rfl d_MO_item_171 ?_
                  rw [hQ]; exact (Or.inr ⟨_, _, _, _, _, (mm + 11), _, _, _, (fun x => P x ∨ lkS v90 v14 v14 x), rfl, hfr, hlen, hsl, h80, h87, h88, h93, (by omega), (by first | exact hq96 | exact rgs_w hq96 (by omega)), (by exact hq97), (by exact lfc_or jl (lfc_lk1 (by omega) (by omega)))⟩)
            · cases hv
              rw [hGe]
              change ab_W _ _ _ G9 95 [some (vR 80), some (vz m_at), some (vz v14), some (vz v14)] [vz (-1)] _
              refine zz_bipush d_MO_item_95 (by decide) ?_
              refine zz_icmp_ne (tgt := 153) d_MO_item_97 (by decide) (by decide) (by decide) (fun c98 => ?_) (fun c98 => absurd c98 (by decide))
              refine ab_aload_n d_MO_item_153 rfl ?_
              refine ab_getf (fs := mof m_thrown m_taped m_length m_out w215 m_gathered m_sets m_ranges m_nodes a216 m_flags m_fault m_place m_numbered m_depth m_value m_isNot m_least0 m_most0 m_slot m_work m_got m_rowMany m_charAt m_charWide m_trail m_isMatch m_matchGroups m_allFrom m_allBefore m_founds m_pieces m_writtenMany m_templateWide m_tooMuch) f_MO_273 d_MO_item_154 h80.2.2 rfl ?_
              refine zz_if_ne (tgt := 171) d_MO_item_157 (by decide) (by omega) (fun c99 => absurd c99 (by omega)) (fun c99 => ?_)
              refine ab_aload_n d_MO_item_160 rfl ?_
              refine ab_iload_n d_MO_item_161 rfl ?_
              refine ab_iload_n d_MO_item_162 rfl ?_
              refine ab_aload_n d_MO_item_163 rfl ?_
              refine zz_iconst d_MO_item_164 ?_
              refine ab_callV (d' := d - 1) (as := [vz 1]) (st := [vz v14, vz v14, vR 80]) (r := _) (z_MO_has (o := o) (m_thrown := m_thrown) (m_taped := m_taped) (m_length := m_length) (m_out := m_out) (m_wide := w215) (m_gathered := m_gathered) (m_sets := m_sets) (m_ranges := m_ranges) (m_nodes := m_nodes) (m_at := a216) (m_flags := m_flags) (m_fault := m_fault) (m_place := m_place) (m_numbered := m_numbered) (m_depth := m_depth) (m_value := m_value) (m_isNot := m_isNot) (m_least0 := m_least0) (m_most0 := m_most0) (m_slot := m_slot) (m_work := m_work) (m_got := m_got) (m_rowMany := m_rowMany) (m_charAt := m_charAt) (m_charWide := m_charWide) (m_trail := m_trail) (m_isMatch := m_isMatch) (m_matchGroups := m_matchGroups) (m_allFrom := m_allFrom) (m_allBefore := m_allBefore) (m_founds := m_founds) (m_pieces := m_pieces) (m_writtenMany := m_writtenMany) (m_templateWide := m_templateWide) (m_tooMuch := m_tooMuch) (x := 1) h80) (fun oc G2 h => by rcases h with ⟨_, h, _⟩ <;> exact ⟨_, h⟩) (by omega) m_MO_has ml_MO_355 im_MO_has se_MO_has c_MO h80.2.2 (Nat.le_of_ble_eq_true rfl) d_MO_item_165 rfl ?_
              intro v G100 hq
              rcases hq with ⟨v101, hv, hGe, hq102⟩
              cases hv
              rw [hGe]
              change ab_W _ _ _ G9 168 [some (vR 80), some (vz m_at), some (vz v14), some (vz v14)] [vz v101, vz v14, vz v14, vR 80] _
              refine ab_callV (d' := d - 1) (as := [vz v14, vz v14, vz v101]) (st := []) (r := _) (z_MO_gatherLike (o := o) (m_thrown := m_thrown) (m_taped := m_taped) (m_length := m_length) (m_out := m_out) (m_wide := w215) (m_gathered := m_gathered) (m_sets := m_sets) (m_ranges := m_ranges) (m_nodes := m_nodes) (m_at := a216) (m_flags := m_flags) (m_fault := m_fault) (m_place := m_place) (m_numbered := m_numbered) (m_depth := m_depth) (m_value := m_value) (m_isNot := m_isNot) (m_least0 := m_least0) (m_most0 := m_most0) (m_slot := m_slot) (m_work := m_work) (m_got := m_got) (m_rowMany := m_rowMany) (m_charAt := m_charAt) (m_charWide := m_charWide) (m_trail := m_trail) (m_isMatch := m_isMatch) (m_matchGroups := m_matchGroups) (m_allFrom := m_allFrom) (m_allBefore := m_allBefore) (m_founds := m_founds) (m_pieces := m_pieces) (m_writtenMany := m_writtenMany) (m_templateWide := m_templateWide) (m_tooMuch := m_tooMuch) (LO := LO) (HI := HI) (MK := MK) (P := P) (a := v14) (b := v14) (lk := v101) h80 h87 h88 h93 (by omega) (by omega) (by omega) (by omega) jmk jc (by omega)) (fun oc G2 h => by rcases h with ⟨_, _, _, h, _⟩ <;> exact ⟨_, h⟩) (by omega) m_MO_gatherLike ml_MO_358 im_MO_gatherLike se_MO_gatherLike c_MO h80.2.2 (Nat.le_of_ble_eq_true rfl) d_MO_item_168 rfl ?_
              intro v G103 hq
              rcases hq with ⟨LO2104, HI2105, MK2106, hv, hfk, hlk, hsk, hN80, hN87, hN88, hN93, hq107, hq108⟩
              cases hv
              have h84 := hfk.get h84 (by decide)
              have h81 := hfk.get h81 (by decide)
              have h82 := hfk.get h82 (by decide)
              have hfr := hfr.tr hfk (by decide)
              have hlen := hlk.trans hlen
              have hsl := hsk.trans hsl
              have h80 := hN80
              have h87 := hN87
              have h88 := hN88
              have h93 := hN93
              change ab_W _ _ _ G103 171 [some (vR 80), some (vz m_at), some (vz v14), some (vz v14)] [] _
              refine ab_vret rfl d_MO_item_171 ?_
              rw [hQ]; exact (Or.inr ⟨_, _, _, _, _, (mm + 11), _, _, _, (fun x => P x ∨ lkS v101 v14 v14 x), rfl, hfr, hlen, hsl, h80, h87, h88, h93, (by omega), (by first | exact hq107 | exact rgs_w hq107 (by omega)), (by exact hq108), (by exact lfc_or jl (lfc_lk1 (by omega) (by omega)))⟩)
        · refine ab_aload_n d_MO_item_40 rfl ?_
          refine zz_iconst d_MO_item_41 ?_
          refine ab_callV (d' := d - 1) (as := [vz 1]) (st := []) (r := _) (z_MO_escape (o := o) (m_thrown := m_thrown) (m_taped := m_taped) (m_length := m_length) (m_out := m_out) (m_wide := m_wide) (m_gathered := m_gathered) (m_sets := m_sets) (m_ranges := m_ranges) (m_nodes := m_nodes) (m_at := m_at) (m_flags := m_flags) (m_fault := m_fault) (m_place := m_place) (m_numbered := m_numbered) (m_depth := m_depth) (m_value := m_value) (m_isNot := m_isNot) (m_least0 := m_least0) (m_most0 := m_most0) (m_slot := m_slot) (m_work := m_work) (m_got := m_got) (m_rowMany := m_rowMany) (m_charAt := m_charAt) (m_charWide := m_charWide) (m_trail := m_trail) (m_isMatch := m_isMatch) (m_matchGroups := m_matchGroups) (m_allFrom := m_allFrom) (m_allBefore := m_allBefore) (m_founds := m_founds) (m_pieces := m_pieces) (m_writtenMany := m_writtenMany) (m_templateWide := m_templateWide) (m_tooMuch := m_tooMuch) (A_tape := A_tape) (ic := 1) h80 h84 (by omega) (by omega) jtp (by omega) (by omega) (by omega) (by omega)) (fun oc G2 h => by rcases h with ⟨_, _, _, h, _⟩ | ⟨_, _, h, _⟩ | ⟨_, _, _, h, _⟩ | ⟨_, h, _⟩ | ⟨h, _⟩ <;> exact ⟨_, h⟩) (by omega) m_MO_escape ml_MO_344 im_MO_escape se_MO_escape c_MO h80.2.2 (Nat.le_of_ble_eq_true rfl) d_MO_item_42 rfl ?_
          intro v G109 hq
          rcases hq with ⟨a2110, f2111, p2112, hv, hfk, hlk, hsk, hN80, hq113⟩ | ⟨a2114, v2115, hv, hfk, hlk, hsk, hN80, hq116⟩ | ⟨a2117, v2118, nt2119, hv, hfk, hlk, hsk, hN80, hq120⟩ | ⟨v2121, hv, hfk, hlk, hsk, hN80, hq122⟩ | ⟨hv, hfk, hlk, hsk, hN80, hq123⟩
          · cases hv
            have h84 := hfk.get h84 (by decide)
            have h93 := hfk.get h93 (by decide)
            have h87 := hfk.get h87 (by decide)
            have h88 := hfk.get h88 (by decide)
            have h81 := hfk.get h81 (by decide)
            have h82 := hfk.get h82 (by decide)
            have hfr := hfr.tr hfk (by decide)
            have hlen := hlk.trans hlen
            have hsl := hsk.trans hsl
            have h80 := hN80
            change ab_W _ _ _ G109 45 [some (vR 80), some (vz m_at), none, none] [vz (-1)] _
            refine ab_istore_n d_MO_item_45 (Nat.le_of_ble_eq_true rfl) (Nat.le_of_ble_eq_true rfl) rfl ?_
            change ab_W _ _ _ G109 46 [some (vR 80), some (vz m_at), none, some (vz (-1))] [] _
            refine ab_iload_n d_MO_item_46 rfl ?_
            refine zz_iconst d_MO_item_47 ?_
            refine zz_icmp_ne (tgt := 63) d_MO_item_48 (by decide) (by decide) (by decide) (fun c124 => ?_) (fun c124 => absurd c124 (by decide))
            refine ab_iload_n d_MO_item_63 rfl ?_
            refine zz_if_eq (tgt := 68) d_MO_item_64 (by decide) (by decide) (fun c125 => absurd c125 (by decide)) (fun c125 => ?_)
            refine ab_vret rfl d_MO_item_67 ?_
            rw [hQ]; exact (Or.inl ⟨_, _, _, _, _, _, _, _, _, _, rfl, hfr, hlen, hsl, h80, h87, h88, h93, (by omega), (by first | exact jmk | exact rgs_w jmk (by omega))⟩)
          · cases hv
            have h84 := hfk.get h84 (by decide)
            have h93 := hfk.get h93 (by decide)
            have h87 := hfk.get h87 (by decide)
            have h88 := hfk.get h88 (by decide)
            have h81 := hfk.get h81 (by decide)
            have h82 := hfk.get h82 (by decide)
            have hfr := hfr.tr hfk (by decide)
            have hlen := hlk.trans hlen
            have hsl := hsk.trans hsl
            have h80 := hN80
            change ab_W _ _ _ G109 45 [some (vR 80), some (vz m_at), none, none] [vz 0] _
            refine ab_istore_n d_MO_item_45 (Nat.le_of_ble_eq_true rfl) (Nat.le_of_ble_eq_true rfl) rfl ?_
            change ab_W _ _ _ G109 46 [some (vR 80), some (vz m_at), none, some (vz 0)] [] _
            refine ab_iload_n d_MO_item_46 rfl ?_
            refine zz_iconst d_MO_item_47 ?_
            refine zz_icmp_ne (tgt := 63) d_MO_item_48 (by decide) (by decide) (by decide) (fun c126 => ?_) (fun c126 => absurd c126 (by decide))
            refine ab_iload_n d_MO_item_63 rfl ?_
            refine zz_if_eq (tgt := 68) d_MO_item_64 (by decide) (by decide) (fun c127 => ?_) (fun c127 => absurd c127 (by decide))
            refine ab_aload_n d_MO_item_68 rfl ?_
            refine ab_getf (fs := mof m_thrown m_taped m_length m_out m_wide m_gathered m_sets m_ranges m_nodes a2114 m_flags m_fault m_place m_numbered m_depth v2115 m_isNot m_least0 m_most0 m_slot m_work m_got m_rowMany m_charAt m_charWide m_trail m_isMatch m_matchGroups m_allFrom m_allBefore m_founds m_pieces m_writtenMany m_templateWide m_tooMuch) f_MO_307 d_MO_item_69 h80.2.2 rfl ?_
            refine ab_istore_n d_MO_item_72 (Nat.le_of_ble_eq_true rfl) (Nat.le_of_ble_eq_true rfl) rfl ?_
            change ab_W _ _ _ G109 73 [some (vR 80), some (vz m_at), some (vz v2115), some (vz 0)] [] _
            refine ab_goto (tgt := 81) d_MO_item_73 (by decide) ?_
            refine ab_iload_n d_MO_item_81 rfl ?_
            refine ab_istore_n d_MO_item_82 (Nat.le_of_ble_eq_true rfl) (Nat.le_of_ble_eq_true rfl) rfl ?_
            change ab_W _ _ _ G109 83 [some (vR 80), some (vz m_at), some (vz v2115), some (vz v2115)] [] _
            refine ab_aload_n d_MO_item_83 rfl ?_
            refine ab_getf (fs := mof m_thrown m_taped m_length m_out m_wide m_gathered m_sets m_ranges m_nodes a2114 m_flags m_fault m_place m_numbered m_depth v2115 m_isNot m_least0 m_most0 m_slot m_work m_got m_rowMany m_charAt m_charWide m_trail m_isMatch m_matchGroups m_allFrom m_allBefore m_founds m_pieces m_writtenMany m_templateWide m_tooMuch) f_MO_273 d_MO_item_84 h80.2.2 rfl ?_
            refine zz_if_ne (tgt := 153) d_MO_item_87 (by decide) (by omega) (fun c128 => absurd c128 (by omega)) (fun c128 => ?_)
            refine ab_aload_n d_MO_item_90 rfl ?_
            refine zz_iconst d_MO_item_91 ?_
            refine ab_callV (d' := d - 1) (as := [vz 0]) (st := []) (r := _) (z_MO_here (o := o) (m_thrown := m_thrown) (m_taped := m_taped) (m_length := m_length) (m_out := m_out) (m_wide := m_wide) (m_gathered := m_gathered) (m_sets := m_sets) (m_ranges := m_ranges) (m_nodes := m_nodes) (m_at := a2114) (m_flags := m_flags) (m_fault := m_fault) (m_place := m_place) (m_numbered := m_numbered) (m_depth := m_depth) (m_value := v2115) (m_isNot := m_isNot) (m_least0 := m_least0) (m_most0 := m_most0) (m_slot := m_slot) (m_work := m_work) (m_got := m_got) (m_rowMany := m_rowMany) (m_charAt := m_charAt) (m_charWide := m_charWide) (m_trail := m_trail) (m_isMatch := m_isMatch) (m_matchGroups := m_matchGroups) (m_allFrom := m_allFrom) (m_allBefore := m_allBefore) (m_founds := m_founds) (m_pieces := m_pieces) (m_writtenMany := m_writtenMany) (m_templateWide := m_templateWide) (m_tooMuch := m_tooMuch) (A_tape := A_tape) (k := 0) h80 h84 (by omega) (by omega) jtp (by omega)) (fun oc G2 h => by rcases h with ⟨h, _⟩ | ⟨h, _⟩ <;> exact ⟨_, h⟩) (by omega) m_MO_here ml_MO_297 im_MO_here se_MO_here c_MO h80.2.2 (Nat.le_of_ble_eq_true rfl) d_MO_item_92 rfl ?_
            intro v G129 hq
            rcases hq with ⟨hv, hGe, hq130⟩ | ⟨hv, hGe, hq131⟩
            · cases hv
              rw [hGe]
              change ab_W _ _ _ G109 95 [some (vR 80), some (vz m_at), some (vz v2115), some (vz v2115)] [vz (A_tape (a2114 + 0))] _
              refine zz_bipush d_MO_item_95 (by decide) ?_
              refine zz_icmp_ne (tgt := 153) d_MO_item_97 (by decide) (by omega) (by decide) (fun c132 => ?_) (fun c132 => ?_)
              · refine ab_aload_n d_MO_item_153 rfl ?_
                refine ab_getf (fs := mof m_thrown m_taped m_length m_out m_wide m_gathered m_sets m_ranges m_nodes a2114 m_flags m_fault m_place m_numbered m_depth v2115 m_isNot m_least0 m_most0 m_slot m_work m_got m_rowMany m_charAt m_charWide m_trail m_isMatch m_matchGroups m_allFrom m_allBefore m_founds m_pieces m_writtenMany m_templateWide m_tooMuch) f_MO_273 d_MO_item_154 h80.2.2 rfl ?_
                refine zz_if_ne (tgt := 171) d_MO_item_157 (by decide) (by omega) (fun c133 => absurd c133 (by omega)) (fun c133 => ?_)
                refine ab_aload_n d_MO_item_160 rfl ?_
                refine ab_iload_n d_MO_item_161 rfl ?_
                refine ab_iload_n d_MO_item_162 rfl ?_
                refine ab_aload_n d_MO_item_163 rfl ?_
                refine zz_iconst d_MO_item_164 ?_
                refine ab_callV (d' := d - 1) (as := [vz 1]) (st := [vz v2115, vz v2115, vR 80]) (r := _) (z_MO_has (o := o) (m_thrown := m_thrown) (m_taped := m_taped) (m_length := m_length) (m_out := m_out) (m_wide := m_wide) (m_gathered := m_gathered) (m_sets := m_sets) (m_ranges := m_ranges) (m_nodes := m_nodes) (m_at := a2114) (m_flags := m_flags) (m_fault := m_fault) (m_place := m_place) (m_numbered := m_numbered) (m_depth := m_depth) (m_value := v2115) (m_isNot := m_isNot) (m_least0 := m_least0) (m_most0 := m_most0) (m_slot := m_slot) (m_work := m_work) (m_got := m_got) (m_rowMany := m_rowMany) (m_charAt := m_charAt) (m_charWide := m_charWide) (m_trail := m_trail) (m_isMatch := m_isMatch) (m_matchGroups := m_matchGroups) (m_allFrom := m_allFrom) (m_allBefore := m_allBefore) (m_founds := m_founds) (m_pieces := m_pieces) (m_writtenMany := m_writtenMany) (m_templateWide := m_templateWide) (m_tooMuch := m_tooMuch) (x := 1) h80) (fun oc G2 h => by rcases h with ⟨_, h, _⟩ <;> exact ⟨_, h⟩) (by omega) m_MO_has ml_MO_355 im_MO_has se_MO_has c_MO h80.2.2 (Nat.le_of_ble_eq_true rfl) d_MO_item_165 rfl ?_
                intro v G134 hq
                rcases hq with ⟨v135, hv, hGe, hq136⟩
                cases hv
                rw [hGe]
                change ab_W _ _ _ G109 168 [some (vR 80), some (vz m_at), some (vz v2115), some (vz v2115)] [vz v135, vz v2115, vz v2115, vR 80] _
                refine ab_callV (d' := d - 1) (as := [vz v2115, vz v2115, vz v135]) (st := []) (r := _) (z_MO_gatherLike (o := o) (m_thrown := m_thrown) (m_taped := m_taped) (m_length := m_length) (m_out := m_out) (m_wide := m_wide) (m_gathered := m_gathered) (m_sets := m_sets) (m_ranges := m_ranges) (m_nodes := m_nodes) (m_at := a2114) (m_flags := m_flags) (m_fault := m_fault) (m_place := m_place) (m_numbered := m_numbered) (m_depth := m_depth) (m_value := v2115) (m_isNot := m_isNot) (m_least0 := m_least0) (m_most0 := m_most0) (m_slot := m_slot) (m_work := m_work) (m_got := m_got) (m_rowMany := m_rowMany) (m_charAt := m_charAt) (m_charWide := m_charWide) (m_trail := m_trail) (m_isMatch := m_isMatch) (m_matchGroups := m_matchGroups) (m_allFrom := m_allFrom) (m_allBefore := m_allBefore) (m_founds := m_founds) (m_pieces := m_pieces) (m_writtenMany := m_writtenMany) (m_templateWide := m_templateWide) (m_tooMuch := m_tooMuch) (LO := LO) (HI := HI) (MK := MK) (P := P) (a := v2115) (b := v2115) (lk := v135) h80 h87 h88 h93 (by omega) (by omega) (by omega) (by omega) jmk jc (by omega)) (fun oc G2 h => by rcases h with ⟨_, _, _, h, _⟩ <;> exact ⟨_, h⟩) (by omega) m_MO_gatherLike ml_MO_358 im_MO_gatherLike se_MO_gatherLike c_MO h80.2.2 (Nat.le_of_ble_eq_true rfl) d_MO_item_168 rfl ?_
                intro v G137 hq
                rcases hq with ⟨LO2138, HI2139, MK2140, hv, hfk, hlk, hsk, hN80, hN87, hN88, hN93, hq141, hq142⟩
                cases hv
                have h84 := hfk.get h84 (by decide)
                have h81 := hfk.get h81 (by decide)
                have h82 := hfk.get h82 (by decide)
                have hfr := hfr.tr hfk (by decide)
                have hlen := hlk.trans hlen
                have hsl := hsk.trans hsl
                have h80 := hN80
                have h87 := hN87
                have h88 := hN88
                have h93 := hN93
                change ab_W _ _ _ G137 171 [some (vR 80), some (vz m_at), some (vz v2115), some (vz v2115)] [] _
                refine ab_vret rfl d_MO_item_171 ?_
                rw [hQ]; exact (Or.inr ⟨_, _, _, _, _, (mm + 11), _, _, _, (fun x => P x ∨ lkS v135 v2115 v2115 x), rfl, hfr, hlen, hsl, h80, h87, h88, h93, (by omega), (by first | exact hq141 | exact rgs_w hq141 (by omega)), (by exact hq142), (by exact lfc_or jl (lfc_lk1 (by omega) (by omega)))⟩)
              · refine ab_aload_n d_MO_item_100 rfl ?_
                refine zz_iconst d_MO_item_101 ?_
                refine ab_callV (d' := d - 1) (as := [vz 1]) (st := []) (r := _) (z_MO_here (o := o) (m_thrown := m_thrown) (m_taped := m_taped) (m_length := m_length) (m_out := m_out) (m_wide := m_wide) (m_gathered := m_gathered) (m_sets := m_sets) (m_ranges := m_ranges) (m_nodes := m_nodes) (m_at := a2114) (m_flags := m_flags) (m_fault := m_fault) (m_place := m_place) (m_numbered := m_numbered) (m_depth := m_depth) (m_value := v2115) (m_isNot := m_isNot) (m_least0 := m_least0) (m_most0 := m_most0) (m_slot := m_slot) (m_work := m_work) (m_got := m_got) (m_rowMany := m_rowMany) (m_charAt := m_charAt) (m_charWide := m_charWide) (m_trail := m_trail) (m_isMatch := m_isMatch) (m_matchGroups := m_matchGroups) (m_allFrom := m_allFrom) (m_allBefore := m_allBefore) (m_founds := m_founds) (m_pieces := m_pieces) (m_writtenMany := m_writtenMany) (m_templateWide := m_templateWide) (m_tooMuch := m_tooMuch) (A_tape := A_tape) (k := 1) h80 h84 (by omega) (by omega) jtp (by omega)) (fun oc G2 h => by rcases h with ⟨h, _⟩ | ⟨h, _⟩ <;> exact ⟨_, h⟩) (by omega) m_MO_here ml_MO_297 im_MO_here se_MO_here c_MO h80.2.2 (Nat.le_of_ble_eq_true rfl) d_MO_item_102 rfl ?_
                intro v G143 hq
                rcases hq with ⟨hv, hGe, hq144⟩ | ⟨hv, hGe, hq145⟩
                · cases hv
                  rw [hGe]
                  change ab_W _ _ _ G109 105 [some (vR 80), some (vz m_at), some (vz v2115), some (vz v2115)] [vz (A_tape (a2114 + 1))] _
                  refine zz_if_lt (tgt := 153) d_MO_item_105 (by decide) (by omega) (fun c146 => absurd c146 (by omega)) (fun c146 => ?_)
                  refine ab_aload_n d_MO_item_108 rfl ?_
                  refine zz_iconst d_MO_item_109 ?_
                  refine ab_callV (d' := d - 1) (as := [vz 1]) (st := []) (r := _) (z_MO_here (o := o) (m_thrown := m_thrown) (m_taped := m_taped) (m_length := m_length) (m_out := m_out) (m_wide := m_wide) (m_gathered := m_gathered) (m_sets := m_sets) (m_ranges := m_ranges) (m_nodes := m_nodes) (m_at := a2114) (m_flags := m_flags) (m_fault := m_fault) (m_place := m_place) (m_numbered := m_numbered) (m_depth := m_depth) (m_value := v2115) (m_isNot := m_isNot) (m_least0 := m_least0) (m_most0 := m_most0) (m_slot := m_slot) (m_work := m_work) (m_got := m_got) (m_rowMany := m_rowMany) (m_charAt := m_charAt) (m_charWide := m_charWide) (m_trail := m_trail) (m_isMatch := m_isMatch) (m_matchGroups := m_matchGroups) (m_allFrom := m_allFrom) (m_allBefore := m_allBefore) (m_founds := m_founds) (m_pieces := m_pieces) (m_writtenMany := m_writtenMany) (m_templateWide := m_templateWide) (m_tooMuch := m_tooMuch) (A_tape := A_tape) (k := 1) h80 h84 (by omega) (by omega) jtp (by omega)) (fun oc G2 h => by rcases h with ⟨h, _⟩ | ⟨h, _⟩ <;> exact ⟨_, h⟩) (by omega) m_MO_here ml_MO_297 im_MO_here se_MO_here c_MO h80.2.2 (Nat.le_of_ble_eq_true rfl) d_MO_item_110 rfl ?_
                  intro v G147 hq
                  rcases hq with ⟨hv, hGe, hq148⟩ | ⟨hv, hGe, hq149⟩
                  · cases hv
                    rw [hGe]
                    change ab_W _ _ _ G109 113 [some (vR 80), some (vz m_at), some (vz v2115), some (vz v2115)] [vz (A_tape (a2114 + 1))] _
                    refine zz_bipush d_MO_item_113 (by decide) ?_
                    refine zz_icmp_eq (tgt := 153) d_MO_item_115 (by decide) (by omega) (by decide) (fun c150 => ?_) (fun c150 => ?_)
                    · refine ab_aload_n d_MO_item_153 rfl ?_
                      refine ab_getf (fs := mof m_thrown m_taped m_length m_out m_wide m_gathered m_sets m_ranges m_nodes a2114 m_flags m_fault m_place m_numbered m_depth v2115 m_isNot m_least0 m_most0 m_slot m_work m_got m_rowMany m_charAt m_charWide m_trail m_isMatch m_matchGroups m_allFrom m_allBefore m_founds m_pieces m_writtenMany m_templateWide m_tooMuch) f_MO_273 d_MO_item_154 h80.2.2 rfl ?_
                      refine zz_if_ne (tgt := 171) d_MO_item_157 (by decide) (by omega) (fun c151 => absurd c151 (by omega)) (fun c151 => ?_)
                      refine ab_aload_n d_MO_item_160 rfl ?_
                      refine ab_iload_n d_MO_item_161 rfl ?_
                      refine ab_iload_n d_MO_item_162 rfl ?_
                      refine ab_aload_n d_MO_item_163 rfl ?_
                      refine zz_iconst d_MO_item_164 ?_
                      refine ab_callV (d' := d - 1) (as := [vz 1]) (st := [vz v2115, vz v2115, vR 80]) (r := _) (z_MO_has (o := o) (m_thrown := m_thrown) (m_taped := m_taped) (m_length := m_length) (m_out := m_out) (m_wide := m_wide) (m_gathered := m_gathered) (m_sets := m_sets) (m_ranges := m_ranges) (m_nodes := m_nodes) (m_at := a2114) (m_flags := m_flags) (m_fault := m_fault) (m_place := m_place) (m_numbered := m_numbered) (m_depth := m_depth) (m_value := v2115) (m_isNot := m_isNot) (m_least0 := m_least0) (m_most0 := m_most0) (m_slot := m_slot) (m_work := m_work) (m_got := m_got) (m_rowMany := m_rowMany) (m_charAt := m_charAt) (m_charWide := m_charWide) (m_trail := m_trail) (m_isMatch := m_isMatch) (m_matchGroups := m_matchGroups) (m_allFrom := m_allFrom) (m_allBefore := m_allBefore) (m_founds := m_founds) (m_pieces := m_pieces) (m_writtenMany := m_writtenMany) (m_templateWide := m_templateWide) (m_tooMuch := m_tooMuch) (x := 1) h80) (fun oc G2 h => by rcases h with ⟨_, h, _⟩ <;> exact ⟨_, h⟩) (by omega) m_MO_has ml_MO_355 im_MO_has se_MO_has c_MO h80.2.2 (Nat.le_of_ble_eq_true rfl) d_MO_item_165 rfl ?_
                      intro v G152 hq
                      rcases hq with ⟨v153, hv, hGe, hq154⟩
                      cases hv
                      rw [hGe]
                      change ab_W _ _ _ G109 168 [some (vR 80), some (vz m_at), some (vz v2115), some (vz v2115)] [vz v153, vz v2115, vz v2115, vR 80] _
                      refine ab_callV (d' := d - 1) (as := [vz v2115, vz v2115, vz v153]) (st := []) (r := _) (z_MO_gatherLike (o := o) (m_thrown := m_thrown) (m_taped := m_taped) (m_length := m_length) (m_out := m_out) (m_wide := m_wide) (m_gathered := m_gathered) (m_sets := m_sets) (m_ranges := m_ranges) (m_nodes := m_nodes) (m_at := a2114) (m_flags := m_flags) (m_fault := m_fault) (m_place := m_place) (m_numbered := m_numbered) (m_depth := m_depth) (m_value := v2115) (m_isNot := m_isNot) (m_least0 := m_least0) (m_most0 := m_most0) (m_slot := m_slot) (m_work := m_work) (m_got := m_got) (m_rowMany := m_rowMany) (m_charAt := m_charAt) (m_charWide := m_charWide) (m_trail := m_trail) (m_isMatch := m_isMatch) (m_matchGroups := m_matchGroups) (m_allFrom := m_allFrom) (m_allBefore := m_allBefore) (m_founds := m_founds) (m_pieces := m_pieces) (m_writtenMany := m_writtenMany) (m_templateWide := m_templateWide) (m_tooMuch := m_tooMuch) (LO := LO) (HI := HI) (MK := MK) (P := P) (a := v2115) (b := v2115) (lk := v153) h80 h87 h88 h93 (by omega) (by omega) (by omega) (by omega) jmk jc (by omega)) (fun oc G2 h => by rcases h with ⟨_, _, _, h, _⟩ <;> exact ⟨_, h⟩) (by omega) m_MO_gatherLike ml_MO_358 im_MO_gatherLike se_MO_gatherLike c_MO h80.2.2 (Nat.le_of_ble_eq_true rfl) d_MO_item_168 rfl ?_
                      intro v G155 hq
                      rcases hq with ⟨LO2156, HI2157, MK2158, hv, hfk, hlk, hsk, hN80, hN87, hN88, hN93, hq159, hq160⟩
                      cases hv
                      have h84 := hfk.get h84 (by decide)
                      have h81 := hfk.get h81 (by decide)
                      have h82 := hfk.get h82 (by decide)
                      have hfr := hfr.tr hfk (by decide)
                      have hlen := hlk.trans hlen
                      have hsl := hsk.trans hsl
                      have h80 := hN80
                      have h87 := hN87
                      have h88 := hN88
                      have h93 := hN93
                      change ab_W _ _ _ G155 171 [some (vR 80), some (vz m_at), some (vz v2115), some (vz v2115)] [] _
                      refine ab_vret rfl d_MO_item_171 ?_
                      rw [hQ]; exact (Or.inr ⟨_, _, _, _, _, (mm + 11), _, _, _, (fun x => P x ∨ lkS v153 v2115 v2115 x), rfl, hfr, hlen, hsl, h80, h87, h88, h93, (by omega), (by first | exact hq159 | exact rgs_w hq159 (by omega)), (by exact hq160), (by exact lfc_or jl (lfc_lk1 (by omega) (by omega)))⟩)
                    · refine ab_aload_n d_MO_item_118 rfl ?_
                      refine ab_dup d_MO_item_119 rfl ?_
                      refine ab_getf (fs := mof m_thrown m_taped m_length m_out m_wide m_gathered m_sets m_ranges m_nodes a2114 m_flags m_fault m_place m_numbered m_depth v2115 m_isNot m_least0 m_most0 m_slot m_work m_got m_rowMany m_charAt m_charWide m_trail m_isMatch m_matchGroups m_allFrom m_allBefore m_founds m_pieces m_writtenMany m_templateWide m_tooMuch) f_MO_279 d_MO_item_120 h80.2.2 rfl ?_
                      refine zz_iconst d_MO_item_123 ?_
                      refine zz_iadd d_MO_item_124 ?_
                      refine ab_putf (fs := mof m_thrown m_taped m_length m_out m_wide m_gathered m_sets m_ranges m_nodes a2114 m_flags m_fault m_place m_numbered m_depth v2115 m_isNot m_least0 m_most0 m_slot m_work m_got m_rowMany m_charAt m_charWide m_trail m_isMatch m_matchGroups m_allFrom m_allBefore m_founds m_pieces m_writtenMany m_templateWide m_tooMuch) f_MO_279 (Or.inl rfl) d_MO_item_125 h80.2.2 (Nat.le_of_ble_eq_true rfl) (fun _ => ⟨rfl, rfl⟩) (h80.2.1 (by decide)) ?_
                      obtain ⟨G161, eG161⟩ : ∃ z : ab_G, z = List.set G109 80 (ab_ob 12 (mof m_thrown m_taped m_length m_out m_wide m_gathered m_sets m_ranges m_nodes (a2114 + 1) m_flags m_fault m_place m_numbered m_depth v2115 m_isNot m_least0 m_most0 m_slot m_work m_got m_rowMany m_charAt m_charWide m_trail m_isMatch m_matchGroups m_allFrom m_allBefore m_founds m_pieces m_writtenMany m_templateWide m_tooMuch)) := ⟨_, rfl⟩
                      have h84 := h84.keep h80 eG161 (by decide)
                      have h93 := h93.keep h80 eG161 (by decide)
                      have h87 := h87.keep h80 eG161 (by decide)
                      have h88 := h88.keep h80 eG161 (by decide)
                      have h81 := h81.keep h80 eG161 (by decide)
                      have h82 := h82.keep h80 eG161 (by decide)
                      have hlen := (z_len eG161).trans hlen
                      have hsl := (z_sl h80 eG161 rfl).trans hsl
                      have hfr := hfr.wr h80 eG161 (by decide)
                      have h80 := h80.kept eG161
                      change ab_W _ _ _ (List.set G109 80 (ab_ob 12 (mof m_thrown m_taped m_length m_out m_wide m_gathered m_sets m_ranges m_nodes (a2114 + 1) m_flags m_fault m_place m_numbered m_depth v2115 m_isNot m_least0 m_most0 m_slot m_work m_got m_rowMany m_charAt m_charWide m_trail m_isMatch m_matchGroups m_allFrom m_allBefore m_founds m_pieces m_writtenMany m_templateWide m_tooMuch))) 128 [some (vR 80), some (vz m_at), some (vz v2115), some (vz v2115)] [] _
                      rw [← eG161]
                      refine ab_aload_n d_MO_item_128 rfl ?_
                      refine ab_iload_n d_MO_item_129 rfl ?_
                      refine ab_callV (d' := d - 1) (as := [vz m_at]) (st := []) (r := _) (z_MO_rangeEnd (o := o) (m_thrown := m_thrown) (m_taped := m_taped) (m_length := m_length) (m_out := m_out) (m_wide := m_wide) (m_gathered := m_gathered) (m_sets := m_sets) (m_ranges := m_ranges) (m_nodes := m_nodes) (m_at := (a2114 + 1)) (m_flags := m_flags) (m_fault := m_fault) (m_place := m_place) (m_numbered := m_numbered) (m_depth := m_depth) (m_value := v2115) (m_isNot := m_isNot) (m_least0 := m_least0) (m_most0 := m_most0) (m_slot := m_slot) (m_work := m_work) (m_got := m_got) (m_rowMany := m_rowMany) (m_charAt := m_charAt) (m_charWide := m_charWide) (m_trail := m_trail) (m_isMatch := m_isMatch) (m_matchGroups := m_matchGroups) (m_allFrom := m_allFrom) (m_allBefore := m_allBefore) (m_founds := m_founds) (m_pieces := m_pieces) (m_writtenMany := m_writtenMany) (m_templateWide := m_templateWide) (m_tooMuch := m_tooMuch) (A_tape := A_tape) (wh := m_at) h80 h84 (by omega) (by omega) jtp (by omega) (by omega) (by omega) (by omega)) (fun oc G2 h => by rcases h with ⟨_, _, _, _, _, _, _, h, _⟩ | ⟨_, _, _, _, h, _⟩ <;> exact ⟨_, h⟩) (by omega) m_MO_rangeEnd ml_MO_352 im_MO_rangeEnd se_MO_rangeEnd c_MO h80.2.2 (Nat.le_of_ble_eq_true rfl) d_MO_item_130 rfl ?_
                      intro v G162 hq
                      rcases hq with ⟨v163, a2164, f2165, p2166, v2167, nt2168, w2169, hv, hfk, hlk, hsk, hN80, hq170⟩ | ⟨v171, a2172, v2173, w2174, hv, hfk, hlk, hsk, hN80, hq175⟩
                      · cases hv
                        have h84 := hfk.get h84 (by decide)
                        have h93 := hfk.get h93 (by decide)
                        have h87 := hfk.get h87 (by decide)
                        have h88 := hfk.get h88 (by decide)
                        have h81 := hfk.get h81 (by decide)
                        have h82 := hfk.get h82 (by decide)
                        have hfr := hfr.tr hfk (by decide)
                        have hlen := hlk.trans hlen
                        have hsl := hsk.trans hsl
                        have h80 := hN80
                        change ab_W _ _ _ G162 133 [some (vR 80), some (vz m_at), some (vz v2115), some (vz v2115)] [vz v163] _
                        refine ab_istore_n d_MO_item_133 (Nat.le_of_ble_eq_true rfl) (Nat.le_of_ble_eq_true rfl) rfl ?_
                        change ab_W _ _ _ G162 134 [some (vR 80), some (vz m_at), some (vz v2115), some (vz v163)] [] _
                        refine ab_aload_n d_MO_item_134 rfl ?_
                        refine ab_getf (fs := mof m_thrown m_taped m_length m_out w2169 m_gathered m_sets m_ranges m_nodes a2164 m_flags f2165 p2166 m_numbered m_depth v2167 nt2168 m_least0 m_most0 m_slot m_work m_got m_rowMany m_charAt m_charWide m_trail m_isMatch m_matchGroups m_allFrom m_allBefore m_founds m_pieces m_writtenMany m_templateWide m_tooMuch) f_MO_273 d_MO_item_135 h80.2.2 rfl ?_
                        refine zz_if_ne (tgt := 153) d_MO_item_138 (by decide) (by omega) (fun c176 => ?_) (fun c176 => absurd c176 (by omega))
                        refine ab_aload_n d_MO_item_153 rfl ?_
                        refine ab_getf (fs := mof m_thrown m_taped m_length m_out w2169 m_gathered m_sets m_ranges m_nodes a2164 m_flags f2165 p2166 m_numbered m_depth v2167 nt2168 m_least0 m_most0 m_slot m_work m_got m_rowMany m_charAt m_charWide m_trail m_isMatch m_matchGroups m_allFrom m_allBefore m_founds m_pieces m_writtenMany m_templateWide m_tooMuch) f_MO_273 d_MO_item_154 h80.2.2 rfl ?_
                        refine zz_if_ne (tgt := 171) d_MO_item_157 (by decide) (by omega) (fun c177 => ?_) (fun c177 => absurd c177 (by omega))
                        refine ab_vret rfl d_MO_item_171 ?_
                        rw [hQ]; exact (Or.inl ⟨_, _, _, _, _, _, _, _, _, _, rfl, hfr, hlen, hsl, h80, h87, h88, h93, (by omega), (by first | exact jmk | exact rgs_w jmk (by omega))⟩)
                      · cases hv
                        have h84 := hfk.get h84 (by decide)
                        have h93 := hfk.get h93 (by decide)
                        have h87 := hfk.get h87 (by decide)
                        have h88 := hfk.get h88 (by decide)
                        have h81 := hfk.get h81 (by decide)
                        have h82 := hfk.get h82 (by decide)
                        have hfr := hfr.tr hfk (by decide)
                        have hlen := hlk.trans hlen
                        have hsl := hsk.trans hsl
                        have h80 := hN80
                        change ab_W _ _ _ G162 133 [some (vR 80), some (vz m_at), some (vz v2115), some (vz v2115)] [vz v171] _
                        refine ab_istore_n d_MO_item_133 (Nat.le_of_ble_eq_true rfl) (Nat.le_of_ble_eq_true rfl) rfl ?_
                        change ab_W _ _ _ G162 134 [some (vR 80), some (vz m_at), some (vz v2115), some (vz v171)] [] _
                        refine ab_aload_n d_MO_item_134 rfl ?_
                        refine ab_getf (fs := mof m_thrown m_taped m_length m_out w2174 m_gathered m_sets m_ranges m_nodes a2172 m_flags m_fault m_place m_numbered m_depth v2173 m_isNot m_least0 m_most0 m_slot m_work m_got m_rowMany m_charAt m_charWide m_trail m_isMatch m_matchGroups m_allFrom m_allBefore m_founds m_pieces m_writtenMany m_templateWide m_tooMuch) f_MO_273 d_MO_item_135 h80.2.2 rfl ?_
                        refine zz_if_ne (tgt := 153) d_MO_item_138 (by decide) (by omega) (fun c178 => absurd c178 (by omega)) (fun c178 => ?_)
                        refine ab_iload_n d_MO_item_141 rfl ?_
                        refine ab_iload_n d_MO_item_142 rfl ?_
                        refine zz_icmp_ge (tgt := 153) d_MO_item_143 (by decide) (by omega) (by omega) (fun c179 => ?_) (fun c179 => ?_)
                        · refine ab_aload_n d_MO_item_153 rfl ?_
                          refine ab_getf (fs := mof m_thrown m_taped m_length m_out w2174 m_gathered m_sets m_ranges m_nodes a2172 m_flags m_fault m_place m_numbered m_depth v2173 m_isNot m_least0 m_most0 m_slot m_work m_got m_rowMany m_charAt m_charWide m_trail m_isMatch m_matchGroups m_allFrom m_allBefore m_founds m_pieces m_writtenMany m_templateWide m_tooMuch) f_MO_273 d_MO_item_154 h80.2.2 rfl ?_
                          refine zz_if_ne (tgt := 171) d_MO_item_157 (by decide) (by omega) (fun c180 => absurd c180 (by omega)) (fun c180 => ?_)
                          refine ab_aload_n d_MO_item_160 rfl ?_
                          refine ab_iload_n d_MO_item_161 rfl ?_
                          refine ab_iload_n d_MO_item_162 rfl ?_
                          refine ab_aload_n d_MO_item_163 rfl ?_
                          refine zz_iconst d_MO_item_164 ?_
                          refine ab_callV (d' := d - 1) (as := [vz 1]) (st := [vz v171, vz v2115, vR 80]) (r := _) (z_MO_has (o := o) (m_thrown := m_thrown) (m_taped := m_taped) (m_length := m_length) (m_out := m_out) (m_wide := w2174) (m_gathered := m_gathered) (m_sets := m_sets) (m_ranges := m_ranges) (m_nodes := m_nodes) (m_at := a2172) (m_flags := m_flags) (m_fault := m_fault) (m_place := m_place) (m_numbered := m_numbered) (m_depth := m_depth) (m_value := v2173) (m_isNot := m_isNot) (m_least0 := m_least0) (m_most0 := m_most0) (m_slot := m_slot) (m_work := m_work) (m_got := m_got) (m_rowMany := m_rowMany) (m_charAt := m_charAt) (m_charWide := m_charWide) (m_trail := m_trail) (m_isMatch := m_isMatch) (m_matchGroups := m_matchGroups) (m_allFrom := m_allFrom) (m_allBefore := m_allBefore) (m_founds := m_founds) (m_pieces := m_pieces) (m_writtenMany := m_writtenMany) (m_templateWide := m_templateWide) (m_tooMuch := m_tooMuch) (x := 1) h80) (fun oc G2 h => by rcases h with ⟨_, h, _⟩ <;> exact ⟨_, h⟩) (by omega) m_MO_has ml_MO_355 im_MO_has se_MO_has c_MO h80.2.2 (Nat.le_of_ble_eq_true rfl) d_MO_item_165 rfl ?_
                          intro v G181 hq
                          rcases hq with ⟨v182, hv, hGe, hq183⟩
                          cases hv
                          rw [hGe]
                          change ab_W _ _ _ G162 168 [some (vR 80), some (vz m_at), some (vz v2115), some (vz v171)] [vz v182, vz v171, vz v2115, vR 80] _
                          refine ab_callV (d' := d - 1) (as := [vz v2115, vz v171, vz v182]) (st := []) (r := _) (z_MO_gatherLike (o := o) (m_thrown := m_thrown) (m_taped := m_taped) (m_length := m_length) (m_out := m_out) (m_wide := w2174) (m_gathered := m_gathered) (m_sets := m_sets) (m_ranges := m_ranges) (m_nodes := m_nodes) (m_at := a2172) (m_flags := m_flags) (m_fault := m_fault) (m_place := m_place) (m_numbered := m_numbered) (m_depth := m_depth) (m_value := v2173) (m_isNot := m_isNot) (m_least0 := m_least0) (m_most0 := m_most0) (m_slot := m_slot) (m_work := m_work) (m_got := m_got) (m_rowMany := m_rowMany) (m_charAt := m_charAt) (m_charWide := m_charWide) (m_trail := m_trail) (m_isMatch := m_isMatch) (m_matchGroups := m_matchGroups) (m_allFrom := m_allFrom) (m_allBefore := m_allBefore) (m_founds := m_founds) (m_pieces := m_pieces) (m_writtenMany := m_writtenMany) (m_templateWide := m_templateWide) (m_tooMuch := m_tooMuch) (LO := LO) (HI := HI) (MK := MK) (P := P) (a := v2115) (b := v171) (lk := v182) h80 h87 h88 h93 (by omega) (by omega) (by omega) (by omega) jmk jc (by omega)) (fun oc G2 h => by rcases h with ⟨_, _, _, h, _⟩ <;> exact ⟨_, h⟩) (by omega) m_MO_gatherLike ml_MO_358 im_MO_gatherLike se_MO_gatherLike c_MO h80.2.2 (Nat.le_of_ble_eq_true rfl) d_MO_item_168 rfl ?_
                          intro v G184 hq
                          rcases hq with ⟨LO2185, HI2186, MK2187, hv, hfk, hlk, hsk, hN80, hN87, hN88, hN93, hq188, hq189⟩
                          cases hv
                          have h84 := hfk.get h84 (by decide)
                          have h81 := hfk.get h81 (by decide)
                          have h82 := hfk.get h82 (by decide)
                          have hfr := hfr.tr hfk (by decide)
                          have hlen := hlk.trans hlen
                          have hsl := hsk.trans hsl
                          have h80 := hN80
                          have h87 := hN87
                          have h88 := hN88
                          have h93 := hN93
                          change ab_W _ _ _ G184 171 [some (vR 80), some (vz m_at), some (vz v2115), some (vz v171)] [] _
                          refine ab_vret rfl d_MO_item_171 ?_
                          rw [hQ]; exact (Or.inr ⟨_, _, _, _, _, (mm + 33), _, _, _, (fun x => P x ∨ lkS v182 v2115 v171 x), rfl, hfr, hlen, hsl, h80, h87, h88, h93, (by omega), (by first | exact hq188 | exact rgs_w hq188 (by omega)), (by exact hq189), (by exact lfc_or jl (lfc_lk (by omega)))⟩)
                        · refine ab_aload_n d_MO_item_146 rfl ?_
                          refine zz_bipush d_MO_item_147 (by decide) ?_
                          refine ab_iload_n d_MO_item_149 rfl ?_
                          refine ab_callV (d' := d - 1) (as := [vz 6, vz m_at]) (st := []) (r := _) (z_MO_wrong (o := o) (m_thrown := m_thrown) (m_taped := m_taped) (m_length := m_length) (m_out := m_out) (m_wide := w2174) (m_gathered := m_gathered) (m_sets := m_sets) (m_ranges := m_ranges) (m_nodes := m_nodes) (m_at := a2172) (m_flags := m_flags) (m_fault := m_fault) (m_place := m_place) (m_numbered := m_numbered) (m_depth := m_depth) (m_value := v2173) (m_isNot := m_isNot) (m_least0 := m_least0) (m_most0 := m_most0) (m_slot := m_slot) (m_work := m_work) (m_got := m_got) (m_rowMany := m_rowMany) (m_charAt := m_charAt) (m_charWide := m_charWide) (m_trail := m_trail) (m_isMatch := m_isMatch) (m_matchGroups := m_matchGroups) (m_allFrom := m_allFrom) (m_allBefore := m_allBefore) (m_founds := m_founds) (m_pieces := m_pieces) (m_writtenMany := m_writtenMany) (m_templateWide := m_templateWide) (m_tooMuch := m_tooMuch) (x := 6) (y := m_at) h80 (by omega) (by omega)) (fun oc G2 h => by rcases h with ⟨_, _, h, _⟩ <;> exact ⟨_, h⟩) (by omega) m_MO_wrong ml_MO_304 im_MO_wrong se_MO_wrong c_MO h80.2.2 (Nat.le_of_ble_eq_true rfl) d_MO_item_150 rfl ?_
                          intro v G190 hq
                          rcases hq with ⟨f2191, p2192, hv, hfk, hlk, hsk, hN80, hq193⟩
                          cases hv
                          have h84 := hfk.get h84 (by decide)
                          have h93 := hfk.get h93 (by decide)
                          have h87 := hfk.get h87 (by decide)
                          have h88 := hfk.get h88 (by decide)
                          have h81 := hfk.get h81 (by decide)
                          have h82 := hfk.get h82 (by decide)
                          have hfr := hfr.tr hfk (by decide)
                          have hlen := hlk.trans hlen
                          have hsl := hsk.trans hsl
                          have h80 := hN80
                          change ab_W _ _ _ G190 153 [some (vR 80), some (vz m_at), some (vz v2115), some (vz v171)] [] _
                          refine ab_aload_n d_MO_item_153 rfl ?_
                          refine ab_getf (fs := mof m_thrown m_taped m_length m_out w2174 m_gathered m_sets m_ranges m_nodes a2172 m_flags f2191 p2192 m_numbered m_depth v2173 m_isNot m_least0 m_most0 m_slot m_work m_got m_rowMany m_charAt m_charWide m_trail m_isMatch m_matchGroups m_allFrom m_allBefore m_founds m_pieces m_writtenMany m_templateWide m_tooMuch) f_MO_273 d_MO_item_154 h80.2.2 rfl ?_
                          refine zz_if_ne (tgt := 171) d_MO_item_157 (by decide) (by omega) (fun c194 => ?_) (fun c194 => absurd c194 (by omega))
                          refine ab_vret rfl d_MO_item_171 ?_
                          rw [hQ]; exact (Or.inl ⟨_, _, _, _, _, _, _, _, _, _, rfl, hfr, hlen, hsl, h80, h87, h88, h93, (by omega), (by first | exact jmk | exact rgs_w jmk (by omega))⟩)
                  · cases hv
                    rw [hGe]
                    change ab_W _ _ _ G109 113 [some (vR 80), some (vz m_at), some (vz v2115), some (vz v2115)] [vz (-1)] _
                    exfalso; omega
                · cases hv
                  rw [hGe]
                  change ab_W _ _ _ G109 105 [some (vR 80), some (vz m_at), some (vz v2115), some (vz v2115)] [vz (-1)] _
                  refine zz_if_lt (tgt := 153) d_MO_item_105 (by decide) (by decide) (fun c195 => ?_) (fun c195 => absurd c195 (by decide))
                  refine ab_aload_n d_MO_item_153 rfl ?_
                  refine ab_getf (fs := mof m_thrown m_taped m_length m_out m_wide m_gathered m_sets m_ranges m_nodes a2114 m_flags m_fault m_place m_numbered m_depth v2115 m_isNot m_least0 m_most0 m_slot m_work m_got m_rowMany m_charAt m_charWide m_trail m_isMatch m_matchGroups m_allFrom m_allBefore m_founds m_pieces m_writtenMany m_templateWide m_tooMuch) f_MO_273 d_MO_item_154 h80.2.2 rfl ?_
                  refine zz_if_ne (tgt := 171) d_MO_item_157 (by decide) (by omega) (fun c196 => absurd c196 (by omega)) (fun c196 => ?_)
                  refine ab_aload_n d_MO_item_160 rfl ?_
                  refine ab_iload_n d_MO_item_161 rfl ?_
                  refine ab_iload_n d_MO_item_162 rfl ?_
                  refine ab_aload_n d_MO_item_163 rfl ?_
                  refine zz_iconst d_MO_item_164 ?_
                  refine ab_callV (d' := d - 1) (as := [vz 1]) (st := [vz v2115, vz v2115, vR 80]) (r := _) (z_MO_has (o := o) (m_thrown := m_thrown) (m_taped := m_taped) (m_length := m_length) (m_out := m_out) (m_wide := m_wide) (m_gathered := m_gathered) (m_sets := m_sets) (m_ranges := m_ranges) (m_nodes := m_nodes) (m_at := a2114) (m_flags := m_flags) (m_fault := m_fault) (m_place := m_place) (m_numbered := m_numbered) (m_depth := m_depth) (m_value := v2115) (m_isNot := m_isNot) (m_least0 := m_least0) (m_most0 := m_most0) (m_slot := m_slot) (m_work := m_work) (m_got := m_got) (m_rowMany := m_rowMany) (m_charAt := m_charAt) (m_charWide := m_charWide) (m_trail := m_trail) (m_isMatch := m_isMatch) (m_matchGroups := m_matchGroups) (m_allFrom := m_allFrom) (m_allBefore := m_allBefore) (m_founds := m_founds) (m_pieces := m_pieces) (m_writtenMany := m_writtenMany) (m_templateWide := m_templateWide) (m_tooMuch := m_tooMuch) (x := 1) h80) (fun oc G2 h => by rcases h with ⟨_, h, _⟩ <;> exact ⟨_, h⟩) (by omega) m_MO_has ml_MO_355 im_MO_has se_MO_has c_MO h80.2.2 (Nat.le_of_ble_eq_true rfl) d_MO_item_165 rfl ?_
                  intro v G197 hq
                  rcases hq with ⟨v198, hv, hGe, hq199⟩
                  cases hv
                  rw [hGe]
                  change ab_W _ _ _ G109 168 [some (vR 80), some (vz m_at), some (vz v2115), some (vz v2115)] [vz v198, vz v2115, vz v2115, vR 80] _
                  refine ab_callV (d' := d - 1) (as := [vz v2115, vz v2115, vz v198]) (st := []) (r := _) (z_MO_gatherLike (o := o) (m_thrown := m_thrown) (m_taped := m_taped) (m_length := m_length) (m_out := m_out) (m_wide := m_wide) (m_gathered := m_gathered) (m_sets := m_sets) (m_ranges := m_ranges) (m_nodes := m_nodes) (m_at := a2114) (m_flags := m_flags) (m_fault := m_fault) (m_place := m_place) (m_numbered := m_numbered) (m_depth := m_depth) (m_value := v2115) (m_isNot := m_isNot) (m_least0 := m_least0) (m_most0 := m_most0) (m_slot := m_slot) (m_work := m_work) (m_got := m_got) (m_rowMany := m_rowMany) (m_charAt := m_charAt) (m_charWide := m_charWide) (m_trail := m_trail) (m_isMatch := m_isMatch) (m_matchGroups := m_matchGroups) (m_allFrom := m_allFrom) (m_allBefore := m_allBefore) (m_founds := m_founds) (m_pieces := m_pieces) (m_writtenMany := m_writtenMany) (m_templateWide := m_templateWide) (m_tooMuch := m_tooMuch) (LO := LO) (HI := HI) (MK := MK) (P := P) (a := v2115) (b := v2115) (lk := v198) h80 h87 h88 h93 (by omega) (by omega) (by omega) (by omega) jmk jc (by omega)) (fun oc G2 h => by rcases h with ⟨_, _, _, h, _⟩ <;> exact ⟨_, h⟩) (by omega) m_MO_gatherLike ml_MO_358 im_MO_gatherLike se_MO_gatherLike c_MO h80.2.2 (Nat.le_of_ble_eq_true rfl) d_MO_item_168 rfl ?_
                  intro v G200 hq
                  rcases hq with ⟨LO2201, HI2202, MK2203, hv, hfk, hlk, hsk, hN80, hN87, hN88, hN93, hq204, hq205⟩
                  cases hv
                  have h84 := hfk.get h84 (by decide)
                  have h81 := hfk.get h81 (by decide)
                  have h82 := hfk.get h82 (by decide)
                  have hfr := hfr.tr hfk (by decide)
                  have hlen := hlk.trans hlen
                  have hsl := hsk.trans hsl
                  have h80 := hN80
                  have h87 := hN87
                  have h88 := hN88
                  have h93 := hN93
                  change ab_W _ _ _ G200 171 [some (vR 80), some (vz m_at), some (vz v2115), some (vz v2115)] [] _
                  refine ab_vret rfl d_MO_item_171 ?_
                  rw [hQ]; exact (Or.inr ⟨_, _, _, _, _, (mm + 11), _, _, _, (fun x => P x ∨ lkS v198 v2115 v2115 x), rfl, hfr, hlen, hsl, h80, h87, h88, h93, (by omega), (by first | exact hq204 | exact rgs_w hq204 (by omega)), (by exact hq205), (by exact lfc_or jl (lfc_lk1 (by omega) (by omega)))⟩)
            · cases hv
              rw [hGe]
              change ab_W _ _ _ G109 95 [some (vR 80), some (vz m_at), some (vz v2115), some (vz v2115)] [vz (-1)] _
              refine zz_bipush d_MO_item_95 (by decide) ?_
              refine zz_icmp_ne (tgt := 153) d_MO_item_97 (by decide) (by decide) (by decide) (fun c206 => ?_) (fun c206 => absurd c206 (by decide))
              refine ab_aload_n d_MO_item_153 rfl ?_
              refine ab_getf (fs := mof m_thrown m_taped m_length m_out m_wide m_gathered m_sets m_ranges m_nodes a2114 m_flags m_fault m_place m_numbered m_depth v2115 m_isNot m_least0 m_most0 m_slot m_work m_got m_rowMany m_charAt m_charWide m_trail m_isMatch m_matchGroups m_allFrom m_allBefore m_founds m_pieces m_writtenMany m_templateWide m_tooMuch) f_MO_273 d_MO_item_154 h80.2.2 rfl ?_
              refine zz_if_ne (tgt := 171) d_MO_item_157 (by decide) (by omega) (fun c207 => absurd c207 (by omega)) (fun c207 => ?_)
              refine ab_aload_n d_MO_item_160 rfl ?_
              refine ab_iload_n d_MO_item_161 rfl ?_
              refine ab_iload_n d_MO_item_162 rfl ?_
              refine ab_aload_n d_MO_item_163 rfl ?_
              refine zz_iconst d_MO_item_164 ?_
              refine ab_callV (d' := d - 1) (as := [vz 1]) (st := [vz v2115, vz v2115, vR 80]) (r := _) (z_MO_has (o := o) (m_thrown := m_thrown) (m_taped := m_taped) (m_length := m_length) (m_out := m_out) (m_wide := m_wide) (m_gathered := m_gathered) (m_sets := m_sets) (m_ranges := m_ranges) (m_nodes := m_nodes) (m_at := a2114) (m_flags := m_flags) (m_fault := m_fault) (m_place := m_place) (m_numbered := m_numbered) (m_depth := m_depth) (m_value := v2115) (m_isNot := m_isNot) (m_least0 := m_least0) (m_most0 := m_most0) (m_slot := m_slot) (m_work := m_work) (m_got := m_got) (m_rowMany := m_rowMany) (m_charAt := m_charAt) (m_charWide := m_charWide) (m_trail := m_trail) (m_isMatch := m_isMatch) (m_matchGroups := m_matchGroups) (m_allFrom := m_allFrom) (m_allBefore := m_allBefore) (m_founds := m_founds) (m_pieces := m_pieces) (m_writtenMany := m_writtenMany) (m_templateWide := m_templateWide) (m_tooMuch := m_tooMuch) (x := 1) h80) (fun oc G2 h => by rcases h with ⟨_, h, _⟩ <;> exact ⟨_, h⟩) (by omega) m_MO_has ml_MO_355 im_MO_has se_MO_has c_MO h80.2.2 (Nat.le_of_ble_eq_true rfl) d_MO_item_165 rfl ?_
              intro v G208 hq
              rcases hq with ⟨v209, hv, hGe, hq210⟩
              cases hv
              rw [hGe]
              change ab_W _ _ _ G109 168 [some (vR 80), some (vz m_at), some (vz v2115), some (vz v2115)] [vz v209, vz v2115, vz v2115, vR 80] _
              refine ab_callV (d' := d - 1) (as := [vz v2115, vz v2115, vz v209]) (st := []) (r := _) (z_MO_gatherLike (o := o) (m_thrown := m_thrown) (m_taped := m_taped) (m_length := m_length) (m_out := m_out) (m_wide := m_wide) (m_gathered := m_gathered) (m_sets := m_sets) (m_ranges := m_ranges) (m_nodes := m_nodes) (m_at := a2114) (m_flags := m_flags) (m_fault := m_fault) (m_place := m_place) (m_numbered := m_numbered) (m_depth := m_depth) (m_value := v2115) (m_isNot := m_isNot) (m_least0 := m_least0) (m_most0 := m_most0) (m_slot := m_slot) (m_work := m_work) (m_got := m_got) (m_rowMany := m_rowMany) (m_charAt := m_charAt) (m_charWide := m_charWide) (m_trail := m_trail) (m_isMatch := m_isMatch) (m_matchGroups := m_matchGroups) (m_allFrom := m_allFrom) (m_allBefore := m_allBefore) (m_founds := m_founds) (m_pieces := m_pieces) (m_writtenMany := m_writtenMany) (m_templateWide := m_templateWide) (m_tooMuch := m_tooMuch) (LO := LO) (HI := HI) (MK := MK) (P := P) (a := v2115) (b := v2115) (lk := v209) h80 h87 h88 h93 (by omega) (by omega) (by omega) (by omega) jmk jc (by omega)) (fun oc G2 h => by rcases h with ⟨_, _, _, h, _⟩ <;> exact ⟨_, h⟩) (by omega) m_MO_gatherLike ml_MO_358 im_MO_gatherLike se_MO_gatherLike c_MO h80.2.2 (Nat.le_of_ble_eq_true rfl) d_MO_item_168 rfl ?_
              intro v G211 hq
              rcases hq with ⟨LO2212, HI2213, MK2214, hv, hfk, hlk, hsk, hN80, hN87, hN88, hN93, hq215, hq216⟩
              cases hv
              have h84 := hfk.get h84 (by decide)
              have h81 := hfk.get h81 (by decide)
              have h82 := hfk.get h82 (by decide)
              have hfr := hfr.tr hfk (by decide)
              have hlen := hlk.trans hlen
              have hsl := hsk.trans hsl
              have h80 := hN80
              have h87 := hN87
              have h88 := hN88
              have h93 := hN93
              change ab_W _ _ _ G211 171 [some (vR 80), some (vz m_at), some (vz v2115), some (vz v2115)] [] _
              refine ab_vret rfl d_MO_item_171 ?_
              rw [hQ]; exact (Or.inr ⟨_, _, _, _, _, (mm + 11), _, _, _, (fun x => P x ∨ lkS v209 v2115 v2115 x), rfl, hfr, hlen, hsl, h80, h87, h88, h93, (by omega), (by first | exact hq215 | exact rgs_w hq215 (by omega)), (by exact hq216), (by exact lfc_or jl (lfc_lk1 (by omega) (by omega)))⟩)
          · cases hv
            have h84 := hfk.get h84 (by decide)
            have h93 := hfk.get h93 (by decide)
            have h87 := hfk.get h87 (by decide)
            have h88 := hfk.get h88 (by decide)
            have h81 := hfk.get h81 (by decide)
            have h82 := hfk.get h82 (by decide)
            have hfr := hfr.tr hfk (by decide)
            have hlen := hlk.trans hlen
            have hsl := hsk.trans hsl
            have h80 := hN80
            change ab_W _ _ _ G109 45 [some (vR 80), some (vz m_at), none, none] [vz 1] _
            refine ab_istore_n d_MO_item_45 (Nat.le_of_ble_eq_true rfl) (Nat.le_of_ble_eq_true rfl) rfl ?_
            change ab_W _ _ _ G109 46 [some (vR 80), some (vz m_at), none, some (vz 1)] [] _
            refine ab_iload_n d_MO_item_46 rfl ?_
            refine zz_iconst d_MO_item_47 ?_
            refine zz_icmp_ne (tgt := 63) d_MO_item_48 (by decide) (by decide) (by decide) (fun c217 => absurd c217 (by decide)) (fun c217 => ?_)
            refine ab_aload_n d_MO_item_51 rfl ?_
            refine ab_aload_n d_MO_item_52 rfl ?_
            refine ab_getf (fs := mof m_thrown m_taped m_length m_out m_wide m_gathered m_sets m_ranges m_nodes a2117 m_flags m_fault m_place m_numbered m_depth v2118 nt2119 m_least0 m_most0 m_slot m_work m_got m_rowMany m_charAt m_charWide m_trail m_isMatch m_matchGroups m_allFrom m_allBefore m_founds m_pieces m_writtenMany m_templateWide m_tooMuch) f_MO_307 d_MO_item_53 h80.2.2 rfl ?_
            refine ab_aload_n d_MO_item_56 rfl ?_
            refine ab_getf (fs := mof m_thrown m_taped m_length m_out m_wide m_gathered m_sets m_ranges m_nodes a2117 m_flags m_fault m_place m_numbered m_depth v2118 nt2119 m_least0 m_most0 m_slot m_work m_got m_rowMany m_charAt m_charWide m_trail m_isMatch m_matchGroups m_allFrom m_allBefore m_founds m_pieces m_writtenMany m_templateWide m_tooMuch) f_MO_319 d_MO_item_57 h80.2.2 rfl ?_
            refine ab_callV (d' := d - 1) (as := [vz v2118, vz nt2119]) (st := []) (r := _) (z_MO_gatherNamed (o := o) (m_thrown := m_thrown) (m_taped := m_taped) (m_length := m_length) (m_out := m_out) (m_wide := m_wide) (m_gathered := m_gathered) (m_sets := m_sets) (m_ranges := m_ranges) (m_nodes := m_nodes) (m_at := a2117) (m_flags := m_flags) (m_fault := m_fault) (m_place := m_place) (m_numbered := m_numbered) (m_depth := m_depth) (m_value := v2118) (m_isNot := nt2119) (m_least0 := m_least0) (m_most0 := m_most0) (m_slot := m_slot) (m_work := m_work) (m_got := m_got) (m_rowMany := m_rowMany) (m_charAt := m_charAt) (m_charWide := m_charWide) (m_trail := m_trail) (m_isMatch := m_isMatch) (m_matchGroups := m_matchGroups) (m_allFrom := m_allFrom) (m_allBefore := m_allBefore) (m_founds := m_founds) (m_pieces := m_pieces) (m_writtenMany := m_writtenMany) (m_templateWide := m_templateWide) (m_tooMuch := m_tooMuch) (LO := LO) (HI := HI) (MK := MK) (P := P) (w := v2118) (nt := nt2119) (mm := mm) h80 h87 h88 h81 h82 (by omega) (by omega) jc jl (by omega)) (fun oc G2 h => by rcases h with ⟨_, _, _, _, h, _⟩ <;> exact ⟨_, h⟩) (by omega) m_MO_gatherNamed ml_MO_337 im_MO_gatherNamed se_MO_gatherNamed c_MO h80.2.2 (Nat.le_of_ble_eq_true rfl) d_MO_item_60 rfl ?_
            intro v G218 hq
            rcases hq with ⟨g2219, LO2220, HI2221, P2222, hv, hfk, hlk, hsk, hN80, hN87, hN88, hq223, hq224, hq225, hq226⟩
            cases hv
            have h84 := hfk.get h84 (by decide)
            have h93 := hfk.get h93 (by decide)
            have h81 := hfk.get h81 (by decide)
            have h82 := hfk.get h82 (by decide)
            have hfr := hfr.tr hfk (by decide)
            have hlen := hlk.trans hlen
            have hsl := hsk.trans hsl
            have h80 := hN80
            have h87 := hN87
            have h88 := hN88
            change ab_W _ _ _ G218 63 [some (vR 80), some (vz m_at), none, some (vz 1)] [] _
            refine ab_iload_n d_MO_item_63 rfl ?_
            refine zz_if_eq (tgt := 68) d_MO_item_64 (by decide) (by decide) (fun c227 => absurd c227 (by decide)) (fun c227 => ?_)
            refine ab_vret rfl d_MO_item_67 ?_
            rw [hQ]; exact (Or.inr ⟨_, _, _, _, _, (mm + g2219 - m_gathered), _, _, _, P2222, rfl, hfr, hlen, hsl, h80, h87, h88, h93, (by omega), (by first | exact jmk | exact rgs_w jmk (by omega)), (by exact hq225), (by exact lfc_w hq226 (by omega))⟩)
          · cases hv
            have h84 := hfk.get h84 (by decide)
            have h93 := hfk.get h93 (by decide)
            have h87 := hfk.get h87 (by decide)
            have h88 := hfk.get h88 (by decide)
            have h81 := hfk.get h81 (by decide)
            have h82 := hfk.get h82 (by decide)
            have hfr := hfr.tr hfk (by decide)
            have hlen := hlk.trans hlen
            have hsl := hsk.trans hsl
            have h80 := hN80
            change ab_W _ _ _ G109 45 [some (vR 80), some (vz m_at), none, none] [vz 2] _
            exfalso; omega
          · cases hv
            have h84 := hfk.get h84 (by decide)
            have h93 := hfk.get h93 (by decide)
            have h87 := hfk.get h87 (by decide)
            have h88 := hfk.get h88 (by decide)
            have h81 := hfk.get h81 (by decide)
            have h82 := hfk.get h82 (by decide)
            have hfr := hfr.tr hfk (by decide)
            have hlen := hlk.trans hlen
            have hsl := hsk.trans hsl
            have h80 := hN80
            change ab_W _ _ _ G109 45 [some (vR 80), some (vz m_at), none, none] [vz 3] _
            exfalso; omega
      · cases hv
        rw [hGe]
        change ab_W _ _ _ G 35 [some (vR 80), some (vz m_at), none, none] [vz (-1)] _
        exfalso; omega
    · refine ab_aload_n d_MO_item_15 rfl ?_
      refine zz_iconst d_MO_item_16 ?_
      refine ab_callV (d' := d - 1) (as := [vz 1]) (st := []) (r := _) (z_MO_here (o := o) (m_thrown := m_thrown) (m_taped := m_taped) (m_length := m_length) (m_out := m_out) (m_wide := m_wide) (m_gathered := m_gathered) (m_sets := m_sets) (m_ranges := m_ranges) (m_nodes := m_nodes) (m_at := m_at) (m_flags := m_flags) (m_fault := m_fault) (m_place := m_place) (m_numbered := m_numbered) (m_depth := m_depth) (m_value := m_value) (m_isNot := m_isNot) (m_least0 := m_least0) (m_most0 := m_most0) (m_slot := m_slot) (m_work := m_work) (m_got := m_got) (m_rowMany := m_rowMany) (m_charAt := m_charAt) (m_charWide := m_charWide) (m_trail := m_trail) (m_isMatch := m_isMatch) (m_matchGroups := m_matchGroups) (m_allFrom := m_allFrom) (m_allBefore := m_allBefore) (m_founds := m_founds) (m_pieces := m_pieces) (m_writtenMany := m_writtenMany) (m_templateWide := m_templateWide) (m_tooMuch := m_tooMuch) (A_tape := A_tape) (k := 1) h80 h84 (by omega) (by omega) jtp (by omega)) (fun oc G2 h => by rcases h with ⟨h, _⟩ | ⟨h, _⟩ <;> exact ⟨_, h⟩) (by omega) m_MO_here ml_MO_297 im_MO_here se_MO_here c_MO h80.2.2 (Nat.le_of_ble_eq_true rfl) d_MO_item_17 rfl ?_
      intro v G228 hq
      rcases hq with ⟨hv, hGe, hq229⟩ | ⟨hv, hGe, hq230⟩
      · cases hv
        rw [hGe]
        change ab_W _ _ _ G 20 [some (vR 80), some (vz m_at), none, none] [vz (A_tape (m_at + 1))] _
        refine zz_bipush d_MO_item_20 (by decide) ?_
        refine zz_icmp_ne (tgt := 30) d_MO_item_22 (by decide) (by omega) (by decide) (fun c231 => ?_) (fun c231 => ?_)
        · refine ab_aload_n d_MO_item_30 rfl ?_
          refine zz_iconst d_MO_item_31 ?_
          refine ab_callV (d' := d - 1) (as := [vz 0]) (st := []) (r := _) (z_MO_here (o := o) (m_thrown := m_thrown) (m_taped := m_taped) (m_length := m_length) (m_out := m_out) (m_wide := m_wide) (m_gathered := m_gathered) (m_sets := m_sets) (m_ranges := m_ranges) (m_nodes := m_nodes) (m_at := m_at) (m_flags := m_flags) (m_fault := m_fault) (m_place := m_place) (m_numbered := m_numbered) (m_depth := m_depth) (m_value := m_value) (m_isNot := m_isNot) (m_least0 := m_least0) (m_most0 := m_most0) (m_slot := m_slot) (m_work := m_work) (m_got := m_got) (m_rowMany := m_rowMany) (m_charAt := m_charAt) (m_charWide := m_charWide) (m_trail := m_trail) (m_isMatch := m_isMatch) (m_matchGroups := m_matchGroups) (m_allFrom := m_allFrom) (m_allBefore := m_allBefore) (m_founds := m_founds) (m_pieces := m_pieces) (m_writtenMany := m_writtenMany) (m_templateWide := m_templateWide) (m_tooMuch := m_tooMuch) (A_tape := A_tape) (k := 0) h80 h84 (by omega) (by omega) jtp (by omega)) (fun oc G2 h => by rcases h with ⟨h, _⟩ | ⟨h, _⟩ <;> exact ⟨_, h⟩) (by omega) m_MO_here ml_MO_297 im_MO_here se_MO_here c_MO h80.2.2 (Nat.le_of_ble_eq_true rfl) d_MO_item_32 rfl ?_
          intro v G232 hq
          rcases hq with ⟨hv, hGe, hq233⟩ | ⟨hv, hGe, hq234⟩
          · cases hv
            rw [hGe]
            change ab_W _ _ _ G 35 [some (vR 80), some (vz m_at), none, none] [vz (A_tape (m_at + 0))] _
            refine zz_bipush d_MO_item_35 (by decide) ?_
            refine zz_icmp_ne (tgt := 76) d_MO_item_37 (by decide) (by omega) (by decide) (fun c235 => ?_) (fun c235 => absurd c235 (by omega))
            refine ab_aload_n d_MO_item_76 rfl ?_
            refine ab_callV (d' := d - 1) (as := []) (st := []) (r := _) (z_MO_plain (o := o) (m_thrown := m_thrown) (m_taped := m_taped) (m_length := m_length) (m_out := m_out) (m_wide := m_wide) (m_gathered := m_gathered) (m_sets := m_sets) (m_ranges := m_ranges) (m_nodes := m_nodes) (m_at := m_at) (m_flags := m_flags) (m_fault := m_fault) (m_place := m_place) (m_numbered := m_numbered) (m_depth := m_depth) (m_value := m_value) (m_isNot := m_isNot) (m_least0 := m_least0) (m_most0 := m_most0) (m_slot := m_slot) (m_work := m_work) (m_got := m_got) (m_rowMany := m_rowMany) (m_charAt := m_charAt) (m_charWide := m_charWide) (m_trail := m_trail) (m_isMatch := m_isMatch) (m_matchGroups := m_matchGroups) (m_allFrom := m_allFrom) (m_allBefore := m_allBefore) (m_founds := m_founds) (m_pieces := m_pieces) (m_writtenMany := m_writtenMany) (m_templateWide := m_templateWide) (m_tooMuch := m_tooMuch) (A_tape := A_tape) h80 h84 (by omega) (by omega) jtp (by omega) (by omega) (by omega)) (fun oc G2 h => by rcases h with ⟨_, _, _, h, _⟩ | ⟨_, _, _, h, _⟩ <;> exact ⟨_, h⟩) (by omega) m_MO_plain ml_MO_348 im_MO_plain se_MO_plain c_MO h80.2.2 (Nat.le_of_ble_eq_true rfl) d_MO_item_77 rfl ?_
            intro v G236 hq
            rcases hq with ⟨w2237, f2238, p2239, hv, hfk, hlk, hsk, hN80, hq240⟩ | ⟨v241, w2242, a2243, hv, hfk, hlk, hsk, hN80, hq244⟩
            · cases hv
              have h84 := hfk.get h84 (by decide)
              have h93 := hfk.get h93 (by decide)
              have h87 := hfk.get h87 (by decide)
              have h88 := hfk.get h88 (by decide)
              have h81 := hfk.get h81 (by decide)
              have h82 := hfk.get h82 (by decide)
              have hfr := hfr.tr hfk (by decide)
              have hlen := hlk.trans hlen
              have hsl := hsk.trans hsl
              have h80 := hN80
              change ab_W _ _ _ G236 80 [some (vR 80), some (vz m_at), none, none] [vz (-1)] _
              refine ab_istore_n d_MO_item_80 (Nat.le_of_ble_eq_true rfl) (Nat.le_of_ble_eq_true rfl) rfl ?_
              change ab_W _ _ _ G236 81 [some (vR 80), some (vz m_at), some (vz (-1)), none] [] _
              refine ab_iload_n d_MO_item_81 rfl ?_
              refine ab_istore_n d_MO_item_82 (Nat.le_of_ble_eq_true rfl) (Nat.le_of_ble_eq_true rfl) rfl ?_
              change ab_W _ _ _ G236 83 [some (vR 80), some (vz m_at), some (vz (-1)), some (vz (-1))] [] _
              refine ab_aload_n d_MO_item_83 rfl ?_
              refine ab_getf (fs := mof m_thrown m_taped m_length m_out w2237 m_gathered m_sets m_ranges m_nodes m_at m_flags f2238 p2239 m_numbered m_depth m_value m_isNot m_least0 m_most0 m_slot m_work m_got m_rowMany m_charAt m_charWide m_trail m_isMatch m_matchGroups m_allFrom m_allBefore m_founds m_pieces m_writtenMany m_templateWide m_tooMuch) f_MO_273 d_MO_item_84 h80.2.2 rfl ?_
              refine zz_if_ne (tgt := 153) d_MO_item_87 (by decide) (by omega) (fun c245 => ?_) (fun c245 => absurd c245 (by omega))
              refine ab_aload_n d_MO_item_153 rfl ?_
              refine ab_getf (fs := mof m_thrown m_taped m_length m_out w2237 m_gathered m_sets m_ranges m_nodes m_at m_flags f2238 p2239 m_numbered m_depth m_value m_isNot m_least0 m_most0 m_slot m_work m_got m_rowMany m_charAt m_charWide m_trail m_isMatch m_matchGroups m_allFrom m_allBefore m_founds m_pieces m_writtenMany m_templateWide m_tooMuch) f_MO_273 d_MO_item_154 h80.2.2 rfl ?_
              refine zz_if_ne (tgt := 171) d_MO_item_157 (by decide) (by omega) (fun c246 => ?_) (fun c246 => absurd c246 (by omega))
              refine ab_vret rfl d_MO_item_171 ?_
              rw [hQ]; exact (Or.inl ⟨_, _, _, _, _, _, _, _, _, _, rfl, hfr, hlen, hsl, h80, h87, h88, h93, (by omega), (by first | exact jmk | exact rgs_w jmk (by omega))⟩)
            · cases hv
              have h84 := hfk.get h84 (by decide)
              have h93 := hfk.get h93 (by decide)
              have h87 := hfk.get h87 (by decide)
              have h88 := hfk.get h88 (by decide)
              have h81 := hfk.get h81 (by decide)
              have h82 := hfk.get h82 (by decide)
              have hfr := hfr.tr hfk (by decide)
              have hlen := hlk.trans hlen
              have hsl := hsk.trans hsl
              have h80 := hN80
              change ab_W _ _ _ G236 80 [some (vR 80), some (vz m_at), none, none] [vz v241] _
              refine ab_istore_n d_MO_item_80 (Nat.le_of_ble_eq_true rfl) (Nat.le_of_ble_eq_true rfl) rfl ?_
              change ab_W _ _ _ G236 81 [some (vR 80), some (vz m_at), some (vz v241), none] [] _
              refine ab_iload_n d_MO_item_81 rfl ?_
              refine ab_istore_n d_MO_item_82 (Nat.le_of_ble_eq_true rfl) (Nat.le_of_ble_eq_true rfl) rfl ?_
              change ab_W _ _ _ G236 83 [some (vR 80), some (vz m_at), some (vz v241), some (vz v241)] [] _
              refine ab_aload_n d_MO_item_83 rfl ?_
              refine ab_getf (fs := mof m_thrown m_taped m_length m_out w2242 m_gathered m_sets m_ranges m_nodes a2243 m_flags m_fault m_place m_numbered m_depth m_value m_isNot m_least0 m_most0 m_slot m_work m_got m_rowMany m_charAt m_charWide m_trail m_isMatch m_matchGroups m_allFrom m_allBefore m_founds m_pieces m_writtenMany m_templateWide m_tooMuch) f_MO_273 d_MO_item_84 h80.2.2 rfl ?_
              refine zz_if_ne (tgt := 153) d_MO_item_87 (by decide) (by omega) (fun c247 => absurd c247 (by omega)) (fun c247 => ?_)
              refine ab_aload_n d_MO_item_90 rfl ?_
              refine zz_iconst d_MO_item_91 ?_
              refine ab_callV (d' := d - 1) (as := [vz 0]) (st := []) (r := _) (z_MO_here (o := o) (m_thrown := m_thrown) (m_taped := m_taped) (m_length := m_length) (m_out := m_out) (m_wide := w2242) (m_gathered := m_gathered) (m_sets := m_sets) (m_ranges := m_ranges) (m_nodes := m_nodes) (m_at := a2243) (m_flags := m_flags) (m_fault := m_fault) (m_place := m_place) (m_numbered := m_numbered) (m_depth := m_depth) (m_value := m_value) (m_isNot := m_isNot) (m_least0 := m_least0) (m_most0 := m_most0) (m_slot := m_slot) (m_work := m_work) (m_got := m_got) (m_rowMany := m_rowMany) (m_charAt := m_charAt) (m_charWide := m_charWide) (m_trail := m_trail) (m_isMatch := m_isMatch) (m_matchGroups := m_matchGroups) (m_allFrom := m_allFrom) (m_allBefore := m_allBefore) (m_founds := m_founds) (m_pieces := m_pieces) (m_writtenMany := m_writtenMany) (m_templateWide := m_templateWide) (m_tooMuch := m_tooMuch) (A_tape := A_tape) (k := 0) h80 h84 (by omega) (by omega) jtp (by omega)) (fun oc G2 h => by rcases h with ⟨h, _⟩ | ⟨h, _⟩ <;> exact ⟨_, h⟩) (by omega) m_MO_here ml_MO_297 im_MO_here se_MO_here c_MO h80.2.2 (Nat.le_of_ble_eq_true rfl) d_MO_item_92 rfl ?_
              intro v G248 hq
              rcases hq with ⟨hv, hGe, hq249⟩ | ⟨hv, hGe, hq250⟩
              · cases hv
                rw [hGe]
                change ab_W _ _ _ G236 95 [some (vR 80), some (vz m_at), some (vz v241), some (vz v241)] [vz (A_tape (a2243 + 0))] _
                refine zz_bipush d_MO_item_95 (by decide) ?_
                refine zz_icmp_ne (tgt := 153) d_MO_item_97 (by decide) (by omega) (by decide) (fun c251 => ?_) (fun c251 => ?_)
                · refine ab_aload_n d_MO_item_153 rfl ?_
                  refine ab_getf (fs := mof m_thrown m_taped m_length m_out w2242 m_gathered m_sets m_ranges m_nodes a2243 m_flags m_fault m_place m_numbered m_depth m_value m_isNot m_least0 m_most0 m_slot m_work m_got m_rowMany m_charAt m_charWide m_trail m_isMatch m_matchGroups m_allFrom m_allBefore m_founds m_pieces m_writtenMany m_templateWide m_tooMuch) f_MO_273 d_MO_item_154 h80.2.2 rfl ?_
                  refine zz_if_ne (tgt := 171) d_MO_item_157 (by decide) (by omega) (fun c252 => absurd c252 (by omega)) (fun c252 => ?_)
                  refine ab_aload_n d_MO_item_160 rfl ?_
                  refine ab_iload_n d_MO_item_161 rfl ?_
                  refine ab_iload_n d_MO_item_162 rfl ?_
                  refine ab_aload_n d_MO_item_163 rfl ?_
                  refine zz_iconst d_MO_item_164 ?_
                  refine ab_callV (d' := d - 1) (as := [vz 1]) (st := [vz v241, vz v241, vR 80]) (r := _) (z_MO_has (o := o) (m_thrown := m_thrown) (m_taped := m_taped) (m_length := m_length) (m_out := m_out) (m_wide := w2242) (m_gathered := m_gathered) (m_sets := m_sets) (m_ranges := m_ranges) (m_nodes := m_nodes) (m_at := a2243) (m_flags := m_flags) (m_fault := m_fault) (m_place := m_place) (m_numbered := m_numbered) (m_depth := m_depth) (m_value := m_value) (m_isNot := m_isNot) (m_least0 := m_least0) (m_most0 := m_most0) (m_slot := m_slot) (m_work := m_work) (m_got := m_got) (m_rowMany := m_rowMany) (m_charAt := m_charAt) (m_charWide := m_charWide) (m_trail := m_trail) (m_isMatch := m_isMatch) (m_matchGroups := m_matchGroups) (m_allFrom := m_allFrom) (m_allBefore := m_allBefore) (m_founds := m_founds) (m_pieces := m_pieces) (m_writtenMany := m_writtenMany) (m_templateWide := m_templateWide) (m_tooMuch := m_tooMuch) (x := 1) h80) (fun oc G2 h => by rcases h with ⟨_, h, _⟩ <;> exact ⟨_, h⟩) (by omega) m_MO_has ml_MO_355 im_MO_has se_MO_has c_MO h80.2.2 (Nat.le_of_ble_eq_true rfl) d_MO_item_165 rfl ?_
                  intro v G253 hq
                  rcases hq with ⟨v254, hv, hGe, hq255⟩
                  cases hv
                  rw [hGe]
                  change ab_W _ _ _ G236 168 [some (vR 80), some (vz m_at), some (vz v241), some (vz v241)] [vz v254, vz v241, vz v241, vR 80] _
                  refine ab_callV (d' := d - 1) (as := [vz v241, vz v241, vz v254]) (st := []) (r := _) (z_MO_gatherLike (o := o) (m_thrown := m_thrown) (m_taped := m_taped) (m_length := m_length) (m_out := m_out) (m_wide := w2242) (m_gathered := m_gathered) (m_sets := m_sets) (m_ranges := m_ranges) (m_nodes := m_nodes) (m_at := a2243) (m_flags := m_flags) (m_fault := m_fault) (m_place := m_place) (m_numbered := m_numbered) (m_depth := m_depth) (m_value := m_value) (m_isNot := m_isNot) (m_least0 := m_least0) (m_most0 := m_most0) (m_slot := m_slot) (m_work := m_work) (m_got := m_got) (m_rowMany := m_rowMany) (m_charAt := m_charAt) (m_charWide := m_charWide) (m_trail := m_trail) (m_isMatch := m_isMatch) (m_matchGroups := m_matchGroups) (m_allFrom := m_allFrom) (m_allBefore := m_allBefore) (m_founds := m_founds) (m_pieces := m_pieces) (m_writtenMany := m_writtenMany) (m_templateWide := m_templateWide) (m_tooMuch := m_tooMuch) (LO := LO) (HI := HI) (MK := MK) (P := P) (a := v241) (b := v241) (lk := v254) h80 h87 h88 h93 (by omega) (by omega) (by omega) (by omega) jmk jc (by omega)) (fun oc G2 h => by rcases h with ⟨_, _, _, h, _⟩ <;> exact ⟨_, h⟩) (by omega) m_MO_gatherLike ml_MO_358 im_MO_gatherLike se_MO_gatherLike c_MO h80.2.2 (Nat.le_of_ble_eq_true rfl) d_MO_item_168 rfl ?_
                  intro v G256 hq
                  rcases hq with ⟨LO2257, HI2258, MK2259, hv, hfk, hlk, hsk, hN80, hN87, hN88, hN93, hq260, hq261⟩
                  cases hv
                  have h84 := hfk.get h84 (by decide)
                  have h81 := hfk.get h81 (by decide)
                  have h82 := hfk.get h82 (by decide)
                  have hfr := hfr.tr hfk (by decide)
                  have hlen := hlk.trans hlen
                  have hsl := hsk.trans hsl
                  have h80 := hN80
                  have h87 := hN87
                  have h88 := hN88
                  have h93 := hN93
                  change ab_W _ _ _ G256 171 [some (vR 80), some (vz m_at), some (vz v241), some (vz v241)] [] _
                  refine ab_vret rfl d_MO_item_171 ?_
                  rw [hQ]; exact (Or.inr ⟨_, _, _, _, _, (mm + 11), _, _, _, (fun x => P x ∨ lkS v254 v241 v241 x), rfl, hfr, hlen, hsl, h80, h87, h88, h93, (by omega), (by first | exact hq260 | exact rgs_w hq260 (by omega)), (by exact hq261), (by exact lfc_or jl (lfc_lk1 (by omega) (by omega)))⟩)
                · refine ab_aload_n d_MO_item_100 rfl ?_
                  refine zz_iconst d_MO_item_101 ?_
                  refine ab_callV (d' := d - 1) (as := [vz 1]) (st := []) (r := _) (z_MO_here (o := o) (m_thrown := m_thrown) (m_taped := m_taped) (m_length := m_length) (m_out := m_out) (m_wide := w2242) (m_gathered := m_gathered) (m_sets := m_sets) (m_ranges := m_ranges) (m_nodes := m_nodes) (m_at := a2243) (m_flags := m_flags) (m_fault := m_fault) (m_place := m_place) (m_numbered := m_numbered) (m_depth := m_depth) (m_value := m_value) (m_isNot := m_isNot) (m_least0 := m_least0) (m_most0 := m_most0) (m_slot := m_slot) (m_work := m_work) (m_got := m_got) (m_rowMany := m_rowMany) (m_charAt := m_charAt) (m_charWide := m_charWide) (m_trail := m_trail) (m_isMatch := m_isMatch) (m_matchGroups := m_matchGroups) (m_allFrom := m_allFrom) (m_allBefore := m_allBefore) (m_founds := m_founds) (m_pieces := m_pieces) (m_writtenMany := m_writtenMany) (m_templateWide := m_templateWide) (m_tooMuch := m_tooMuch) (A_tape := A_tape) (k := 1) h80 h84 (by omega) (by omega) jtp (by omega)) (fun oc G2 h => by rcases h with ⟨h, _⟩ | ⟨h, _⟩ <;> exact ⟨_, h⟩) (by omega) m_MO_here ml_MO_297 im_MO_here se_MO_here c_MO h80.2.2 (Nat.le_of_ble_eq_true rfl) d_MO_item_102 rfl ?_
                  intro v G262 hq
                  rcases hq with ⟨hv, hGe, hq263⟩ | ⟨hv, hGe, hq264⟩
                  · cases hv
                    rw [hGe]
                    change ab_W _ _ _ G236 105 [some (vR 80), some (vz m_at), some (vz v241), some (vz v241)] [vz (A_tape (a2243 + 1))] _
                    refine zz_if_lt (tgt := 153) d_MO_item_105 (by decide) (by omega) (fun c265 => absurd c265 (by omega)) (fun c265 => ?_)
                    refine ab_aload_n d_MO_item_108 rfl ?_
                    refine zz_iconst d_MO_item_109 ?_
                    refine ab_callV (d' := d - 1) (as := [vz 1]) (st := []) (r := _) (z_MO_here (o := o) (m_thrown := m_thrown) (m_taped := m_taped) (m_length := m_length) (m_out := m_out) (m_wide := w2242) (m_gathered := m_gathered) (m_sets := m_sets) (m_ranges := m_ranges) (m_nodes := m_nodes) (m_at := a2243) (m_flags := m_flags) (m_fault := m_fault) (m_place := m_place) (m_numbered := m_numbered) (m_depth := m_depth) (m_value := m_value) (m_isNot := m_isNot) (m_least0 := m_least0) (m_most0 := m_most0) (m_slot := m_slot) (m_work := m_work) (m_got := m_got) (m_rowMany := m_rowMany) (m_charAt := m_charAt) (m_charWide := m_charWide) (m_trail := m_trail) (m_isMatch := m_isMatch) (m_matchGroups := m_matchGroups) (m_allFrom := m_allFrom) (m_allBefore := m_allBefore) (m_founds := m_founds) (m_pieces := m_pieces) (m_writtenMany := m_writtenMany) (m_templateWide := m_templateWide) (m_tooMuch := m_tooMuch) (A_tape := A_tape) (k := 1) h80 h84 (by omega) (by omega) jtp (by omega)) (fun oc G2 h => by rcases h with ⟨h, _⟩ | ⟨h, _⟩ <;> exact ⟨_, h⟩) (by omega) m_MO_here ml_MO_297 im_MO_here se_MO_here c_MO h80.2.2 (Nat.le_of_ble_eq_true rfl) d_MO_item_110 rfl ?_
                    intro v G266 hq
                    rcases hq with ⟨hv, hGe, hq267⟩ | ⟨hv, hGe, hq268⟩
                    · cases hv
                      rw [hGe]
                      change ab_W _ _ _ G236 113 [some (vR 80), some (vz m_at), some (vz v241), some (vz v241)] [vz (A_tape (a2243 + 1))] _
                      refine zz_bipush d_MO_item_113 (by decide) ?_
                      refine zz_icmp_eq (tgt := 153) d_MO_item_115 (by decide) (by omega) (by decide) (fun c269 => ?_) (fun c269 => ?_)
                      · refine ab_aload_n d_MO_item_153 rfl ?_
                        refine ab_getf (fs := mof m_thrown m_taped m_length m_out w2242 m_gathered m_sets m_ranges m_nodes a2243 m_flags m_fault m_place m_numbered m_depth m_value m_isNot m_least0 m_most0 m_slot m_work m_got m_rowMany m_charAt m_charWide m_trail m_isMatch m_matchGroups m_allFrom m_allBefore m_founds m_pieces m_writtenMany m_templateWide m_tooMuch) f_MO_273 d_MO_item_154 h80.2.2 rfl ?_
                        refine zz_if_ne (tgt := 171) d_MO_item_157 (by decide) (by omega) (fun c270 => absurd c270 (by omega)) (fun c270 => ?_)
                        refine ab_aload_n d_MO_item_160 rfl ?_
                        refine ab_iload_n d_MO_item_161 rfl ?_
                        refine ab_iload_n d_MO_item_162 rfl ?_
                        refine ab_aload_n d_MO_item_163 rfl ?_
                        refine zz_iconst d_MO_item_164 ?_
                        refine ab_callV (d' := d - 1) (as := [vz 1]) (st := [vz v241, vz v241, vR 80]) (r := _) (z_MO_has (o := o) (m_thrown := m_thrown) (m_taped := m_taped) (m_length := m_length) (m_out := m_out) (m_wide := w2242) (m_gathered := m_gathered) (m_sets := m_sets) (m_ranges := m_ranges) (m_nodes := m_nodes) (m_at := a2243) (m_flags := m_flags) (m_fault := m_fault) (m_place := m_place) (m_numbered := m_numbered) (m_depth := m_depth) (m_value := m_value) (m_isNot := m_isNot) (m_least0 := m_least0) (m_most0 := m_most0) (m_slot := m_slot) (m_work := m_work) (m_got := m_got) (m_rowMany := m_rowMany) (m_charAt := m_charAt) (m_charWide := m_charWide) (m_trail := m_trail) (m_isMatch := m_isMatch) (m_matchGroups := m_matchGroups) (m_allFrom := m_allFrom) (m_allBefore := m_allBefore) (m_founds := m_founds) (m_pieces := m_pieces) (m_writtenMany := m_writtenMany) (m_templateWide := m_templateWide) (m_tooMuch := m_tooMuch) (x := 1) h80) (fun oc G2 h => by rcases h with ⟨_, h, _⟩ <;> exact ⟨_, h⟩) (by omega) m_MO_has ml_MO_355 im_MO_has se_MO_has c_MO h80.2.2 (Nat.le_of_ble_eq_true rfl) d_MO_item_165 rfl ?_
                        intro v G271 hq
                        rcases hq with ⟨v272, hv, hGe, hq273⟩
                        cases hv
                        rw [hGe]
                        change ab_W _ _ _ G236 168 [some (vR 80), some (vz m_at), some (vz v241), some (vz v241)] [vz v272, vz v241, vz v241, vR 80] _
                        refine ab_callV (d' := d - 1) (as := [vz v241, vz v241, vz v272]) (st := []) (r := _) (z_MO_gatherLike (o := o) (m_thrown := m_thrown) (m_taped := m_taped) (m_length := m_length) (m_out := m_out) (m_wide := w2242) (m_gathered := m_gathered) (m_sets := m_sets) (m_ranges := m_ranges) (m_nodes := m_nodes) (m_at := a2243) (m_flags := m_flags) (m_fault := m_fault) (m_place := m_place) (m_numbered := m_numbered) (m_depth := m_depth) (m_value := m_value) (m_isNot := m_isNot) (m_least0 := m_least0) (m_most0 := m_most0) (m_slot := m_slot) (m_work := m_work) (m_got := m_got) (m_rowMany := m_rowMany) (m_charAt := m_charAt) (m_charWide := m_charWide) (m_trail := m_trail) (m_isMatch := m_isMatch) (m_matchGroups := m_matchGroups) (m_allFrom := m_allFrom) (m_allBefore := m_allBefore) (m_founds := m_founds) (m_pieces := m_pieces) (m_writtenMany := m_writtenMany) (m_templateWide := m_templateWide) (m_tooMuch := m_tooMuch) (LO := LO) (HI := HI) (MK := MK) (P := P) (a := v241) (b := v241) (lk := v272) h80 h87 h88 h93 (by omega) (by omega) (by omega) (by omega) jmk jc (by omega)) (fun oc G2 h => by rcases h with ⟨_, _, _, h, _⟩ <;> exact ⟨_, h⟩) (by omega) m_MO_gatherLike ml_MO_358 im_MO_gatherLike se_MO_gatherLike c_MO h80.2.2 (Nat.le_of_ble_eq_true rfl) d_MO_item_168 rfl ?_
                        intro v G274 hq
                        rcases hq with ⟨LO2275, HI2276, MK2277, hv, hfk, hlk, hsk, hN80, hN87, hN88, hN93, hq278, hq279⟩
                        cases hv
                        have h84 := hfk.get h84 (by decide)
                        have h81 := hfk.get h81 (by decide)
                        have h82 := hfk.get h82 (by decide)
                        have hfr := hfr.tr hfk (by decide)
                        have hlen := hlk.trans hlen
                        have hsl := hsk.trans hsl
                        have h80 := hN80
                        have h87 := hN87
                        have h88 := hN88
                        have h93 := hN93
                        change ab_W _ _ _ G274 171 [some (vR 80), some (vz m_at), some (vz v241), some (vz v241)] [] _
                        refine ab_vret rfl d_MO_item_171 ?_
                        rw [hQ]; exact (Or.inr ⟨_, _, _, _, _, (mm + 11), _, _, _, (fun x => P x ∨ lkS v272 v241 v241 x), rfl, hfr, hlen, hsl, h80, h87, h88, h93, (by omega), (by first | exact hq278 | exact rgs_w hq278 (by omega)), (by exact hq279), (by exact lfc_or jl (lfc_lk1 (by omega) (by omega)))⟩)
                      · refine ab_aload_n d_MO_item_118 rfl ?_
                        refine ab_dup d_MO_item_119 rfl ?_
                        refine ab_getf (fs := mof m_thrown m_taped m_length m_out w2242 m_gathered m_sets m_ranges m_nodes a2243 m_flags m_fault m_place m_numbered m_depth m_value m_isNot m_least0 m_most0 m_slot m_work m_got m_rowMany m_charAt m_charWide m_trail m_isMatch m_matchGroups m_allFrom m_allBefore m_founds m_pieces m_writtenMany m_templateWide m_tooMuch) f_MO_279 d_MO_item_120 h80.2.2 rfl ?_
                        refine zz_iconst d_MO_item_123 ?_
                        refine zz_iadd d_MO_item_124 ?_
                        refine ab_putf (fs := mof m_thrown m_taped m_length m_out w2242 m_gathered m_sets m_ranges m_nodes a2243 m_flags m_fault m_place m_numbered m_depth m_value m_isNot m_least0 m_most0 m_slot m_work m_got m_rowMany m_charAt m_charWide m_trail m_isMatch m_matchGroups m_allFrom m_allBefore m_founds m_pieces m_writtenMany m_templateWide m_tooMuch) f_MO_279 (Or.inl rfl) d_MO_item_125 h80.2.2 (Nat.le_of_ble_eq_true rfl) (fun _ => ⟨rfl, rfl⟩) (h80.2.1 (by decide)) ?_
                        obtain ⟨G280, eG280⟩ : ∃ z : ab_G, z = List.set G236 80 (ab_ob 12 (mof m_thrown m_taped m_length m_out w2242 m_gathered m_sets m_ranges m_nodes (a2243 + 1) m_flags m_fault m_place m_numbered m_depth m_value m_isNot m_least0 m_most0 m_slot m_work m_got m_rowMany m_charAt m_charWide m_trail m_isMatch m_matchGroups m_allFrom m_allBefore m_founds m_pieces m_writtenMany m_templateWide m_tooMuch)) := ⟨_, rfl⟩
                        have h84 := h84.keep h80 eG280 (by decide)
                        have h93 := h93.keep h80 eG280 (by decide)
                        have h87 := h87.keep h80 eG280 (by decide)
                        have h88 := h88.keep h80 eG280 (by decide)
                        have h81 := h81.keep h80 eG280 (by decide)
                        have h82 := h82.keep h80 eG280 (by decide)
                        have hlen := (z_len eG280).trans hlen
                        have hsl := (z_sl h80 eG280 rfl).trans hsl
                        have hfr := hfr.wr h80 eG280 (by decide)
                        have h80 := h80.kept eG280
                        change ab_W _ _ _ (List.set G236 80 (ab_ob 12 (mof m_thrown m_taped m_length m_out w2242 m_gathered m_sets m_ranges m_nodes (a2243 + 1) m_flags m_fault m_place m_numbered m_depth m_value m_isNot m_least0 m_most0 m_slot m_work m_got m_rowMany m_charAt m_charWide m_trail m_isMatch m_matchGroups m_allFrom m_allBefore m_founds m_pieces m_writtenMany m_templateWide m_tooMuch))) 128 [some (vR 80), some (vz m_at), some (vz v241), some (vz v241)] [] _
                        rw [← eG280]
                        refine ab_aload_n d_MO_item_128 rfl ?_
                        refine ab_iload_n d_MO_item_129 rfl ?_
                        refine ab_callV (d' := d - 1) (as := [vz m_at]) (st := []) (r := _) (z_MO_rangeEnd (o := o) (m_thrown := m_thrown) (m_taped := m_taped) (m_length := m_length) (m_out := m_out) (m_wide := w2242) (m_gathered := m_gathered) (m_sets := m_sets) (m_ranges := m_ranges) (m_nodes := m_nodes) (m_at := (a2243 + 1)) (m_flags := m_flags) (m_fault := m_fault) (m_place := m_place) (m_numbered := m_numbered) (m_depth := m_depth) (m_value := m_value) (m_isNot := m_isNot) (m_least0 := m_least0) (m_most0 := m_most0) (m_slot := m_slot) (m_work := m_work) (m_got := m_got) (m_rowMany := m_rowMany) (m_charAt := m_charAt) (m_charWide := m_charWide) (m_trail := m_trail) (m_isMatch := m_isMatch) (m_matchGroups := m_matchGroups) (m_allFrom := m_allFrom) (m_allBefore := m_allBefore) (m_founds := m_founds) (m_pieces := m_pieces) (m_writtenMany := m_writtenMany) (m_templateWide := m_templateWide) (m_tooMuch := m_tooMuch) (A_tape := A_tape) (wh := m_at) h80 h84 (by omega) (by omega) jtp (by omega) (by omega) (by omega) (by omega)) (fun oc G2 h => by rcases h with ⟨_, _, _, _, _, _, _, h, _⟩ | ⟨_, _, _, _, h, _⟩ <;> exact ⟨_, h⟩) (by omega) m_MO_rangeEnd ml_MO_352 im_MO_rangeEnd se_MO_rangeEnd c_MO h80.2.2 (Nat.le_of_ble_eq_true rfl) d_MO_item_130 rfl ?_
                        intro v G281 hq
                        rcases hq with ⟨v282, a2283, f2284, p2285, v2286, nt2287, w2288, hv, hfk, hlk, hsk, hN80, hq289⟩ | ⟨v290, a2291, v2292, w2293, hv, hfk, hlk, hsk, hN80, hq294⟩
                        · cases hv
                          have h84 := hfk.get h84 (by decide)
                          have h93 := hfk.get h93 (by decide)
                          have h87 := hfk.get h87 (by decide)
                          have h88 := hfk.get h88 (by decide)
                          have h81 := hfk.get h81 (by decide)
                          have h82 := hfk.get h82 (by decide)
                          have hfr := hfr.tr hfk (by decide)
                          have hlen := hlk.trans hlen
                          have hsl := hsk.trans hsl
                          have h80 := hN80
                          change ab_W _ _ _ G281 133 [some (vR 80), some (vz m_at), some (vz v241), some (vz v241)] [vz v282] _
                          refine ab_istore_n d_MO_item_133 (Nat.le_of_ble_eq_true rfl) (Nat.le_of_ble_eq_true rfl) rfl ?_
                          change ab_W _ _ _ G281 134 [some (vR 80), some (vz m_at), some (vz v241), some (vz v282)] [] _
                          refine ab_aload_n d_MO_item_134 rfl ?_
                          refine ab_getf (fs := mof m_thrown m_taped m_length m_out w2288 m_gathered m_sets m_ranges m_nodes a2283 m_flags f2284 p2285 m_numbered m_depth v2286 nt2287 m_least0 m_most0 m_slot m_work m_got m_rowMany m_charAt m_charWide m_trail m_isMatch m_matchGroups m_allFrom m_allBefore m_founds m_pieces m_writtenMany m_templateWide m_tooMuch) f_MO_273 d_MO_item_135 h80.2.2 rfl ?_
                          refine zz_if_ne (tgt := 153) d_MO_item_138 (by decide) (by omega) (fun c295 => ?_) (fun c295 => absurd c295 (by omega))
                          refine ab_aload_n d_MO_item_153 rfl ?_
                          refine ab_getf (fs := mof m_thrown m_taped m_length m_out w2288 m_gathered m_sets m_ranges m_nodes a2283 m_flags f2284 p2285 m_numbered m_depth v2286 nt2287 m_least0 m_most0 m_slot m_work m_got m_rowMany m_charAt m_charWide m_trail m_isMatch m_matchGroups m_allFrom m_allBefore m_founds m_pieces m_writtenMany m_templateWide m_tooMuch) f_MO_273 d_MO_item_154 h80.2.2 rfl ?_
                          refine zz_if_ne (tgt := 171) d_MO_item_157 (by decide) (by omega) (fun c296 => ?_) (fun c296 => absurd c296 (by omega))
                          refine ab_vret rfl d_MO_item_171 ?_
                          rw [hQ]; exact (Or.inl ⟨_, _, _, _, _, _, _, _, _, _, rfl, hfr, hlen, hsl, h80, h87, h88, h93, (by omega), (by first | exact jmk | exact rgs_w jmk (by omega))⟩)
                        · cases hv
                          have h84 := hfk.get h84 (by decide)
                          have h93 := hfk.get h93 (by decide)
                          have h87 := hfk.get h87 (by decide)
                          have h88 := hfk.get h88 (by decide)
                          have h81 := hfk.get h81 (by decide)
                          have h82 := hfk.get h82 (by decide)
                          have hfr := hfr.tr hfk (by decide)
                          have hlen := hlk.trans hlen
                          have hsl := hsk.trans hsl
                          have h80 := hN80
                          change ab_W _ _ _ G281 133 [some (vR 80), some (vz m_at), some (vz v241), some (vz v241)] [vz v290] _
                          refine ab_istore_n d_MO_item_133 (Nat.le_of_ble_eq_true rfl) (Nat.le_of_ble_eq_true rfl) rfl ?_
                          change ab_W _ _ _ G281 134 [some (vR 80), some (vz m_at), some (vz v241), some (vz v290)] [] _
                          refine ab_aload_n d_MO_item_134 rfl ?_
                          refine ab_getf (fs := mof m_thrown m_taped m_length m_out w2293 m_gathered m_sets m_ranges m_nodes a2291 m_flags m_fault m_place m_numbered m_depth v2292 m_isNot m_least0 m_most0 m_slot m_work m_got m_rowMany m_charAt m_charWide m_trail m_isMatch m_matchGroups m_allFrom m_allBefore m_founds m_pieces m_writtenMany m_templateWide m_tooMuch) f_MO_273 d_MO_item_135 h80.2.2 rfl ?_
                          refine zz_if_ne (tgt := 153) d_MO_item_138 (by decide) (by omega) (fun c297 => absurd c297 (by omega)) (fun c297 => ?_)
                          refine ab_iload_n d_MO_item_141 rfl ?_
                          refine ab_iload_n d_MO_item_142 rfl ?_
                          refine zz_icmp_ge (tgt := 153) d_MO_item_143 (by decide) (by omega) (by omega) (fun c298 => ?_) (fun c298 => ?_)
                          · refine ab_aload_n d_MO_item_153 rfl ?_
                            refine ab_getf (fs := mof m_thrown m_taped m_length m_out w2293 m_gathered m_sets m_ranges m_nodes a2291 m_flags m_fault m_place m_numbered m_depth v2292 m_isNot m_least0 m_most0 m_slot m_work m_got m_rowMany m_charAt m_charWide m_trail m_isMatch m_matchGroups m_allFrom m_allBefore m_founds m_pieces m_writtenMany m_templateWide m_tooMuch) f_MO_273 d_MO_item_154 h80.2.2 rfl ?_
                            refine zz_if_ne (tgt := 171) d_MO_item_157 (by decide) (by omega) (fun c299 => absurd c299 (by omega)) (fun c299 => ?_)
                            refine ab_aload_n d_MO_item_160 rfl ?_
                            refine ab_iload_n d_MO_item_161 rfl ?_
                            refine ab_iload_n d_MO_item_162 rfl ?_
                            refine ab_aload_n d_MO_item_163 rfl ?_
                            refine zz_iconst d_MO_item_164 ?_
                            refine ab_callV (d' := d - 1) (as := [vz 1]) (st := [vz v290, vz v241, vR 80]) (r := _) (z_MO_has (o := o) (m_thrown := m_thrown) (m_taped := m_taped) (m_length := m_length) (m_out := m_out) (m_wide := w2293) (m_gathered := m_gathered) (m_sets := m_sets) (m_ranges := m_ranges) (m_nodes := m_nodes) (m_at := a2291) (m_flags := m_flags) (m_fault := m_fault) (m_place := m_place) (m_numbered := m_numbered) (m_depth := m_depth) (m_value := v2292) (m_isNot := m_isNot) (m_least0 := m_least0) (m_most0 := m_most0) (m_slot := m_slot) (m_work := m_work) (m_got := m_got) (m_rowMany := m_rowMany) (m_charAt := m_charAt) (m_charWide := m_charWide) (m_trail := m_trail) (m_isMatch := m_isMatch) (m_matchGroups := m_matchGroups) (m_allFrom := m_allFrom) (m_allBefore := m_allBefore) (m_founds := m_founds) (m_pieces := m_pieces) (m_writtenMany := m_writtenMany) (m_templateWide := m_templateWide) (m_tooMuch := m_tooMuch) (x := 1) h80) (fun oc G2 h => by rcases h with ⟨_, h, _⟩ <;> exact ⟨_, h⟩) (by omega) m_MO_has ml_MO_355 im_MO_has se_MO_has c_MO h80.2.2 (Nat.le_of_ble_eq_true rfl) d_MO_item_165 rfl ?_
                            intro v G300 hq
                            rcases hq with ⟨v301, hv, hGe, hq302⟩
                            cases hv
                            rw [hGe]
                            change ab_W _ _ _ G281 168 [some (vR 80), some (vz m_at), some (vz v241), some (vz v290)] [vz v301, vz v290, vz v241, vR 80] _
                            refine ab_callV (d' := d - 1) (as := [vz v241, vz v290, vz v301]) (st := []) (r := _) (z_MO_gatherLike (o := o) (m_thrown := m_thrown) (m_taped := m_taped) (m_length := m_length) (m_out := m_out) (m_wide := w2293) (m_gathered := m_gathered) (m_sets := m_sets) (m_ranges := m_ranges) (m_nodes := m_nodes) (m_at := a2291) (m_flags := m_flags) (m_fault := m_fault) (m_place := m_place) (m_numbered := m_numbered) (m_depth := m_depth) (m_value := v2292) (m_isNot := m_isNot) (m_least0 := m_least0) (m_most0 := m_most0) (m_slot := m_slot) (m_work := m_work) (m_got := m_got) (m_rowMany := m_rowMany) (m_charAt := m_charAt) (m_charWide := m_charWide) (m_trail := m_trail) (m_isMatch := m_isMatch) (m_matchGroups := m_matchGroups) (m_allFrom := m_allFrom) (m_allBefore := m_allBefore) (m_founds := m_founds) (m_pieces := m_pieces) (m_writtenMany := m_writtenMany) (m_templateWide := m_templateWide) (m_tooMuch := m_tooMuch) (LO := LO) (HI := HI) (MK := MK) (P := P) (a := v241) (b := v290) (lk := v301) h80 h87 h88 h93 (by omega) (by omega) (by omega) (by omega) jmk jc (by omega)) (fun oc G2 h => by rcases h with ⟨_, _, _, h, _⟩ <;> exact ⟨_, h⟩) (by omega) m_MO_gatherLike ml_MO_358 im_MO_gatherLike se_MO_gatherLike c_MO h80.2.2 (Nat.le_of_ble_eq_true rfl) d_MO_item_168 rfl ?_
                            intro v G303 hq
                            rcases hq with ⟨LO2304, HI2305, MK2306, hv, hfk, hlk, hsk, hN80, hN87, hN88, hN93, hq307, hq308⟩
                            cases hv
                            have h84 := hfk.get h84 (by decide)
                            have h81 := hfk.get h81 (by decide)
                            have h82 := hfk.get h82 (by decide)
                            have hfr := hfr.tr hfk (by decide)
                            have hlen := hlk.trans hlen
                            have hsl := hsk.trans hsl
                            have h80 := hN80
                            have h87 := hN87
                            have h88 := hN88
                            have h93 := hN93
                            change ab_W _ _ _ G303 171 [some (vR 80), some (vz m_at), some (vz v241), some (vz v290)] [] _
                            refine ab_vret rfl d_MO_item_171 ?_
                            rw [hQ]; exact (Or.inr ⟨_, _, _, _, _, (mm + 33), _, _, _, (fun x => P x ∨ lkS v301 v241 v290 x), rfl, hfr, hlen, hsl, h80, h87, h88, h93, (by omega), (by first | exact hq307 | exact rgs_w hq307 (by omega)), (by exact hq308), (by exact lfc_or jl (lfc_lk (by omega)))⟩)
                          · refine ab_aload_n d_MO_item_146 rfl ?_
                            refine zz_bipush d_MO_item_147 (by decide) ?_
                            refine ab_iload_n d_MO_item_149 rfl ?_
                            refine ab_callV (d' := d - 1) (as := [vz 6, vz m_at]) (st := []) (r := _) (z_MO_wrong (o := o) (m_thrown := m_thrown) (m_taped := m_taped) (m_length := m_length) (m_out := m_out) (m_wide := w2293) (m_gathered := m_gathered) (m_sets := m_sets) (m_ranges := m_ranges) (m_nodes := m_nodes) (m_at := a2291) (m_flags := m_flags) (m_fault := m_fault) (m_place := m_place) (m_numbered := m_numbered) (m_depth := m_depth) (m_value := v2292) (m_isNot := m_isNot) (m_least0 := m_least0) (m_most0 := m_most0) (m_slot := m_slot) (m_work := m_work) (m_got := m_got) (m_rowMany := m_rowMany) (m_charAt := m_charAt) (m_charWide := m_charWide) (m_trail := m_trail) (m_isMatch := m_isMatch) (m_matchGroups := m_matchGroups) (m_allFrom := m_allFrom) (m_allBefore := m_allBefore) (m_founds := m_founds) (m_pieces := m_pieces) (m_writtenMany := m_writtenMany) (m_templateWide := m_templateWide) (m_tooMuch := m_tooMuch) (x := 6) (y := m_at) h80 (by omega) (by omega)) (fun oc G2 h => by rcases h with ⟨_, _, h, _⟩ <;> exact ⟨_, h⟩) (by omega) m_MO_wrong ml_MO_304 im_MO_wrong se_MO_wrong c_MO h80.2.2 (Nat.le_of_ble_eq_true rfl) d_MO_item_150 rfl ?_
                            intro v G309 hq
                            rcases hq with ⟨f2310, p2311, hv, hfk, hlk, hsk, hN80, hq312⟩
                            cases hv
                            have h84 := hfk.get h84 (by decide)
                            have h93 := hfk.get h93 (by decide)
                            have h87 := hfk.get h87 (by decide)
                            have h88 := hfk.get h88 (by decide)
                            have h81 := hfk.get h81 (by decide)
                            have h82 := hfk.get h82 (by decide)
                            have hfr := hfr.tr hfk (by decide)
                            have hlen := hlk.trans hlen
                            have hsl := hsk.trans hsl
                            have h80 := hN80
                            change ab_W _ _ _ G309 153 [some (vR 80), some (vz m_at), some (vz v241), some (vz v290)] [] _
                            refine ab_aload_n d_MO_item_153 rfl ?_
                            refine ab_getf (fs := mof m_thrown m_taped m_length m_out w2293 m_gathered m_sets m_ranges m_nodes a2291 m_flags f2310 p2311 m_numbered m_depth v2292 m_isNot m_least0 m_most0 m_slot m_work m_got m_rowMany m_charAt m_charWide m_trail m_isMatch m_matchGroups m_allFrom m_allBefore m_founds m_pieces m_writtenMany m_templateWide m_tooMuch) f_MO_273 d_MO_item_154 h80.2.2 rfl ?_
                            refine zz_if_ne (tgt := 171) d_MO_item_157 (by decide) (by omega) (fun c313 => ?_) (fun c313 => absurd c313 (by omega))
                            refine ab_vret rfl d_MO_item_171 ?_
                            rw [hQ]; exact (Or.inl ⟨_, _, _, _, _, _, _, _, _, _, rfl, hfr, hlen, hsl, h80, h87, h88, h93, (by omega), (by first | exact jmk | exact rgs_w jmk (by omega))⟩)
                    · cases hv
                      rw [hGe]
                      change ab_W _ _ _ G236 113 [some (vR 80), some (vz m_at), some (vz v241), some (vz v241)] [vz (-1)] _
                      exfalso; omega
                  · cases hv
                    rw [hGe]
                    change ab_W _ _ _ G236 105 [some (vR 80), some (vz m_at), some (vz v241), some (vz v241)] [vz (-1)] _
                    refine zz_if_lt (tgt := 153) d_MO_item_105 (by decide) (by decide) (fun c314 => ?_) (fun c314 => absurd c314 (by decide))
                    refine ab_aload_n d_MO_item_153 rfl ?_
                    refine ab_getf (fs := mof m_thrown m_taped m_length m_out w2242 m_gathered m_sets m_ranges m_nodes a2243 m_flags m_fault m_place m_numbered m_depth m_value m_isNot m_least0 m_most0 m_slot m_work m_got m_rowMany m_charAt m_charWide m_trail m_isMatch m_matchGroups m_allFrom m_allBefore m_founds m_pieces m_writtenMany m_templateWide m_tooMuch) f_MO_273 d_MO_item_154 h80.2.2 rfl ?_
                    refine zz_if_ne (tgt := 171) d_MO_item_157 (by decide) (by omega) (fun c315 => absurd c315 (by omega)) (fun c315 => ?_)
                    refine ab_aload_n d_MO_item_160 rfl ?_
                    refine ab_iload_n d_MO_item_161 rfl ?_
                    refine ab_iload_n d_MO_item_162 rfl ?_
                    refine ab_aload_n d_MO_item_163 rfl ?_
                    refine zz_iconst d_MO_item_164 ?_
                    refine ab_callV (d' := d - 1) (as := [vz 1]) (st := [vz v241, vz v241, vR 80]) (r := _) (z_MO_has (o := o) (m_thrown := m_thrown) (m_taped := m_taped) (m_length := m_length) (m_out := m_out) (m_wide := w2242) (m_gathered := m_gathered) (m_sets := m_sets) (m_ranges := m_ranges) (m_nodes := m_nodes) (m_at := a2243) (m_flags := m_flags) (m_fault := m_fault) (m_place := m_place) (m_numbered := m_numbered) (m_depth := m_depth) (m_value := m_value) (m_isNot := m_isNot) (m_least0 := m_least0) (m_most0 := m_most0) (m_slot := m_slot) (m_work := m_work) (m_got := m_got) (m_rowMany := m_rowMany) (m_charAt := m_charAt) (m_charWide := m_charWide) (m_trail := m_trail) (m_isMatch := m_isMatch) (m_matchGroups := m_matchGroups) (m_allFrom := m_allFrom) (m_allBefore := m_allBefore) (m_founds := m_founds) (m_pieces := m_pieces) (m_writtenMany := m_writtenMany) (m_templateWide := m_templateWide) (m_tooMuch := m_tooMuch) (x := 1) h80) (fun oc G2 h => by rcases h with ⟨_, h, _⟩ <;> exact ⟨_, h⟩) (by omega) m_MO_has ml_MO_355 im_MO_has se_MO_has c_MO h80.2.2 (Nat.le_of_ble_eq_true rfl) d_MO_item_165 rfl ?_
                    intro v G316 hq
                    rcases hq with ⟨v317, hv, hGe, hq318⟩
                    cases hv
                    rw [hGe]
                    change ab_W _ _ _ G236 168 [some (vR 80), some (vz m_at), some (vz v241), some (vz v241)] [vz v317, vz v241, vz v241, vR 80] _
                    refine ab_callV (d' := d - 1) (as := [vz v241, vz v241, vz v317]) (st := []) (r := _) (z_MO_gatherLike (o := o) (m_thrown := m_thrown) (m_taped := m_taped) (m_length := m_length) (m_out := m_out) (m_wide := w2242) (m_gathered := m_gathered) (m_sets := m_sets) (m_ranges := m_ranges) (m_nodes := m_nodes) (m_at := a2243) (m_flags := m_flags) (m_fault := m_fault) (m_place := m_place) (m_numbered := m_numbered) (m_depth := m_depth) (m_value := m_value) (m_isNot := m_isNot) (m_least0 := m_least0) (m_most0 := m_most0) (m_slot := m_slot) (m_work := m_work) (m_got := m_got) (m_rowMany := m_rowMany) (m_charAt := m_charAt) (m_charWide := m_charWide) (m_trail := m_trail) (m_isMatch := m_isMatch) (m_matchGroups := m_matchGroups) (m_allFrom := m_allFrom) (m_allBefore := m_allBefore) (m_founds := m_founds) (m_pieces := m_pieces) (m_writtenMany := m_writtenMany) (m_templateWide := m_templateWide) (m_tooMuch := m_tooMuch) (LO := LO) (HI := HI) (MK := MK) (P := P) (a := v241) (b := v241) (lk := v317) h80 h87 h88 h93 (by omega) (by omega) (by omega) (by omega) jmk jc (by omega)) (fun oc G2 h => by rcases h with ⟨_, _, _, h, _⟩ <;> exact ⟨_, h⟩) (by omega) m_MO_gatherLike ml_MO_358 im_MO_gatherLike se_MO_gatherLike c_MO h80.2.2 (Nat.le_of_ble_eq_true rfl) d_MO_item_168 rfl ?_
                    intro v G319 hq
                    rcases hq with ⟨LO2320, HI2321, MK2322, hv, hfk, hlk, hsk, hN80, hN87, hN88, hN93, hq323, hq324⟩
                    cases hv
                    have h84 := hfk.get h84 (by decide)
                    have h81 := hfk.get h81 (by decide)
                    have h82 := hfk.get h82 (by decide)
                    have hfr := hfr.tr hfk (by decide)
                    have hlen := hlk.trans hlen
                    have hsl := hsk.trans hsl
                    have h80 := hN80
                    have h87 := hN87
                    have h88 := hN88
                    have h93 := hN93
                    change ab_W _ _ _ G319 171 [some (vR 80), some (vz m_at), some (vz v241), some (vz v241)] [] _
                    refine ab_vret rfl d_MO_item_171 ?_
                    rw [hQ]; exact (Or.inr ⟨_, _, _, _, _, (mm + 11), _, _, _, (fun x => P x ∨ lkS v317 v241 v241 x), rfl, hfr, hlen, hsl, h80, h87, h88, h93, (by omega), (by first | exact hq323 | exact rgs_w hq323 (by omega)), (by exact hq324), (by exact lfc_or jl (lfc_lk1 (by omega) (by omega)))⟩)
              · cases hv
                rw [hGe]
                change ab_W _ _ _ G236 95 [some (vR 80), some (vz m_at), some (vz v241), some (vz v241)] [vz (-1)] _
                refine zz_bipush d_MO_item_95 (by decide) ?_
                refine zz_icmp_ne (tgt := 153) d_MO_item_97 (by decide) (by decide) (by decide) (fun c325 => ?_) (fun c325 => absurd c325 (by decide))
                refine ab_aload_n d_MO_item_153 rfl ?_
                refine ab_getf (fs := mof m_thrown m_taped m_length m_out w2242 m_gathered m_sets m_ranges m_nodes a2243 m_flags m_fault m_place m_numbered m_depth m_value m_isNot m_least0 m_most0 m_slot m_work m_got m_rowMany m_charAt m_charWide m_trail m_isMatch m_matchGroups m_allFrom m_allBefore m_founds m_pieces m_writtenMany m_templateWide m_tooMuch) f_MO_273 d_MO_item_154 h80.2.2 rfl ?_
                refine zz_if_ne (tgt := 171) d_MO_item_157 (by decide) (by omega) (fun c326 => absurd c326 (by omega)) (fun c326 => ?_)
                refine ab_aload_n d_MO_item_160 rfl ?_
                refine ab_iload_n d_MO_item_161 rfl ?_
                refine ab_iload_n d_MO_item_162 rfl ?_
                refine ab_aload_n d_MO_item_163 rfl ?_
                refine zz_iconst d_MO_item_164 ?_
                refine ab_callV (d' := d - 1) (as := [vz 1]) (st := [vz v241, vz v241, vR 80]) (r := _) (z_MO_has (o := o) (m_thrown := m_thrown) (m_taped := m_taped) (m_length := m_length) (m_out := m_out) (m_wide := w2242) (m_gathered := m_gathered) (m_sets := m_sets) (m_ranges := m_ranges) (m_nodes := m_nodes) (m_at := a2243) (m_flags := m_flags) (m_fault := m_fault) (m_place := m_place) (m_numbered := m_numbered) (m_depth := m_depth) (m_value := m_value) (m_isNot := m_isNot) (m_least0 := m_least0) (m_most0 := m_most0) (m_slot := m_slot) (m_work := m_work) (m_got := m_got) (m_rowMany := m_rowMany) (m_charAt := m_charAt) (m_charWide := m_charWide) (m_trail := m_trail) (m_isMatch := m_isMatch) (m_matchGroups := m_matchGroups) (m_allFrom := m_allFrom) (m_allBefore := m_allBefore) (m_founds := m_founds) (m_pieces := m_pieces) (m_writtenMany := m_writtenMany) (m_templateWide := m_templateWide) (m_tooMuch := m_tooMuch) (x := 1) h80) (fun oc G2 h => by rcases h with ⟨_, h, _⟩ <;> exact ⟨_, h⟩) (by omega) m_MO_has ml_MO_355 im_MO_has se_MO_has c_MO h80.2.2 (Nat.le_of_ble_eq_true rfl) d_MO_item_165 rfl ?_
                intro v G327 hq
                rcases hq with ⟨v328, hv, hGe, hq329⟩
                cases hv
                rw [hGe]
                change ab_W _ _ _ G236 168 [some (vR 80), some (vz m_at), some (vz v241), some (vz v241)] [vz v328, vz v241, vz v241, vR 80] _
                refine ab_callV (d' := d - 1) (as := [vz v241, vz v241, vz v328]) (st := []) (r := _) (z_MO_gatherLike (o := o) (m_thrown := m_thrown) (m_taped := m_taped) (m_length := m_length) (m_out := m_out) (m_wide := w2242) (m_gathered := m_gathered) (m_sets := m_sets) (m_ranges := m_ranges) (m_nodes := m_nodes) (m_at := a2243) (m_flags := m_flags) (m_fault := m_fault) (m_place := m_place) (m_numbered := m_numbered) (m_depth := m_depth) (m_value := m_value) (m_isNot := m_isNot) (m_least0 := m_least0) (m_most0 := m_most0) (m_slot := m_slot) (m_work := m_work) (m_got := m_got) (m_rowMany := m_rowMany) (m_charAt := m_charAt) (m_charWide := m_charWide) (m_trail := m_trail) (m_isMatch := m_isMatch) (m_matchGroups := m_matchGroups) (m_allFrom := m_allFrom) (m_allBefore := m_allBefore) (m_founds := m_founds) (m_pieces := m_pieces) (m_writtenMany := m_writtenMany) (m_templateWide := m_templateWide) (m_tooMuch := m_tooMuch) (LO := LO) (HI := HI) (MK := MK) (P := P) (a := v241) (b := v241) (lk := v328) h80 h87 h88 h93 (by omega) (by omega) (by omega) (by omega) jmk jc (by omega)) (fun oc G2 h => by rcases h with ⟨_, _, _, h, _⟩ <;> exact ⟨_, h⟩) (by omega) m_MO_gatherLike ml_MO_358 im_MO_gatherLike se_MO_gatherLike c_MO h80.2.2 (Nat.le_of_ble_eq_true rfl) d_MO_item_168 rfl ?_
                intro v G330 hq
                rcases hq with ⟨LO2331, HI2332, MK2333, hv, hfk, hlk, hsk, hN80, hN87, hN88, hN93, hq334, hq335⟩
                cases hv
                have h84 := hfk.get h84 (by decide)
                have h81 := hfk.get h81 (by decide)
                have h82 := hfk.get h82 (by decide)
                have hfr := hfr.tr hfk (by decide)
                have hlen := hlk.trans hlen
                have hsl := hsk.trans hsl
                have h80 := hN80
                have h87 := hN87
                have h88 := hN88
                have h93 := hN93
                change ab_W _ _ _ G330 171 [some (vR 80), some (vz m_at), some (vz v241), some (vz v241)] [] _
                refine ab_vret rfl d_MO_item_171 ?_
                rw [hQ]; exact (Or.inr ⟨_, _, _, _, _, (mm + 11), _, _, _, (fun x => P x ∨ lkS v328 v241 v241 x), rfl, hfr, hlen, hsl, h80, h87, h88, h93, (by omega), (by first | exact hq334 | exact rgs_w hq334 (by omega)), (by exact hq335), (by exact lfc_or jl (lfc_lk1 (by omega) (by omega)))⟩)
          · cases hv
            rw [hGe]
            change ab_W _ _ _ G 35 [some (vR 80), some (vz m_at), none, none] [vz (-1)] _
            exfalso; omega
        · refine ab_aload_n d_MO_item_25 rfl ?_
          refine ab_callV (d' := d - 1) (as := []) (st := []) (r := _) (z_MO_posix (o := o) (m_thrown := m_thrown) (m_taped := m_taped) (m_length := m_length) (m_out := m_out) (m_wide := m_wide) (m_gathered := m_gathered) (m_sets := m_sets) (m_ranges := m_ranges) (m_nodes := m_nodes) (m_at := m_at) (m_flags := m_flags) (m_fault := m_fault) (m_place := m_place) (m_numbered := m_numbered) (m_depth := m_depth) (m_value := m_value) (m_isNot := m_isNot) (m_least0 := m_least0) (m_most0 := m_most0) (m_slot := m_slot) (m_work := m_work) (m_got := m_got) (m_rowMany := m_rowMany) (m_charAt := m_charAt) (m_charWide := m_charWide) (m_trail := m_trail) (m_isMatch := m_isMatch) (m_matchGroups := m_matchGroups) (m_allFrom := m_allFrom) (m_allBefore := m_allBefore) (m_founds := m_founds) (m_pieces := m_pieces) (m_writtenMany := m_writtenMany) (m_templateWide := m_templateWide) (m_tooMuch := m_tooMuch) (A_tape := A_tape) (LO := LO) (HI := HI) (MK := MK) (P := P) (mm := mm) h80 h84 h87 h88 h81 h82 (by omega) (by omega) jtp (by omega) (by omega) (by omega) jc jl (by omega)) (fun oc G2 h => by rcases h with ⟨_, _, _, h, _⟩ | ⟨_, _, _, _, _, h, _⟩ <;> exact ⟨_, h⟩) (by omega) m_MO_posix ml_MO_341 im_MO_posix se_MO_posix c_MO h80.2.2 (Nat.le_of_ble_eq_true rfl) d_MO_item_26 rfl ?_
          intro v G336 hq
          rcases hq with ⟨a2337, f2338, p2339, hv, hfk, hlk, hsk, hN80, hN87, hN88, hq340⟩ | ⟨a2341, g2342, LO2343, HI2344, P2345, hv, hfk, hlk, hsk, hN80, hN87, hN88, hq346, hq347, hq348⟩
          · cases hv
            have h84 := hfk.get h84 (by decide)
            have h93 := hfk.get h93 (by decide)
            have h81 := hfk.get h81 (by decide)
            have h82 := hfk.get h82 (by decide)
            have hfr := hfr.tr hfk (by decide)
            have hlen := hlk.trans hlen
            have hsl := hsk.trans hsl
            have h80 := hN80
            have h87 := hN87
            have h88 := hN88
            change ab_W _ _ _ G336 29 [some (vR 80), some (vz m_at), none, none] [] _
            refine ab_vret rfl d_MO_item_29 ?_
            rw [hQ]; exact (Or.inl ⟨_, _, _, _, _, _, _, _, _, _, rfl, hfr, hlen, hsl, h80, h87, h88, h93, (by omega), (by first | exact jmk | exact rgs_w jmk (by omega))⟩)
          · cases hv
            have h84 := hfk.get h84 (by decide)
            have h93 := hfk.get h93 (by decide)
            have h81 := hfk.get h81 (by decide)
            have h82 := hfk.get h82 (by decide)
            have hfr := hfr.tr hfk (by decide)
            have hlen := hlk.trans hlen
            have hsl := hsk.trans hsl
            have h80 := hN80
            have h87 := hN87
            have h88 := hN88
            change ab_W _ _ _ G336 29 [some (vR 80), some (vz m_at), none, none] [] _
            refine ab_vret rfl d_MO_item_29 ?_
            rw [hQ]; exact (Or.inr ⟨_, _, _, _, _, (mm + 10), _, _, _, P2345, rfl, hfr, hlen, hsl, h80, h87, h88, h93, (by omega), (by first | exact jmk | exact rgs_w jmk (by omega)), (by exact hq347), (by exact lfc_w hq348 (by omega))⟩)
      · cases hv
        rw [hGe]
        change ab_W _ _ _ G 20 [some (vR 80), some (vz m_at), none, none] [vz (-1)] _
        refine zz_bipush d_MO_item_20 (by decide) ?_
        refine zz_icmp_ne (tgt := 30) d_MO_item_22 (by decide) (by decide) (by decide) (fun c349 => ?_) (fun c349 => absurd c349 (by decide))
        refine ab_aload_n d_MO_item_30 rfl ?_
        refine zz_iconst d_MO_item_31 ?_
        refine ab_callV (d' := d - 1) (as := [vz 0]) (st := []) (r := _) (z_MO_here (o := o) (m_thrown := m_thrown) (m_taped := m_taped) (m_length := m_length) (m_out := m_out) (m_wide := m_wide) (m_gathered := m_gathered) (m_sets := m_sets) (m_ranges := m_ranges) (m_nodes := m_nodes) (m_at := m_at) (m_flags := m_flags) (m_fault := m_fault) (m_place := m_place) (m_numbered := m_numbered) (m_depth := m_depth) (m_value := m_value) (m_isNot := m_isNot) (m_least0 := m_least0) (m_most0 := m_most0) (m_slot := m_slot) (m_work := m_work) (m_got := m_got) (m_rowMany := m_rowMany) (m_charAt := m_charAt) (m_charWide := m_charWide) (m_trail := m_trail) (m_isMatch := m_isMatch) (m_matchGroups := m_matchGroups) (m_allFrom := m_allFrom) (m_allBefore := m_allBefore) (m_founds := m_founds) (m_pieces := m_pieces) (m_writtenMany := m_writtenMany) (m_templateWide := m_templateWide) (m_tooMuch := m_tooMuch) (A_tape := A_tape) (k := 0) h80 h84 (by omega) (by omega) jtp (by omega)) (fun oc G2 h => by rcases h with ⟨h, _⟩ | ⟨h, _⟩ <;> exact ⟨_, h⟩) (by omega) m_MO_here ml_MO_297 im_MO_here se_MO_here c_MO h80.2.2 (Nat.le_of_ble_eq_true rfl) d_MO_item_32 rfl ?_
        intro v G350 hq
        rcases hq with ⟨hv, hGe, hq351⟩ | ⟨hv, hGe, hq352⟩
        · cases hv
          rw [hGe]
          change ab_W _ _ _ G 35 [some (vR 80), some (vz m_at), none, none] [vz (A_tape (m_at + 0))] _
          refine zz_bipush d_MO_item_35 (by decide) ?_
          refine zz_icmp_ne (tgt := 76) d_MO_item_37 (by decide) (by omega) (by decide) (fun c353 => ?_) (fun c353 => absurd c353 (by omega))
          refine ab_aload_n d_MO_item_76 rfl ?_
          refine ab_callV (d' := d - 1) (as := []) (st := []) (r := _) (z_MO_plain (o := o) (m_thrown := m_thrown) (m_taped := m_taped) (m_length := m_length) (m_out := m_out) (m_wide := m_wide) (m_gathered := m_gathered) (m_sets := m_sets) (m_ranges := m_ranges) (m_nodes := m_nodes) (m_at := m_at) (m_flags := m_flags) (m_fault := m_fault) (m_place := m_place) (m_numbered := m_numbered) (m_depth := m_depth) (m_value := m_value) (m_isNot := m_isNot) (m_least0 := m_least0) (m_most0 := m_most0) (m_slot := m_slot) (m_work := m_work) (m_got := m_got) (m_rowMany := m_rowMany) (m_charAt := m_charAt) (m_charWide := m_charWide) (m_trail := m_trail) (m_isMatch := m_isMatch) (m_matchGroups := m_matchGroups) (m_allFrom := m_allFrom) (m_allBefore := m_allBefore) (m_founds := m_founds) (m_pieces := m_pieces) (m_writtenMany := m_writtenMany) (m_templateWide := m_templateWide) (m_tooMuch := m_tooMuch) (A_tape := A_tape) h80 h84 (by omega) (by omega) jtp (by omega) (by omega) (by omega)) (fun oc G2 h => by rcases h with ⟨_, _, _, h, _⟩ | ⟨_, _, _, h, _⟩ <;> exact ⟨_, h⟩) (by omega) m_MO_plain ml_MO_348 im_MO_plain se_MO_plain c_MO h80.2.2 (Nat.le_of_ble_eq_true rfl) d_MO_item_77 rfl ?_
          intro v G354 hq
          rcases hq with ⟨w2355, f2356, p2357, hv, hfk, hlk, hsk, hN80, hq358⟩ | ⟨v359, w2360, a2361, hv, hfk, hlk, hsk, hN80, hq362⟩
          · cases hv
            have h84 := hfk.get h84 (by decide)
            have h93 := hfk.get h93 (by decide)
            have h87 := hfk.get h87 (by decide)
            have h88 := hfk.get h88 (by decide)
            have h81 := hfk.get h81 (by decide)
            have h82 := hfk.get h82 (by decide)
            have hfr := hfr.tr hfk (by decide)
            have hlen := hlk.trans hlen
            have hsl := hsk.trans hsl
            have h80 := hN80
            change ab_W _ _ _ G354 80 [some (vR 80), some (vz m_at), none, none] [vz (-1)] _
            refine ab_istore_n d_MO_item_80 (Nat.le_of_ble_eq_true rfl) (Nat.le_of_ble_eq_true rfl) rfl ?_
            change ab_W _ _ _ G354 81 [some (vR 80), some (vz m_at), some (vz (-1)), none] [] _
            refine ab_iload_n d_MO_item_81 rfl ?_
            refine ab_istore_n d_MO_item_82 (Nat.le_of_ble_eq_true rfl) (Nat.le_of_ble_eq_true rfl) rfl ?_
            change ab_W _ _ _ G354 83 [some (vR 80), some (vz m_at), some (vz (-1)), some (vz (-1))] [] _
            refine ab_aload_n d_MO_item_83 rfl ?_
            refine ab_getf (fs := mof m_thrown m_taped m_length m_out w2355 m_gathered m_sets m_ranges m_nodes m_at m_flags f2356 p2357 m_numbered m_depth m_value m_isNot m_least0 m_most0 m_slot m_work m_got m_rowMany m_charAt m_charWide m_trail m_isMatch m_matchGroups m_allFrom m_allBefore m_founds m_pieces m_writtenMany m_templateWide m_tooMuch) f_MO_273 d_MO_item_84 h80.2.2 rfl ?_
            refine zz_if_ne (tgt := 153) d_MO_item_87 (by decide) (by omega) (fun c363 => ?_) (fun c363 => absurd c363 (by omega))
            refine ab_aload_n d_MO_item_153 rfl ?_
            refine ab_getf (fs := mof m_thrown m_taped m_length m_out w2355 m_gathered m_sets m_ranges m_nodes m_at m_flags f2356 p2357 m_numbered m_depth m_value m_isNot m_least0 m_most0 m_slot m_work m_got m_rowMany m_charAt m_charWide m_trail m_isMatch m_matchGroups m_allFrom m_allBefore m_founds m_pieces m_writtenMany m_templateWide m_tooMuch) f_MO_273 d_MO_item_154 h80.2.2 rfl ?_
            refine zz_if_ne (tgt := 171) d_MO_item_157 (by decide) (by omega) (fun c364 => ?_) (fun c364 => absurd c364 (by omega))
            refine ab_vret rfl d_MO_item_171 ?_
            rw [hQ]; exact (Or.inl ⟨_, _, _, _, _, _, _, _, _, _, rfl, hfr, hlen, hsl, h80, h87, h88, h93, (by omega), (by first | exact jmk | exact rgs_w jmk (by omega))⟩)
          · cases hv
            have h84 := hfk.get h84 (by decide)
            have h93 := hfk.get h93 (by decide)
            have h87 := hfk.get h87 (by decide)
            have h88 := hfk.get h88 (by decide)
            have h81 := hfk.get h81 (by decide)
            have h82 := hfk.get h82 (by decide)
            have hfr := hfr.tr hfk (by decide)
            have hlen := hlk.trans hlen
            have hsl := hsk.trans hsl
            have h80 := hN80
            change ab_W _ _ _ G354 80 [some (vR 80), some (vz m_at), none, none] [vz v359] _
            refine ab_istore_n d_MO_item_80 (Nat.le_of_ble_eq_true rfl) (Nat.le_of_ble_eq_true rfl) rfl ?_
            change ab_W _ _ _ G354 81 [some (vR 80), some (vz m_at), some (vz v359), none] [] _
            refine ab_iload_n d_MO_item_81 rfl ?_
            refine ab_istore_n d_MO_item_82 (Nat.le_of_ble_eq_true rfl) (Nat.le_of_ble_eq_true rfl) rfl ?_
            change ab_W _ _ _ G354 83 [some (vR 80), some (vz m_at), some (vz v359), some (vz v359)] [] _
            refine ab_aload_n d_MO_item_83 rfl ?_
            refine ab_getf (fs := mof m_thrown m_taped m_length m_out w2360 m_gathered m_sets m_ranges m_nodes a2361 m_flags m_fault m_place m_numbered m_depth m_value m_isNot m_least0 m_most0 m_slot m_work m_got m_rowMany m_charAt m_charWide m_trail m_isMatch m_matchGroups m_allFrom m_allBefore m_founds m_pieces m_writtenMany m_templateWide m_tooMuch) f_MO_273 d_MO_item_84 h80.2.2 rfl ?_
            refine zz_if_ne (tgt := 153) d_MO_item_87 (by decide) (by omega) (fun c365 => absurd c365 (by omega)) (fun c365 => ?_)
            refine ab_aload_n d_MO_item_90 rfl ?_
            refine zz_iconst d_MO_item_91 ?_
            refine ab_callV (d' := d - 1) (as := [vz 0]) (st := []) (r := _) (z_MO_here (o := o) (m_thrown := m_thrown) (m_taped := m_taped) (m_length := m_length) (m_out := m_out) (m_wide := w2360) (m_gathered := m_gathered) (m_sets := m_sets) (m_ranges := m_ranges) (m_nodes := m_nodes) (m_at := a2361) (m_flags := m_flags) (m_fault := m_fault) (m_place := m_place) (m_numbered := m_numbered) (m_depth := m_depth) (m_value := m_value) (m_isNot := m_isNot) (m_least0 := m_least0) (m_most0 := m_most0) (m_slot := m_slot) (m_work := m_work) (m_got := m_got) (m_rowMany := m_rowMany) (m_charAt := m_charAt) (m_charWide := m_charWide) (m_trail := m_trail) (m_isMatch := m_isMatch) (m_matchGroups := m_matchGroups) (m_allFrom := m_allFrom) (m_allBefore := m_allBefore) (m_founds := m_founds) (m_pieces := m_pieces) (m_writtenMany := m_writtenMany) (m_templateWide := m_templateWide) (m_tooMuch := m_tooMuch) (A_tape := A_tape) (k := 0) h80 h84 (by omega) (by omega) jtp (by omega)) (fun oc G2 h => by rcases h with ⟨h, _⟩ | ⟨h, _⟩ <;> exact ⟨_, h⟩) (by omega) m_MO_here ml_MO_297 im_MO_here se_MO_here c_MO h80.2.2 (Nat.le_of_ble_eq_true rfl) d_MO_item_92 rfl ?_
            intro v G366 hq
            rcases hq with ⟨hv, hGe, hq367⟩ | ⟨hv, hGe, hq368⟩
            · cases hv
              rw [hGe]
              change ab_W _ _ _ G354 95 [some (vR 80), some (vz m_at), some (vz v359), some (vz v359)] [vz (A_tape (a2361 + 0))] _
              exfalso; omega
            · cases hv
              rw [hGe]
              change ab_W _ _ _ G354 95 [some (vR 80), some (vz m_at), some (vz v359), some (vz v359)] [vz (-1)] _
              refine zz_bipush d_MO_item_95 (by decide) ?_
              refine zz_icmp_ne (tgt := 153) d_MO_item_97 (by decide) (by decide) (by decide) (fun c369 => ?_) (fun c369 => absurd c369 (by decide))
              refine ab_aload_n d_MO_item_153 rfl ?_
              refine ab_getf (fs := mof m_thrown m_taped m_length m_out w2360 m_gathered m_sets m_ranges m_nodes a2361 m_flags m_fault m_place m_numbered m_depth m_value m_isNot m_least0 m_most0 m_slot m_work m_got m_rowMany m_charAt m_charWide m_trail m_isMatch m_matchGroups m_allFrom m_allBefore m_founds m_pieces m_writtenMany m_templateWide m_tooMuch) f_MO_273 d_MO_item_154 h80.2.2 rfl ?_
              refine zz_if_ne (tgt := 171) d_MO_item_157 (by decide) (by omega) (fun c370 => absurd c370 (by omega)) (fun c370 => ?_)
              refine ab_aload_n d_MO_item_160 rfl ?_
              refine ab_iload_n d_MO_item_161 rfl ?_
              refine ab_iload_n d_MO_item_162 rfl ?_
              refine ab_aload_n d_MO_item_163 rfl ?_
              refine zz_iconst d_MO_item_164 ?_
              refine ab_callV (d' := d - 1) (as := [vz 1]) (st := [vz v359, vz v359, vR 80]) (r := _) (z_MO_has (o := o) (m_thrown := m_thrown) (m_taped := m_taped) (m_length := m_length) (m_out := m_out) (m_wide := w2360) (m_gathered := m_gathered) (m_sets := m_sets) (m_ranges := m_ranges) (m_nodes := m_nodes) (m_at := a2361) (m_flags := m_flags) (m_fault := m_fault) (m_place := m_place) (m_numbered := m_numbered) (m_depth := m_depth) (m_value := m_value) (m_isNot := m_isNot) (m_least0 := m_least0) (m_most0 := m_most0) (m_slot := m_slot) (m_work := m_work) (m_got := m_got) (m_rowMany := m_rowMany) (m_charAt := m_charAt) (m_charWide := m_charWide) (m_trail := m_trail) (m_isMatch := m_isMatch) (m_matchGroups := m_matchGroups) (m_allFrom := m_allFrom) (m_allBefore := m_allBefore) (m_founds := m_founds) (m_pieces := m_pieces) (m_writtenMany := m_writtenMany) (m_templateWide := m_templateWide) (m_tooMuch := m_tooMuch) (x := 1) h80) (fun oc G2 h => by rcases h with ⟨_, h, _⟩ <;> exact ⟨_, h⟩) (by omega) m_MO_has ml_MO_355 im_MO_has se_MO_has c_MO h80.2.2 (Nat.le_of_ble_eq_true rfl) d_MO_item_165 rfl ?_
              intro v G371 hq
              rcases hq with ⟨v372, hv, hGe, hq373⟩
              cases hv
              rw [hGe]
              change ab_W _ _ _ G354 168 [some (vR 80), some (vz m_at), some (vz v359), some (vz v359)] [vz v372, vz v359, vz v359, vR 80] _
              refine ab_callV (d' := d - 1) (as := [vz v359, vz v359, vz v372]) (st := []) (r := _) (z_MO_gatherLike (o := o) (m_thrown := m_thrown) (m_taped := m_taped) (m_length := m_length) (m_out := m_out) (m_wide := w2360) (m_gathered := m_gathered) (m_sets := m_sets) (m_ranges := m_ranges) (m_nodes := m_nodes) (m_at := a2361) (m_flags := m_flags) (m_fault := m_fault) (m_place := m_place) (m_numbered := m_numbered) (m_depth := m_depth) (m_value := m_value) (m_isNot := m_isNot) (m_least0 := m_least0) (m_most0 := m_most0) (m_slot := m_slot) (m_work := m_work) (m_got := m_got) (m_rowMany := m_rowMany) (m_charAt := m_charAt) (m_charWide := m_charWide) (m_trail := m_trail) (m_isMatch := m_isMatch) (m_matchGroups := m_matchGroups) (m_allFrom := m_allFrom) (m_allBefore := m_allBefore) (m_founds := m_founds) (m_pieces := m_pieces) (m_writtenMany := m_writtenMany) (m_templateWide := m_templateWide) (m_tooMuch := m_tooMuch) (LO := LO) (HI := HI) (MK := MK) (P := P) (a := v359) (b := v359) (lk := v372) h80 h87 h88 h93 (by omega) (by omega) (by omega) (by omega) jmk jc (by omega)) (fun oc G2 h => by rcases h with ⟨_, _, _, h, _⟩ <;> exact ⟨_, h⟩) (by omega) m_MO_gatherLike ml_MO_358 im_MO_gatherLike se_MO_gatherLike c_MO h80.2.2 (Nat.le_of_ble_eq_true rfl) d_MO_item_168 rfl ?_
              intro v G374 hq
              rcases hq with ⟨LO2375, HI2376, MK2377, hv, hfk, hlk, hsk, hN80, hN87, hN88, hN93, hq378, hq379⟩
              cases hv
              have h84 := hfk.get h84 (by decide)
              have h81 := hfk.get h81 (by decide)
              have h82 := hfk.get h82 (by decide)
              have hfr := hfr.tr hfk (by decide)
              have hlen := hlk.trans hlen
              have hsl := hsk.trans hsl
              have h80 := hN80
              have h87 := hN87
              have h88 := hN88
              have h93 := hN93
              change ab_W _ _ _ G374 171 [some (vR 80), some (vz m_at), some (vz v359), some (vz v359)] [] _
              refine ab_vret rfl d_MO_item_171 ?_
              rw [hQ]; exact (Or.inr ⟨_, _, _, _, _, (mm + 11), _, _, _, (fun x => P x ∨ lkS v372 v359 v359 x), rfl, hfr, hlen, hsl, h80, h87, h88, h93, (by omega), (by first | exact hq378 | exact rgs_w hq378 (by omega)), (by exact hq379), (by exact lfc_or jl (lfc_lk1 (by omega) (by omega)))⟩)
        · cases hv
          rw [hGe]
          change ab_W _ _ _ G 35 [some (vR 80), some (vz m_at), none, none] [vz (-1)] _
          exfalso; omega
  · cases hv
    rw [hGe]
    change ab_W _ _ _ G 10 [some (vR 80), some (vz m_at), none, none] [vz (-1)] _
    exfalso; omega
