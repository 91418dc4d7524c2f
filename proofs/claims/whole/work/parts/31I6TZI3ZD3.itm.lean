set_option maxRecDepth 100000 in
set_option maxHeartbeats 4000000 in
theorem z_MO_spells {X : ab_X} {d : Nat} {o : Nat → Nat} {G : ab_G} {ar : Nat} {la : Nat} {m : Nat} {f : Int → Int} {p : Int} {n : Int} {c1 : Int} {c2 : Int} {c3 : Int} {c4 : Int} {c5 : Int} (har : cc o G ar la (za m f)) (cp : 0 ≤ p ∧ p ≤ 4000 ∧ n ≤ ↑m ∧ 0 ≤ n) (cm : ↑m ≤ (2000 : Int)) (hf : rgs f ↑m 0 255) (cc5 : 0 ≤ c1 ∧ c1 ≤ 255 ∧ 0 ≤ c2 ∧ c2 ≤ 255 ∧ 0 ≤ c3 ∧ c3 ≤ 255 ∧ 0 ≤ c4 ∧ c4 ≤ 255 ∧ 0 ≤ c5 ∧ c5 ≤ 255) : ab_F X d y_MO_spells (.code y_MO_spells b_MO_spells 8 (some (.boolean))) [vR ar, vz p, vz n, vz c1, vz c2, vz c3, vz c4, vz c5] G (fun oc G2 => (oc = .returned (some (vz 1)) ∧ G2 = G ∧ (sp5 f n p c1 c2 c3 c4 c5) ∧ (p + 5 < n)) ∨ (oc = .returned (some (vz 0)) ∧ G2 = G ∧ (¬ sp5 f n p c1 c2 c3 c4 c5))) := by
  refine ab_F_of (by decide +kernel) (Nat.le_of_ble_eq_true rfl) ?_
  obtain ⟨Q, hQ⟩ : ∃ z : Outcome → ab_G → Prop, z = (fun oc G2 => (oc = .returned (some (vz 1)) ∧ G2 = G ∧ (sp5 f n p c1 c2 c3 c4 c5) ∧ (p + 5 < n)) ∨ (oc = .returned (some (vz 0)) ∧ G2 = G ∧ (¬ sp5 f n p c1 c2 c3 c4 c5))) := ⟨_, rfl⟩
  rw [← hQ]
  change ab_W X (ab_pl y_MO_spells b_MO_spells 8 (some (.boolean))) d G 0 [some (vR ar), some (vz p), some (vz n), some (vz c1), some (vz c2), some (vz c3), some (vz c4), some (vz c5)] [] Q
  have hfr : fx o o [] G G := fx.rf
  have hlen : G.length = G.length := rfl
  have hsl : ab_slots G = ab_slots G := rfl
  refine ab_iload_n d_MO_spells_0 rfl ?_
  refine zz_iconst d_MO_spells_1 ?_
  refine zz_iadd d_MO_spells_2 ?_
  refine ab_iload_n d_MO_spells_3 rfl ?_
  refine zz_icmp_ge (tgt := 58) d_MO_spells_4 (by decide) (by omega) (by omega) (fun c1 => ?_) (fun c1 => ?_)
  · refine zz_iconst d_MO_spells_58 ?_
    refine zz_bret rfl (by decide) d_MO_spells_59 ?_
    rw [hQ]; exact (Or.inr ⟨rfl, rfl, (by unfold sp5; omega)⟩)
  · refine ab_aload_n d_MO_spells_7 rfl ?_
    refine ab_iload_n d_MO_spells_8 rfl ?_
    refine zz_iald d_MO_spells_9 har (by omega) ?_
    have hq2 := hf p (by omega) (by omega)
    refine ab_iload_n d_MO_spells_10 rfl ?_
    refine zz_icmp_ne (tgt := 58) d_MO_spells_11 (by decide) (by omega) (by omega) (fun c3 => ?_) (fun c3 => ?_)
    · refine zz_iconst d_MO_spells_58 ?_
      refine zz_bret rfl (by decide) d_MO_spells_59 ?_
      rw [hQ]; exact (Or.inr ⟨rfl, rfl, (by unfold sp5; omega)⟩)
    · refine ab_aload_n d_MO_spells_14 rfl ?_
      refine ab_iload_n d_MO_spells_15 rfl ?_
      refine zz_iconst d_MO_spells_16 ?_
      refine zz_iadd d_MO_spells_17 ?_
      refine zz_iald d_MO_spells_18 har (by omega) ?_
      have hq4 := hf (p + 1) (by omega) (by omega)
      refine ab_iload d_MO_spells_19 rfl ?_
      refine zz_icmp_ne (tgt := 58) d_MO_spells_21 (by decide) (by omega) (by omega) (fun c5 => ?_) (fun c5 => ?_)
      · refine zz_iconst d_MO_spells_58 ?_
        refine zz_bret rfl (by decide) d_MO_spells_59 ?_
        rw [hQ]; exact (Or.inr ⟨rfl, rfl, (by unfold sp5; omega)⟩)
      · refine ab_aload_n d_MO_spells_24 rfl ?_
        refine ab_iload_n d_MO_spells_25 rfl ?_
        refine zz_iconst d_MO_spells_26 ?_
        refine zz_iadd d_MO_spells_27 ?_
        refine zz_iald d_MO_spells_28 har (by omega) ?_
        have hq6 := hf (p + 2) (by omega) (by omega)
        refine ab_iload d_MO_spells_29 rfl ?_
        refine zz_icmp_ne (tgt := 58) d_MO_spells_31 (by decide) (by omega) (by omega) (fun c7 => ?_) (fun c7 => ?_)
        · refine zz_iconst d_MO_spells_58 ?_
          refine zz_bret rfl (by decide) d_MO_spells_59 ?_
          rw [hQ]; exact (Or.inr ⟨rfl, rfl, (by unfold sp5; omega)⟩)
        · refine ab_aload_n d_MO_spells_34 rfl ?_
          refine ab_iload_n d_MO_spells_35 rfl ?_
          refine zz_iconst d_MO_spells_36 ?_
          refine zz_iadd d_MO_spells_37 ?_
          refine zz_iald d_MO_spells_38 har (by omega) ?_
          have hq8 := hf (p + 3) (by omega) (by omega)
          refine ab_iload d_MO_spells_39 rfl ?_
          refine zz_icmp_ne (tgt := 58) d_MO_spells_41 (by decide) (by omega) (by omega) (fun c9 => ?_) (fun c9 => ?_)
          · refine zz_iconst d_MO_spells_58 ?_
            refine zz_bret rfl (by decide) d_MO_spells_59 ?_
            rw [hQ]; exact (Or.inr ⟨rfl, rfl, (by unfold sp5; omega)⟩)
          · refine ab_aload_n d_MO_spells_44 rfl ?_
            refine ab_iload_n d_MO_spells_45 rfl ?_
            refine zz_iconst d_MO_spells_46 ?_
            refine zz_iadd d_MO_spells_47 ?_
            refine zz_iald d_MO_spells_48 har (by omega) ?_
            have hq10 := hf (p + 4) (by omega) (by omega)
            refine ab_iload d_MO_spells_49 rfl ?_
            refine zz_icmp_ne (tgt := 58) d_MO_spells_51 (by decide) (by omega) (by omega) (fun c11 => ?_) (fun c11 => ?_)
            · refine zz_iconst d_MO_spells_58 ?_
              refine zz_bret rfl (by decide) d_MO_spells_59 ?_
              rw [hQ]; exact (Or.inr ⟨rfl, rfl, (by unfold sp5; omega)⟩)
            · refine zz_iconst d_MO_spells_54 ?_
              refine ab_goto (tgt := 59) d_MO_spells_55 (by decide) ?_
              refine zz_bret rfl (by decide) d_MO_spells_59 ?_
              rw [hQ]; exact (Or.inl ⟨rfl, rfl, (by unfold sp5; omega), (by omega)⟩)
set_option maxRecDepth 100000 in
set_option maxHeartbeats 4000000 in
theorem z_MO_posix {X : ab_X} {d : Nat} {o : Nat → Nat} {G : ab_G} {m_thrown : Int} {m_taped : Int} {m_length : Int} {m_out : Int} {m_wide : Int} {m_gathered : Int} {m_sets : Int} {m_ranges : Int} {m_nodes : Int} {m_at : Int} {m_flags : Int} {m_fault : Int} {m_place : Int} {m_numbered : Int} {m_depth : Int} {m_value : Int} {m_isNot : Int} {m_least0 : Int} {m_most0 : Int} {m_slot : Int} {m_work : Int} {m_got : Int} {m_rowMany : Int} {m_charAt : Int} {m_charWide : Int} {m_trail : Int} {m_isMatch : Int} {m_matchGroups : Int} {m_allFrom : Int} {m_allBefore : Int} {m_founds : Int} {m_pieces : Int} {m_writtenMany : Int} {m_templateWide : Int} {m_tooMuch : Int} {A_tape : Int → Int} {LO : Int → Int} {HI : Int → Int} {MK : Int → Int} {P : Int → Prop} {mm : Int} (h80 : cc o G 80 280 (ab_ob 12 (mof m_thrown m_taped m_length m_out m_wide m_gathered m_sets m_ranges m_nodes m_at m_flags m_fault m_place m_numbered m_depth m_value m_isNot m_least0 m_most0 m_slot m_work m_got m_rowMany m_charAt m_charWide m_trail m_isMatch m_matchGroups m_allFrom m_allBefore m_founds m_pieces m_writtenMany m_templateWide m_tooMuch))) (h84 : cc o G 84 284 (za 2000 A_tape)) (h87 : cc o G 87 287 (za 9000 LO)) (h88 : cc o G 88 288 (za 9000 HI)) (h81 : cc o G 81 281 (za 13 tbA)) (h82 : cc o G 82 282 (za 66 tbT)) (n18 : ab_n0 = 18) (cta : 0 ≤ m_taped ∧ m_taped ≤ 2000) (jtp : rgs A_tape 2000 0 255) (cat : 0 ≤ m_at ∧ m_at + 2 ≤ m_taped) (cf : m_fault = 0) (cga : 0 ≤ m_gathered ∧ m_gathered ≤ 6700) (jc : clsI LO HI m_gathered MK P) (jl : lfc P mm) (hd : 3 ≤ d) : ab_F X d y_MO_posix (.code y_MO_posix b_MO_posix 5 none) [vR 80] G (fun oc G2 => (∃ a2 : Int, ∃ f2 : Int, ∃ p2 : Int, oc = .returned none ∧ fx o o [280, 287, 288] G G2 ∧ G2.length = G.length ∧ ab_slots G2 = ab_slots G ∧ cc o G2 80 280 (ab_ob 12 (mof m_thrown m_taped m_length m_out m_wide m_gathered m_sets m_ranges m_nodes a2 m_flags f2 p2 m_numbered m_depth m_value m_isNot m_least0 m_most0 m_slot m_work m_got m_rowMany m_charAt m_charWide m_trail m_isMatch m_matchGroups m_allFrom m_allBefore m_founds m_pieces m_writtenMany m_templateWide m_tooMuch)) ∧ cc o G2 87 287 (za 9000 LO) ∧ cc o G2 88 288 (za 9000 HI) ∧ (1 ≤ f2 ∧ f2 ≤ 14 ∧ 0 ≤ a2 ∧ a2 ≤ 4000) ∧ (f2 = 7 ∧ p2 = m_at) ∧ (nk3 A_tape m_taped m_at)) ∨ (∃ a2 : Int, ∃ g2 : Int, ∃ LO2 : Int → Int, ∃ HI2 : Int → Int, ∃ P2 : Int → Prop, ∃ k2 : Nat, ∃ b2 : Int, oc = .returned none ∧ fx o o [280, 287, 288] G G2 ∧ G2.length = G.length ∧ ab_slots G2 = ab_slots G ∧ cc o G2 80 280 (ab_ob 12 (mof m_thrown m_taped m_length m_out m_wide g2 m_sets m_ranges m_nodes a2 m_flags m_fault m_place m_numbered m_depth m_value m_isNot m_least0 m_most0 m_slot m_work m_got m_rowMany m_charAt m_charWide m_trail m_isMatch m_matchGroups m_allFrom m_allBefore m_founds m_pieces m_writtenMany m_templateWide m_tooMuch)) ∧ cc o G2 87 287 (za 9000 LO2) ∧ cc o G2 88 288 (za 9000 HI2) ∧ (nk2 A_tape m_taped m_at k2 b2 a2) ∧ (∀ xq : Int, P2 xq ↔ P xq ∨ kmem k2 b2 xq) ∧ (m_at + 9 ≤ a2 ∧ a2 ≤ m_taped ∧ m_gathered ≤ g2 ∧ g2 ≤ m_gathered + 10) ∧ (clsI LO2 HI2 g2 MK P2) ∧ (lfc P2 (mm + 10)))) := by
  refine ab_F_of (by decide +kernel) (Nat.le_of_ble_eq_true rfl) ?_
  obtain ⟨Q, hQ⟩ : ∃ z : Outcome → ab_G → Prop, z = (fun oc G2 => (∃ a2 : Int, ∃ f2 : Int, ∃ p2 : Int, oc = .returned none ∧ fx o o [280, 287, 288] G G2 ∧ G2.length = G.length ∧ ab_slots G2 = ab_slots G ∧ cc o G2 80 280 (ab_ob 12 (mof m_thrown m_taped m_length m_out m_wide m_gathered m_sets m_ranges m_nodes a2 m_flags f2 p2 m_numbered m_depth m_value m_isNot m_least0 m_most0 m_slot m_work m_got m_rowMany m_charAt m_charWide m_trail m_isMatch m_matchGroups m_allFrom m_allBefore m_founds m_pieces m_writtenMany m_templateWide m_tooMuch)) ∧ cc o G2 87 287 (za 9000 LO) ∧ cc o G2 88 288 (za 9000 HI) ∧ (1 ≤ f2 ∧ f2 ≤ 14 ∧ 0 ≤ a2 ∧ a2 ≤ 4000) ∧ (f2 = 7 ∧ p2 = m_at) ∧ (nk3 A_tape m_taped m_at)) ∨ (∃ a2 : Int, ∃ g2 : Int, ∃ LO2 : Int → Int, ∃ HI2 : Int → Int, ∃ P2 : Int → Prop, ∃ k2 : Nat, ∃ b2 : Int, oc = .returned none ∧ fx o o [280, 287, 288] G G2 ∧ G2.length = G.length ∧ ab_slots G2 = ab_slots G ∧ cc o G2 80 280 (ab_ob 12 (mof m_thrown m_taped m_length m_out m_wide g2 m_sets m_ranges m_nodes a2 m_flags m_fault m_place m_numbered m_depth m_value m_isNot m_least0 m_most0 m_slot m_work m_got m_rowMany m_charAt m_charWide m_trail m_isMatch m_matchGroups m_allFrom m_allBefore m_founds m_pieces m_writtenMany m_templateWide m_tooMuch)) ∧ cc o G2 87 287 (za 9000 LO2) ∧ cc o G2 88 288 (za 9000 HI2) ∧ (nk2 A_tape m_taped m_at k2 b2 a2) ∧ (∀ xq : Int, P2 xq ↔ P xq ∨ kmem k2 b2 xq) ∧ (m_at + 9 ≤ a2 ∧ a2 ≤ m_taped ∧ m_gathered ≤ g2 ∧ g2 ≤ m_gathered + 10) ∧ (clsI LO2 HI2 g2 MK P2) ∧ (lfc P2 (mm + 10)))) := ⟨_, rfl⟩
  rw [← hQ]
  change ab_W X (ab_pl y_MO_posix b_MO_posix 5 none) d G 0 [some (vR 80), none, none, none, none] [] Q
  have hfr : fx o o [280, 287, 288] G G := fx.rf
  have hlen : G.length = G.length := rfl
  have hsl : ab_slots G = ab_slots G := rfl
  refine ab_aload_n d_MO_posix_0 rfl ?_
  refine ab_getf (fs := mof m_thrown m_taped m_length m_out m_wide m_gathered m_sets m_ranges m_nodes m_at m_flags m_fault m_place m_numbered m_depth m_value m_isNot m_least0 m_most0 m_slot m_work m_got m_rowMany m_charAt m_charWide m_trail m_isMatch m_matchGroups m_allFrom m_allBefore m_founds m_pieces m_writtenMany m_templateWide m_tooMuch) f_MO_279 d_MO_posix_1 h80.2.2 rfl ?_
  refine ab_istore_n d_MO_posix_4 (Nat.le_of_ble_eq_true rfl) (Nat.le_of_ble_eq_true rfl) rfl ?_
  change ab_W _ _ _ G 5 [some (vR 80), some (vz m_at), none, none, none] [] _
  refine ab_aload_n d_MO_posix_5 rfl ?_
  refine ab_dup d_MO_posix_6 rfl ?_
  refine ab_getf (fs := mof m_thrown m_taped m_length m_out m_wide m_gathered m_sets m_ranges m_nodes m_at m_flags m_fault m_place m_numbered m_depth m_value m_isNot m_least0 m_most0 m_slot m_work m_got m_rowMany m_charAt m_charWide m_trail m_isMatch m_matchGroups m_allFrom m_allBefore m_founds m_pieces m_writtenMany m_templateWide m_tooMuch) f_MO_279 d_MO_posix_7 h80.2.2 rfl ?_
  refine zz_iconst d_MO_posix_10 ?_
  refine zz_iadd d_MO_posix_11 ?_
  refine ab_putf (fs := mof m_thrown m_taped m_length m_out m_wide m_gathered m_sets m_ranges m_nodes m_at m_flags m_fault m_place m_numbered m_depth m_value m_isNot m_least0 m_most0 m_slot m_work m_got m_rowMany m_charAt m_charWide m_trail m_isMatch m_matchGroups m_allFrom m_allBefore m_founds m_pieces m_writtenMany m_templateWide m_tooMuch) f_MO_279 (Or.inl rfl) d_MO_posix_12 h80.2.2 (Nat.le_of_ble_eq_true rfl) (fun _ => ⟨rfl, rfl⟩) (h80.2.1 (by decide)) ?_
  obtain ⟨G1, eG1⟩ : ∃ z : ab_G, z = List.set G 80 (ab_ob 12 (mof m_thrown m_taped m_length m_out m_wide m_gathered m_sets m_ranges m_nodes (m_at + 2) m_flags m_fault m_place m_numbered m_depth m_value m_isNot m_least0 m_most0 m_slot m_work m_got m_rowMany m_charAt m_charWide m_trail m_isMatch m_matchGroups m_allFrom m_allBefore m_founds m_pieces m_writtenMany m_templateWide m_tooMuch)) := ⟨_, rfl⟩
  have h84 := h84.keep h80 eG1 (by decide)
  have h87 := h87.keep h80 eG1 (by decide)
  have h88 := h88.keep h80 eG1 (by decide)
  have h81 := h81.keep h80 eG1 (by decide)
  have h82 := h82.keep h80 eG1 (by decide)
  have hlen := (z_len eG1).trans hlen
  have hsl := (z_sl h80 eG1 rfl).trans hsl
  have hfr := hfr.wr h80 eG1 (by decide)
  have h80 := h80.kept eG1
  change ab_W _ _ _ (List.set G 80 (ab_ob 12 (mof m_thrown m_taped m_length m_out m_wide m_gathered m_sets m_ranges m_nodes (m_at + 2) m_flags m_fault m_place m_numbered m_depth m_value m_isNot m_least0 m_most0 m_slot m_work m_got m_rowMany m_charAt m_charWide m_trail m_isMatch m_matchGroups m_allFrom m_allBefore m_founds m_pieces m_writtenMany m_templateWide m_tooMuch))) 15 [some (vR 80), some (vz m_at), none, none, none] [] _
  rw [← eG1]
  refine ab_aload_n d_MO_posix_15 rfl ?_
  refine zz_iconst d_MO_posix_16 ?_
  refine ab_callV (d' := d - 1) (as := [vz 0]) (st := []) (r := _) (z_MO_here (o := o) (m_thrown := m_thrown) (m_taped := m_taped) (m_length := m_length) (m_out := m_out) (m_wide := m_wide) (m_gathered := m_gathered) (m_sets := m_sets) (m_ranges := m_ranges) (m_nodes := m_nodes) (m_at := (m_at + 2)) (m_flags := m_flags) (m_fault := m_fault) (m_place := m_place) (m_numbered := m_numbered) (m_depth := m_depth) (m_value := m_value) (m_isNot := m_isNot) (m_least0 := m_least0) (m_most0 := m_most0) (m_slot := m_slot) (m_work := m_work) (m_got := m_got) (m_rowMany := m_rowMany) (m_charAt := m_charAt) (m_charWide := m_charWide) (m_trail := m_trail) (m_isMatch := m_isMatch) (m_matchGroups := m_matchGroups) (m_allFrom := m_allFrom) (m_allBefore := m_allBefore) (m_founds := m_founds) (m_pieces := m_pieces) (m_writtenMany := m_writtenMany) (m_templateWide := m_templateWide) (m_tooMuch := m_tooMuch) (A_tape := A_tape) (k := 0) (qh := (m_at + 2)) h80 h84 (by omega) (by omega) jtp (by omega) (by omega)) (fun oc G2 h => by rcases h with ⟨h, _⟩ | ⟨h, _⟩ <;> exact ⟨_, h⟩) (by omega) m_MO_here ml_MO_297 im_MO_here se_MO_here c_MO h80.2.2 (Nat.le_of_ble_eq_true rfl) d_MO_posix_17 rfl ?_
  intro v G2 hq
  rcases hq with ⟨hv, hGe, hq3⟩ | ⟨hv, hGe, hq4, hq5⟩
  · cases hv
    rw [hGe]
    change ab_W _ _ _ G1 20 [some (vR 80), some (vz m_at), none, none, none] [vz (tpk A_tape m_taped (m_at + 2))] _
    refine zz_bipush d_MO_posix_20 (by decide) ?_
    refine zz_icmp_ne (tgt := 29) d_MO_posix_22 (by decide) (by omega) (by decide) (fun c6 => ?_) (fun c6 => ?_)
    · refine zz_iconst d_MO_posix_29 ?_
      refine ab_istore_n d_MO_posix_30 (Nat.le_of_ble_eq_true rfl) (Nat.le_of_ble_eq_true rfl) rfl ?_
      change ab_W _ _ _ G1 31 [some (vR 80), some (vz m_at), some (vz 0), none, none] [] _
      refine ab_aload_n d_MO_posix_31 rfl ?_
      refine ab_dup d_MO_posix_32 rfl ?_
      refine ab_getf (fs := mof m_thrown m_taped m_length m_out m_wide m_gathered m_sets m_ranges m_nodes (m_at + 2) m_flags m_fault m_place m_numbered m_depth m_value m_isNot m_least0 m_most0 m_slot m_work m_got m_rowMany m_charAt m_charWide m_trail m_isMatch m_matchGroups m_allFrom m_allBefore m_founds m_pieces m_writtenMany m_templateWide m_tooMuch) f_MO_279 d_MO_posix_33 h80.2.2 rfl ?_
      refine ab_iload_n d_MO_posix_36 rfl ?_
      refine zz_if_eq (tgt := 44) d_MO_posix_37 (by decide) (by decide) (fun c7 => ?_) (fun c7 => absurd c7 (by decide))
      refine zz_iconst d_MO_posix_44 ?_
      refine zz_iadd d_MO_posix_45 ?_
      refine ab_putf (fs := mof m_thrown m_taped m_length m_out m_wide m_gathered m_sets m_ranges m_nodes (m_at + 2) m_flags m_fault m_place m_numbered m_depth m_value m_isNot m_least0 m_most0 m_slot m_work m_got m_rowMany m_charAt m_charWide m_trail m_isMatch m_matchGroups m_allFrom m_allBefore m_founds m_pieces m_writtenMany m_templateWide m_tooMuch) f_MO_279 (Or.inl rfl) d_MO_posix_46 h80.2.2 (Nat.le_of_ble_eq_true rfl) (fun _ => ⟨rfl, rfl⟩) (h80.2.1 (by decide)) ?_
      obtain ⟨G8, eG8⟩ : ∃ z : ab_G, z = List.set G1 80 (ab_ob 12 (mof m_thrown m_taped m_length m_out m_wide m_gathered m_sets m_ranges m_nodes ((m_at + 2) + 0) m_flags m_fault m_place m_numbered m_depth m_value m_isNot m_least0 m_most0 m_slot m_work m_got m_rowMany m_charAt m_charWide m_trail m_isMatch m_matchGroups m_allFrom m_allBefore m_founds m_pieces m_writtenMany m_templateWide m_tooMuch)) := ⟨_, rfl⟩
      have h84 := h84.keep h80 eG8 (by decide)
      have h87 := h87.keep h80 eG8 (by decide)
      have h88 := h88.keep h80 eG8 (by decide)
      have h81 := h81.keep h80 eG8 (by decide)
      have h82 := h82.keep h80 eG8 (by decide)
      have hlen := (z_len eG8).trans hlen
      have hsl := (z_sl h80 eG8 rfl).trans hsl
      have hfr := hfr.wr h80 eG8 (by decide)
      have h80 := h80.kept eG8
      change ab_W _ _ _ (List.set G1 80 (ab_ob 12 (mof m_thrown m_taped m_length m_out m_wide m_gathered m_sets m_ranges m_nodes ((m_at + 2) + 0) m_flags m_fault m_place m_numbered m_depth m_value m_isNot m_least0 m_most0 m_slot m_work m_got m_rowMany m_charAt m_charWide m_trail m_isMatch m_matchGroups m_allFrom m_allBefore m_founds m_pieces m_writtenMany m_templateWide m_tooMuch))) 49 [some (vR 80), some (vz m_at), some (vz 0), none, none] [] _
      rw [← eG8]
      refine ab_aload_n d_MO_posix_49 rfl ?_
      refine ab_getf (fs := mof m_thrown m_taped m_length m_out m_wide m_gathered m_sets m_ranges m_nodes ((m_at + 2) + 0) m_flags m_fault m_place m_numbered m_depth m_value m_isNot m_least0 m_most0 m_slot m_work m_got m_rowMany m_charAt m_charWide m_trail m_isMatch m_matchGroups m_allFrom m_allBefore m_founds m_pieces m_writtenMany m_templateWide m_tooMuch) f_MO_223 d_MO_posix_50 h80.2.2 rfl ?_
      refine ab_istore_n d_MO_posix_53 (Nat.le_of_ble_eq_true rfl) (Nat.le_of_ble_eq_true rfl) rfl ?_
      change ab_W _ _ _ G8 54 [some (vR 80), some (vz m_at), some (vz 0), some (vz m_taped), none] [] _
      refine ab_aload_n d_MO_posix_54 rfl ?_
      refine ab_getf (fs := mof m_thrown m_taped m_length m_out m_wide m_gathered m_sets m_ranges m_nodes ((m_at + 2) + 0) m_flags m_fault m_place m_numbered m_depth m_value m_isNot m_least0 m_most0 m_slot m_work m_got m_rowMany m_charAt m_charWide m_trail m_isMatch m_matchGroups m_allFrom m_allBefore m_founds m_pieces m_writtenMany m_templateWide m_tooMuch) f_MO_19 d_MO_posix_55 h80.2.2 rfl ?_
      refine ab_aload_n d_MO_posix_58 rfl ?_
      refine ab_getf (fs := mof m_thrown m_taped m_length m_out m_wide m_gathered m_sets m_ranges m_nodes ((m_at + 2) + 0) m_flags m_fault m_place m_numbered m_depth m_value m_isNot m_least0 m_most0 m_slot m_work m_got m_rowMany m_charAt m_charWide m_trail m_isMatch m_matchGroups m_allFrom m_allBefore m_founds m_pieces m_writtenMany m_templateWide m_tooMuch) f_MO_279 d_MO_posix_59 h80.2.2 rfl ?_
      refine ab_iload_n d_MO_posix_62 rfl ?_
      refine zz_bipush d_MO_posix_63 (by decide) ?_
      refine zz_bipush d_MO_posix_65 (by decide) ?_
      refine zz_bipush d_MO_posix_67 (by decide) ?_
      refine zz_bipush d_MO_posix_69 (by decide) ?_
      refine zz_bipush d_MO_posix_71 (by decide) ?_
      refine ab_callS (d' := d - 1) (as := [vR 84, vz ((m_at + 2) + 0), vz m_taped, vz 100, vz 105, vz 103, vz 105, vz 116]) (st := []) (z_MO_spells (o := o) (ar := 84) (la := 284) (m := 2000) (f := A_tape) (p := ((m_at + 2) + 0)) (n := m_taped) (c1 := 100) (c2 := 105) (c3 := 103) (c4 := 105) (c5 := 116) h84 (by omega) (by omega) jtp (by omega)) (fun oc G2 h => by rcases h with ⟨h, _⟩ | ⟨h, _⟩ <;> exact ⟨_, h⟩) (by omega) m_MO_spells ml_MO_333 st_MO_spells (Nat.le_of_ble_eq_true rfl) d_MO_posix_73 rfl ?_
      intro v G9 hq
      rcases hq with ⟨hv, hGe, hq10, hq11⟩ | ⟨hv, hGe, hq12⟩
      · cases hv
        rw [hGe]
        change ab_W _ _ _ G8 76 [some (vR 80), some (vz m_at), some (vz 0), some (vz m_taped), none] [vz 1] _
        refine zz_if_eq (tgt := 83) d_MO_posix_76 (by decide) (by decide) (fun c13 => absurd c13 (by decide)) (fun c13 => ?_)
        refine zz_iconst d_MO_posix_79 ?_
        refine ab_goto (tgt := 234) d_MO_posix_80 (by decide) ?_
        refine ab_istore d_MO_posix_234 (Nat.le_of_ble_eq_true rfl) (Nat.le_of_ble_eq_true rfl) rfl ?_
        change ab_W _ _ _ G8 236 [some (vR 80), some (vz m_at), some (vz 0), some (vz m_taped), some (vz 0)] [] _
        refine ab_iload d_MO_posix_236 rfl ?_
        refine zz_if_lt (tgt := 262) d_MO_posix_238 (by decide) (by decide) (fun c14 => absurd c14 (by decide)) (fun c14 => ?_)
        refine ab_aload_n d_MO_posix_241 rfl ?_
        refine zz_iconst d_MO_posix_242 ?_
        refine ab_callV (d' := d - 1) (as := [vz 5]) (st := []) (r := _) (z_MO_here (o := o) (m_thrown := m_thrown) (m_taped := m_taped) (m_length := m_length) (m_out := m_out) (m_wide := m_wide) (m_gathered := m_gathered) (m_sets := m_sets) (m_ranges := m_ranges) (m_nodes := m_nodes) (m_at := ((m_at + 2) + 0)) (m_flags := m_flags) (m_fault := m_fault) (m_place := m_place) (m_numbered := m_numbered) (m_depth := m_depth) (m_value := m_value) (m_isNot := m_isNot) (m_least0 := m_least0) (m_most0 := m_most0) (m_slot := m_slot) (m_work := m_work) (m_got := m_got) (m_rowMany := m_rowMany) (m_charAt := m_charAt) (m_charWide := m_charWide) (m_trail := m_trail) (m_isMatch := m_isMatch) (m_matchGroups := m_matchGroups) (m_allFrom := m_allFrom) (m_allBefore := m_allBefore) (m_founds := m_founds) (m_pieces := m_pieces) (m_writtenMany := m_writtenMany) (m_templateWide := m_templateWide) (m_tooMuch := m_tooMuch) (A_tape := A_tape) (k := 5) (qh := (m_at + 7)) h80 h84 (by omega) (by omega) jtp (by omega) (by omega)) (fun oc G2 h => by rcases h with ⟨h, _⟩ | ⟨h, _⟩ <;> exact ⟨_, h⟩) (by omega) m_MO_here ml_MO_297 im_MO_here se_MO_here c_MO h80.2.2 (Nat.le_of_ble_eq_true rfl) d_MO_posix_243 rfl ?_
        intro v G15 hq
        rcases hq with ⟨hv, hGe, hq16⟩ | ⟨hv, hGe, hq17, hq18⟩
        · cases hv
          rw [hGe]
          change ab_W _ _ _ G8 246 [some (vR 80), some (vz m_at), some (vz 0), some (vz m_taped), some (vz 0)] [vz (tpk A_tape m_taped (m_at + 7))] _
          refine zz_bipush d_MO_posix_246 (by decide) ?_
          refine zz_icmp_ne (tgt := 262) d_MO_posix_248 (by decide) (by omega) (by decide) (fun c19 => ?_) (fun c19 => ?_)
          · refine ab_aload_n d_MO_posix_262 rfl ?_
            refine zz_bipush d_MO_posix_263 (by decide) ?_
            refine ab_iload_n d_MO_posix_265 rfl ?_
            refine ab_callV (d' := d - 1) (as := [vz 7, vz m_at]) (st := []) (r := _) (z_MO_wrong (o := o) (m_thrown := m_thrown) (m_taped := m_taped) (m_length := m_length) (m_out := m_out) (m_wide := m_wide) (m_gathered := m_gathered) (m_sets := m_sets) (m_ranges := m_ranges) (m_nodes := m_nodes) (m_at := ((m_at + 2) + 0)) (m_flags := m_flags) (m_fault := m_fault) (m_place := m_place) (m_numbered := m_numbered) (m_depth := m_depth) (m_value := m_value) (m_isNot := m_isNot) (m_least0 := m_least0) (m_most0 := m_most0) (m_slot := m_slot) (m_work := m_work) (m_got := m_got) (m_rowMany := m_rowMany) (m_charAt := m_charAt) (m_charWide := m_charWide) (m_trail := m_trail) (m_isMatch := m_isMatch) (m_matchGroups := m_matchGroups) (m_allFrom := m_allFrom) (m_allBefore := m_allBefore) (m_founds := m_founds) (m_pieces := m_pieces) (m_writtenMany := m_writtenMany) (m_templateWide := m_templateWide) (m_tooMuch := m_tooMuch) (x := 7) (y := m_at) h80 (by omega) (by omega)) (fun oc G2 h => by rcases h with ⟨h, _⟩ | ⟨h, _⟩ <;> exact ⟨_, h⟩) (by omega) m_MO_wrong ml_MO_304 im_MO_wrong se_MO_wrong c_MO h80.2.2 (Nat.le_of_ble_eq_true rfl) d_MO_posix_266 rfl ?_
            intro v G20 hq
            rcases hq with ⟨hv, hfk, hlk, hsk, hN80, hq21⟩ | ⟨hv, hGe, hq22⟩
            · cases hv
              have h84 := hfk.get h84 (by decide)
              have h87 := hfk.get h87 (by decide)
              have h88 := hfk.get h88 (by decide)
              have h81 := hfk.get h81 (by decide)
              have h82 := hfk.get h82 (by decide)
              have hfr := hfr.tr hfk (by decide)
              have hlen := hlk.trans hlen
              have hsl := hsk.trans hsl
              have h80 := hN80
              change ab_W _ _ _ G20 269 [some (vR 80), some (vz m_at), some (vz 0), some (vz m_taped), some (vz 0)] [] _
              refine ab_vret rfl d_MO_posix_269 ?_
              rw [hQ]; exact (Or.inl ⟨_, _, _, rfl, hfr, hlen, hsl, h80, h87, h88, (by omega), (by omega), (by exact nk_i (b0 := ((m_at + 2) + 0)) (by omega) (nk_no7 (by rw [show ((m_at + 2) + 0) + 5 = m_at + 7 by omega, show ((m_at + 2) + 0) + 6 = m_at + 8 by omega]; omega)))⟩)
            · cases hv
              rw [hGe]
              change ab_W _ _ _ G8 269 [some (vR 80), some (vz m_at), some (vz 0), some (vz m_taped), some (vz 0)] [] _
              exfalso; omega
          · refine ab_aload_n d_MO_posix_251 rfl ?_
            refine zz_bipush d_MO_posix_252 (by decide) ?_
            refine ab_callV (d' := d - 1) (as := [vz 6]) (st := []) (r := _) (z_MO_here (o := o) (m_thrown := m_thrown) (m_taped := m_taped) (m_length := m_length) (m_out := m_out) (m_wide := m_wide) (m_gathered := m_gathered) (m_sets := m_sets) (m_ranges := m_ranges) (m_nodes := m_nodes) (m_at := ((m_at + 2) + 0)) (m_flags := m_flags) (m_fault := m_fault) (m_place := m_place) (m_numbered := m_numbered) (m_depth := m_depth) (m_value := m_value) (m_isNot := m_isNot) (m_least0 := m_least0) (m_most0 := m_most0) (m_slot := m_slot) (m_work := m_work) (m_got := m_got) (m_rowMany := m_rowMany) (m_charAt := m_charAt) (m_charWide := m_charWide) (m_trail := m_trail) (m_isMatch := m_isMatch) (m_matchGroups := m_matchGroups) (m_allFrom := m_allFrom) (m_allBefore := m_allBefore) (m_founds := m_founds) (m_pieces := m_pieces) (m_writtenMany := m_writtenMany) (m_templateWide := m_templateWide) (m_tooMuch := m_tooMuch) (A_tape := A_tape) (k := 6) (qh := (m_at + 8)) h80 h84 (by omega) (by omega) jtp (by omega) (by omega)) (fun oc G2 h => by rcases h with ⟨h, _⟩ | ⟨h, _⟩ <;> exact ⟨_, h⟩) (by omega) m_MO_here ml_MO_297 im_MO_here se_MO_here c_MO h80.2.2 (Nat.le_of_ble_eq_true rfl) d_MO_posix_254 rfl ?_
            intro v G23 hq
            rcases hq with ⟨hv, hGe, hq24⟩ | ⟨hv, hGe, hq25, hq26⟩
            · cases hv
              rw [hGe]
              change ab_W _ _ _ G8 257 [some (vR 80), some (vz m_at), some (vz 0), some (vz m_taped), some (vz 0)] [vz (tpk A_tape m_taped (m_at + 8))] _
              refine zz_bipush d_MO_posix_257 (by decide) ?_
              refine zz_icmp_eq (tgt := 270) d_MO_posix_259 (by decide) (by omega) (by decide) (fun c27 => ?_) (fun c27 => ?_)
              · refine ab_aload_n d_MO_posix_270 rfl ?_
                refine ab_iload d_MO_posix_271 rfl ?_
                refine ab_iload_n d_MO_posix_273 rfl ?_
                refine ab_callV (d' := d - 1) (as := [vz 0, vz 0]) (st := []) (r := _) (z_MO_gatherNamed (o := o) (m_thrown := m_thrown) (m_taped := m_taped) (m_length := m_length) (m_out := m_out) (m_wide := m_wide) (m_gathered := m_gathered) (m_sets := m_sets) (m_ranges := m_ranges) (m_nodes := m_nodes) (m_at := ((m_at + 2) + 0)) (m_flags := m_flags) (m_fault := m_fault) (m_place := m_place) (m_numbered := m_numbered) (m_depth := m_depth) (m_value := m_value) (m_isNot := m_isNot) (m_least0 := m_least0) (m_most0 := m_most0) (m_slot := m_slot) (m_work := m_work) (m_got := m_got) (m_rowMany := m_rowMany) (m_charAt := m_charAt) (m_charWide := m_charWide) (m_trail := m_trail) (m_isMatch := m_isMatch) (m_matchGroups := m_matchGroups) (m_allFrom := m_allFrom) (m_allBefore := m_allBefore) (m_founds := m_founds) (m_pieces := m_pieces) (m_writtenMany := m_writtenMany) (m_templateWide := m_templateWide) (m_tooMuch := m_tooMuch) (LO := LO) (HI := HI) (MK := MK) (P := P) (x := 0) (w := 0) (nt := 0) (mm := mm) h80 h87 h88 h81 h82 (by omega) (by omega) jc jl (by omega)) (fun oc G2 h => by rcases h with ⟨_, _, _, _, h, _⟩ <;> exact ⟨_, h⟩) (by omega) m_MO_gatherNamed ml_MO_337 im_MO_gatherNamed se_MO_gatherNamed c_MO h80.2.2 (Nat.le_of_ble_eq_true rfl) d_MO_posix_274 rfl ?_
                intro v G28 hq
                rcases hq with ⟨g229, LO230, HI231, P232, hv, hfk, hlk, hsk, hN80, hN87, hN88, hq33, hq34, hq35, hq36, hq37⟩
                cases hv
                have h84 := hfk.get h84 (by decide)
                have h81 := hfk.get h81 (by decide)
                have h82 := hfk.get h82 (by decide)
                have hfr := hfr.tr hfk (by decide)
                have hlen := hlk.trans hlen
                have hsl := hsk.trans hsl
                have h80 := hN80
                have h87 := hN87
                have h88 := hN88
                change ab_W _ _ _ G28 277 [some (vR 80), some (vz m_at), some (vz 0), some (vz m_taped), some (vz 0)] [] _
                refine ab_aload_n d_MO_posix_277 rfl ?_
                refine ab_dup d_MO_posix_278 rfl ?_
                refine ab_getf (fs := mof m_thrown m_taped m_length m_out m_wide g229 m_sets m_ranges m_nodes ((m_at + 2) + 0) m_flags m_fault m_place m_numbered m_depth m_value m_isNot m_least0 m_most0 m_slot m_work m_got m_rowMany m_charAt m_charWide m_trail m_isMatch m_matchGroups m_allFrom m_allBefore m_founds m_pieces m_writtenMany m_templateWide m_tooMuch) f_MO_279 d_MO_posix_279 h80.2.2 rfl ?_
                refine zz_bipush d_MO_posix_282 (by decide) ?_
                refine zz_iadd d_MO_posix_284 ?_
                refine ab_putf (fs := mof m_thrown m_taped m_length m_out m_wide g229 m_sets m_ranges m_nodes ((m_at + 2) + 0) m_flags m_fault m_place m_numbered m_depth m_value m_isNot m_least0 m_most0 m_slot m_work m_got m_rowMany m_charAt m_charWide m_trail m_isMatch m_matchGroups m_allFrom m_allBefore m_founds m_pieces m_writtenMany m_templateWide m_tooMuch) f_MO_279 (Or.inl rfl) d_MO_posix_285 h80.2.2 (Nat.le_of_ble_eq_true rfl) (fun _ => ⟨rfl, rfl⟩) (h80.2.1 (by decide)) ?_
                obtain ⟨G38, eG38⟩ : ∃ z : ab_G, z = List.set G28 80 (ab_ob 12 (mof m_thrown m_taped m_length m_out m_wide g229 m_sets m_ranges m_nodes (((m_at + 2) + 0) + 7) m_flags m_fault m_place m_numbered m_depth m_value m_isNot m_least0 m_most0 m_slot m_work m_got m_rowMany m_charAt m_charWide m_trail m_isMatch m_matchGroups m_allFrom m_allBefore m_founds m_pieces m_writtenMany m_templateWide m_tooMuch)) := ⟨_, rfl⟩
                have h84 := h84.keep h80 eG38 (by decide)
                have h87 := h87.keep h80 eG38 (by decide)
                have h88 := h88.keep h80 eG38 (by decide)
                have h81 := h81.keep h80 eG38 (by decide)
                have h82 := h82.keep h80 eG38 (by decide)
                have hlen := (z_len eG38).trans hlen
                have hsl := (z_sl h80 eG38 rfl).trans hsl
                have hfr := hfr.wr h80 eG38 (by decide)
                have h80 := h80.kept eG38
                change ab_W _ _ _ (List.set G28 80 (ab_ob 12 (mof m_thrown m_taped m_length m_out m_wide g229 m_sets m_ranges m_nodes (((m_at + 2) + 0) + 7) m_flags m_fault m_place m_numbered m_depth m_value m_isNot m_least0 m_most0 m_slot m_work m_got m_rowMany m_charAt m_charWide m_trail m_isMatch m_matchGroups m_allFrom m_allBefore m_founds m_pieces m_writtenMany m_templateWide m_tooMuch))) 288 [some (vR 80), some (vz m_at), some (vz 0), some (vz m_taped), some (vz 0)] [] _
                rw [← eG38]
                refine ab_vret rfl d_MO_posix_288 ?_
                rw [hQ]; exact (Or.inr ⟨_, _, _, _, _, 1, 0, rfl, hfr, hlen, hsl, h80, h87, h88, (by exact Or.inr ⟨by omega, by omega, (by rw [show m_at + 2 = ((m_at + 2) + 0) by omega]; exact (Or.inl ⟨rfl, (nm_of (by omega) hq10 (by rw [show ((m_at + 2) + 0) + 5 = m_at + 7 by omega]; omega) (by rw [show ((m_at + 2) + 0) + 6 = m_at + 8 by omega]; omega))⟩)), by omega⟩), (by exact kor (w := 0) (by omega) (by omega) hq37), (by omega), (by exact hq35), (by exact lfc_w hq36 (by omega))⟩)
              · refine ab_aload_n d_MO_posix_262 rfl ?_
                refine zz_bipush d_MO_posix_263 (by decide) ?_
                refine ab_iload_n d_MO_posix_265 rfl ?_
                refine ab_callV (d' := d - 1) (as := [vz 7, vz m_at]) (st := []) (r := _) (z_MO_wrong (o := o) (m_thrown := m_thrown) (m_taped := m_taped) (m_length := m_length) (m_out := m_out) (m_wide := m_wide) (m_gathered := m_gathered) (m_sets := m_sets) (m_ranges := m_ranges) (m_nodes := m_nodes) (m_at := ((m_at + 2) + 0)) (m_flags := m_flags) (m_fault := m_fault) (m_place := m_place) (m_numbered := m_numbered) (m_depth := m_depth) (m_value := m_value) (m_isNot := m_isNot) (m_least0 := m_least0) (m_most0 := m_most0) (m_slot := m_slot) (m_work := m_work) (m_got := m_got) (m_rowMany := m_rowMany) (m_charAt := m_charAt) (m_charWide := m_charWide) (m_trail := m_trail) (m_isMatch := m_isMatch) (m_matchGroups := m_matchGroups) (m_allFrom := m_allFrom) (m_allBefore := m_allBefore) (m_founds := m_founds) (m_pieces := m_pieces) (m_writtenMany := m_writtenMany) (m_templateWide := m_templateWide) (m_tooMuch := m_tooMuch) (x := 7) (y := m_at) h80 (by omega) (by omega)) (fun oc G2 h => by rcases h with ⟨h, _⟩ | ⟨h, _⟩ <;> exact ⟨_, h⟩) (by omega) m_MO_wrong ml_MO_304 im_MO_wrong se_MO_wrong c_MO h80.2.2 (Nat.le_of_ble_eq_true rfl) d_MO_posix_266 rfl ?_
                intro v G39 hq
                rcases hq with ⟨hv, hfk, hlk, hsk, hN80, hq40⟩ | ⟨hv, hGe, hq41⟩
                · cases hv
                  have h84 := hfk.get h84 (by decide)
                  have h87 := hfk.get h87 (by decide)
                  have h88 := hfk.get h88 (by decide)
                  have h81 := hfk.get h81 (by decide)
                  have h82 := hfk.get h82 (by decide)
                  have hfr := hfr.tr hfk (by decide)
                  have hlen := hlk.trans hlen
                  have hsl := hsk.trans hsl
                  have h80 := hN80
                  change ab_W _ _ _ G39 269 [some (vR 80), some (vz m_at), some (vz 0), some (vz m_taped), some (vz 0)] [] _
                  refine ab_vret rfl d_MO_posix_269 ?_
                  rw [hQ]; exact (Or.inl ⟨_, _, _, rfl, hfr, hlen, hsl, h80, h87, h88, (by omega), (by omega), (by exact nk_i (b0 := ((m_at + 2) + 0)) (by omega) (nk_no7 (by rw [show ((m_at + 2) + 0) + 5 = m_at + 7 by omega, show ((m_at + 2) + 0) + 6 = m_at + 8 by omega]; omega)))⟩)
                · cases hv
                  rw [hGe]
                  change ab_W _ _ _ G8 269 [some (vR 80), some (vz m_at), some (vz 0), some (vz m_taped), some (vz 0)] [] _
                  exfalso; omega
            · cases hv
              rw [hGe]
              change ab_W _ _ _ G8 257 [some (vR 80), some (vz m_at), some (vz 0), some (vz m_taped), some (vz 0)] [vz (-1)] _
              refine zz_bipush d_MO_posix_257 (by decide) ?_
              refine zz_icmp_eq (tgt := 270) d_MO_posix_259 (by decide) (by decide) (by decide) (fun c42 => absurd c42 (by decide)) (fun c42 => ?_)
              refine ab_aload_n d_MO_posix_262 rfl ?_
              refine zz_bipush d_MO_posix_263 (by decide) ?_
              refine ab_iload_n d_MO_posix_265 rfl ?_
              refine ab_callV (d' := d - 1) (as := [vz 7, vz m_at]) (st := []) (r := _) (z_MO_wrong (o := o) (m_thrown := m_thrown) (m_taped := m_taped) (m_length := m_length) (m_out := m_out) (m_wide := m_wide) (m_gathered := m_gathered) (m_sets := m_sets) (m_ranges := m_ranges) (m_nodes := m_nodes) (m_at := ((m_at + 2) + 0)) (m_flags := m_flags) (m_fault := m_fault) (m_place := m_place) (m_numbered := m_numbered) (m_depth := m_depth) (m_value := m_value) (m_isNot := m_isNot) (m_least0 := m_least0) (m_most0 := m_most0) (m_slot := m_slot) (m_work := m_work) (m_got := m_got) (m_rowMany := m_rowMany) (m_charAt := m_charAt) (m_charWide := m_charWide) (m_trail := m_trail) (m_isMatch := m_isMatch) (m_matchGroups := m_matchGroups) (m_allFrom := m_allFrom) (m_allBefore := m_allBefore) (m_founds := m_founds) (m_pieces := m_pieces) (m_writtenMany := m_writtenMany) (m_templateWide := m_templateWide) (m_tooMuch := m_tooMuch) (x := 7) (y := m_at) h80 (by omega) (by omega)) (fun oc G2 h => by rcases h with ⟨h, _⟩ | ⟨h, _⟩ <;> exact ⟨_, h⟩) (by omega) m_MO_wrong ml_MO_304 im_MO_wrong se_MO_wrong c_MO h80.2.2 (Nat.le_of_ble_eq_true rfl) d_MO_posix_266 rfl ?_
              intro v G43 hq
              rcases hq with ⟨hv, hfk, hlk, hsk, hN80, hq44⟩ | ⟨hv, hGe, hq45⟩
              · cases hv
                have h84 := hfk.get h84 (by decide)
                have h87 := hfk.get h87 (by decide)
                have h88 := hfk.get h88 (by decide)
                have h81 := hfk.get h81 (by decide)
                have h82 := hfk.get h82 (by decide)
                have hfr := hfr.tr hfk (by decide)
                have hlen := hlk.trans hlen
                have hsl := hsk.trans hsl
                have h80 := hN80
                change ab_W _ _ _ G43 269 [some (vR 80), some (vz m_at), some (vz 0), some (vz m_taped), some (vz 0)] [] _
                refine ab_vret rfl d_MO_posix_269 ?_
                rw [hQ]; exact (Or.inl ⟨_, _, _, rfl, hfr, hlen, hsl, h80, h87, h88, (by omega), (by omega), (by exact nk_i (b0 := ((m_at + 2) + 0)) (by omega) (nk_no7 (by rw [show ((m_at + 2) + 0) + 5 = m_at + 7 by omega, show ((m_at + 2) + 0) + 6 = m_at + 8 by omega]; omega)))⟩)
              · cases hv
                rw [hGe]
                change ab_W _ _ _ G8 269 [some (vR 80), some (vz m_at), some (vz 0), some (vz m_taped), some (vz 0)] [] _
                exfalso; omega
        · cases hv
          rw [hGe]
          change ab_W _ _ _ G8 246 [some (vR 80), some (vz m_at), some (vz 0), some (vz m_taped), some (vz 0)] [vz (-1)] _
          exfalso; omega
      · cases hv
        rw [hGe]
        change ab_W _ _ _ G8 76 [some (vR 80), some (vz m_at), some (vz 0), some (vz m_taped), none] [vz 0] _
        refine zz_if_eq (tgt := 83) d_MO_posix_76 (by decide) (by decide) (fun c46 => ?_) (fun c46 => absurd c46 (by decide))
        refine ab_aload_n d_MO_posix_83 rfl ?_
        refine ab_getf (fs := mof m_thrown m_taped m_length m_out m_wide m_gathered m_sets m_ranges m_nodes ((m_at + 2) + 0) m_flags m_fault m_place m_numbered m_depth m_value m_isNot m_least0 m_most0 m_slot m_work m_got m_rowMany m_charAt m_charWide m_trail m_isMatch m_matchGroups m_allFrom m_allBefore m_founds m_pieces m_writtenMany m_templateWide m_tooMuch) f_MO_19 d_MO_posix_84 h80.2.2 rfl ?_
        refine ab_aload_n d_MO_posix_87 rfl ?_
        refine ab_getf (fs := mof m_thrown m_taped m_length m_out m_wide m_gathered m_sets m_ranges m_nodes ((m_at + 2) + 0) m_flags m_fault m_place m_numbered m_depth m_value m_isNot m_least0 m_most0 m_slot m_work m_got m_rowMany m_charAt m_charWide m_trail m_isMatch m_matchGroups m_allFrom m_allBefore m_founds m_pieces m_writtenMany m_templateWide m_tooMuch) f_MO_279 d_MO_posix_88 h80.2.2 rfl ?_
        refine ab_iload_n d_MO_posix_91 rfl ?_
        refine zz_bipush d_MO_posix_92 (by decide) ?_
        refine zz_bipush d_MO_posix_94 (by decide) ?_
        refine zz_bipush d_MO_posix_96 (by decide) ?_
        refine zz_bipush d_MO_posix_98 (by decide) ?_
        refine zz_bipush d_MO_posix_100 (by decide) ?_
        refine ab_callS (d' := d - 1) (as := [vR 84, vz ((m_at + 2) + 0), vz m_taped, vz 97, vz 108, vz 112, vz 104, vz 97]) (st := []) (z_MO_spells (o := o) (ar := 84) (la := 284) (m := 2000) (f := A_tape) (p := ((m_at + 2) + 0)) (n := m_taped) (c1 := 97) (c2 := 108) (c3 := 112) (c4 := 104) (c5 := 97) h84 (by omega) (by omega) jtp (by omega)) (fun oc G2 h => by rcases h with ⟨h, _⟩ | ⟨h, _⟩ <;> exact ⟨_, h⟩) (by omega) m_MO_spells ml_MO_333 st_MO_spells (Nat.le_of_ble_eq_true rfl) d_MO_posix_102 rfl ?_
        intro v G47 hq
        rcases hq with ⟨hv, hGe, hq48, hq49⟩ | ⟨hv, hGe, hq50⟩
        · cases hv
          rw [hGe]
          change ab_W _ _ _ G8 105 [some (vR 80), some (vz m_at), some (vz 0), some (vz m_taped), none] [vz 1] _
          refine zz_if_eq (tgt := 113) d_MO_posix_105 (by decide) (by decide) (fun c51 => absurd c51 (by decide)) (fun c51 => ?_)
          refine zz_bipush d_MO_posix_108 (by decide) ?_
          refine ab_goto (tgt := 234) d_MO_posix_110 (by decide) ?_
          refine ab_istore d_MO_posix_234 (Nat.le_of_ble_eq_true rfl) (Nat.le_of_ble_eq_true rfl) rfl ?_
          change ab_W _ _ _ G8 236 [some (vR 80), some (vz m_at), some (vz 0), some (vz m_taped), some (vz 7)] [] _
          refine ab_iload d_MO_posix_236 rfl ?_
          refine zz_if_lt (tgt := 262) d_MO_posix_238 (by decide) (by decide) (fun c52 => absurd c52 (by decide)) (fun c52 => ?_)
          refine ab_aload_n d_MO_posix_241 rfl ?_
          refine zz_iconst d_MO_posix_242 ?_
          refine ab_callV (d' := d - 1) (as := [vz 5]) (st := []) (r := _) (z_MO_here (o := o) (m_thrown := m_thrown) (m_taped := m_taped) (m_length := m_length) (m_out := m_out) (m_wide := m_wide) (m_gathered := m_gathered) (m_sets := m_sets) (m_ranges := m_ranges) (m_nodes := m_nodes) (m_at := ((m_at + 2) + 0)) (m_flags := m_flags) (m_fault := m_fault) (m_place := m_place) (m_numbered := m_numbered) (m_depth := m_depth) (m_value := m_value) (m_isNot := m_isNot) (m_least0 := m_least0) (m_most0 := m_most0) (m_slot := m_slot) (m_work := m_work) (m_got := m_got) (m_rowMany := m_rowMany) (m_charAt := m_charAt) (m_charWide := m_charWide) (m_trail := m_trail) (m_isMatch := m_isMatch) (m_matchGroups := m_matchGroups) (m_allFrom := m_allFrom) (m_allBefore := m_allBefore) (m_founds := m_founds) (m_pieces := m_pieces) (m_writtenMany := m_writtenMany) (m_templateWide := m_templateWide) (m_tooMuch := m_tooMuch) (A_tape := A_tape) (k := 5) (qh := (m_at + 7)) h80 h84 (by omega) (by omega) jtp (by omega) (by omega)) (fun oc G2 h => by rcases h with ⟨h, _⟩ | ⟨h, _⟩ <;> exact ⟨_, h⟩) (by omega) m_MO_here ml_MO_297 im_MO_here se_MO_here c_MO h80.2.2 (Nat.le_of_ble_eq_true rfl) d_MO_posix_243 rfl ?_
          intro v G53 hq
          rcases hq with ⟨hv, hGe, hq54⟩ | ⟨hv, hGe, hq55, hq56⟩
          · cases hv
            rw [hGe]
            change ab_W _ _ _ G8 246 [some (vR 80), some (vz m_at), some (vz 0), some (vz m_taped), some (vz 7)] [vz (tpk A_tape m_taped (m_at + 7))] _
            refine zz_bipush d_MO_posix_246 (by decide) ?_
            refine zz_icmp_ne (tgt := 262) d_MO_posix_248 (by decide) (by omega) (by decide) (fun c57 => ?_) (fun c57 => ?_)
            · refine ab_aload_n d_MO_posix_262 rfl ?_
              refine zz_bipush d_MO_posix_263 (by decide) ?_
              refine ab_iload_n d_MO_posix_265 rfl ?_
              refine ab_callV (d' := d - 1) (as := [vz 7, vz m_at]) (st := []) (r := _) (z_MO_wrong (o := o) (m_thrown := m_thrown) (m_taped := m_taped) (m_length := m_length) (m_out := m_out) (m_wide := m_wide) (m_gathered := m_gathered) (m_sets := m_sets) (m_ranges := m_ranges) (m_nodes := m_nodes) (m_at := ((m_at + 2) + 0)) (m_flags := m_flags) (m_fault := m_fault) (m_place := m_place) (m_numbered := m_numbered) (m_depth := m_depth) (m_value := m_value) (m_isNot := m_isNot) (m_least0 := m_least0) (m_most0 := m_most0) (m_slot := m_slot) (m_work := m_work) (m_got := m_got) (m_rowMany := m_rowMany) (m_charAt := m_charAt) (m_charWide := m_charWide) (m_trail := m_trail) (m_isMatch := m_isMatch) (m_matchGroups := m_matchGroups) (m_allFrom := m_allFrom) (m_allBefore := m_allBefore) (m_founds := m_founds) (m_pieces := m_pieces) (m_writtenMany := m_writtenMany) (m_templateWide := m_templateWide) (m_tooMuch := m_tooMuch) (x := 7) (y := m_at) h80 (by omega) (by omega)) (fun oc G2 h => by rcases h with ⟨h, _⟩ | ⟨h, _⟩ <;> exact ⟨_, h⟩) (by omega) m_MO_wrong ml_MO_304 im_MO_wrong se_MO_wrong c_MO h80.2.2 (Nat.le_of_ble_eq_true rfl) d_MO_posix_266 rfl ?_
              intro v G58 hq
              rcases hq with ⟨hv, hfk, hlk, hsk, hN80, hq59⟩ | ⟨hv, hGe, hq60⟩
              · cases hv
                have h84 := hfk.get h84 (by decide)
                have h87 := hfk.get h87 (by decide)
                have h88 := hfk.get h88 (by decide)
                have h81 := hfk.get h81 (by decide)
                have h82 := hfk.get h82 (by decide)
                have hfr := hfr.tr hfk (by decide)
                have hlen := hlk.trans hlen
                have hsl := hsk.trans hsl
                have h80 := hN80
                change ab_W _ _ _ G58 269 [some (vR 80), some (vz m_at), some (vz 0), some (vz m_taped), some (vz 7)] [] _
                refine ab_vret rfl d_MO_posix_269 ?_
                rw [hQ]; exact (Or.inl ⟨_, _, _, rfl, hfr, hlen, hsl, h80, h87, h88, (by omega), (by omega), (by exact nk_i (b0 := ((m_at + 2) + 0)) (by omega) (nk_no7 (by rw [show ((m_at + 2) + 0) + 5 = m_at + 7 by omega, show ((m_at + 2) + 0) + 6 = m_at + 8 by omega]; omega)))⟩)
              · cases hv
                rw [hGe]
                change ab_W _ _ _ G8 269 [some (vR 80), some (vz m_at), some (vz 0), some (vz m_taped), some (vz 7)] [] _
                exfalso; omega
            · refine ab_aload_n d_MO_posix_251 rfl ?_
              refine zz_bipush d_MO_posix_252 (by decide) ?_
              refine ab_callV (d' := d - 1) (as := [vz 6]) (st := []) (r := _) (z_MO_here (o := o) (m_thrown := m_thrown) (m_taped := m_taped) (m_length := m_length) (m_out := m_out) (m_wide := m_wide) (m_gathered := m_gathered) (m_sets := m_sets) (m_ranges := m_ranges) (m_nodes := m_nodes) (m_at := ((m_at + 2) + 0)) (m_flags := m_flags) (m_fault := m_fault) (m_place := m_place) (m_numbered := m_numbered) (m_depth := m_depth) (m_value := m_value) (m_isNot := m_isNot) (m_least0 := m_least0) (m_most0 := m_most0) (m_slot := m_slot) (m_work := m_work) (m_got := m_got) (m_rowMany := m_rowMany) (m_charAt := m_charAt) (m_charWide := m_charWide) (m_trail := m_trail) (m_isMatch := m_isMatch) (m_matchGroups := m_matchGroups) (m_allFrom := m_allFrom) (m_allBefore := m_allBefore) (m_founds := m_founds) (m_pieces := m_pieces) (m_writtenMany := m_writtenMany) (m_templateWide := m_templateWide) (m_tooMuch := m_tooMuch) (A_tape := A_tape) (k := 6) (qh := (m_at + 8)) h80 h84 (by omega) (by omega) jtp (by omega) (by omega)) (fun oc G2 h => by rcases h with ⟨h, _⟩ | ⟨h, _⟩ <;> exact ⟨_, h⟩) (by omega) m_MO_here ml_MO_297 im_MO_here se_MO_here c_MO h80.2.2 (Nat.le_of_ble_eq_true rfl) d_MO_posix_254 rfl ?_
              intro v G61 hq
              rcases hq with ⟨hv, hGe, hq62⟩ | ⟨hv, hGe, hq63, hq64⟩
              · cases hv
                rw [hGe]
                change ab_W _ _ _ G8 257 [some (vR 80), some (vz m_at), some (vz 0), some (vz m_taped), some (vz 7)] [vz (tpk A_tape m_taped (m_at + 8))] _
                refine zz_bipush d_MO_posix_257 (by decide) ?_
                refine zz_icmp_eq (tgt := 270) d_MO_posix_259 (by decide) (by omega) (by decide) (fun c65 => ?_) (fun c65 => ?_)
                · refine ab_aload_n d_MO_posix_270 rfl ?_
                  refine ab_iload d_MO_posix_271 rfl ?_
                  refine ab_iload_n d_MO_posix_273 rfl ?_
                  refine ab_callV (d' := d - 1) (as := [vz 7, vz 0]) (st := []) (r := _) (z_MO_gatherNamed (o := o) (m_thrown := m_thrown) (m_taped := m_taped) (m_length := m_length) (m_out := m_out) (m_wide := m_wide) (m_gathered := m_gathered) (m_sets := m_sets) (m_ranges := m_ranges) (m_nodes := m_nodes) (m_at := ((m_at + 2) + 0)) (m_flags := m_flags) (m_fault := m_fault) (m_place := m_place) (m_numbered := m_numbered) (m_depth := m_depth) (m_value := m_value) (m_isNot := m_isNot) (m_least0 := m_least0) (m_most0 := m_most0) (m_slot := m_slot) (m_work := m_work) (m_got := m_got) (m_rowMany := m_rowMany) (m_charAt := m_charAt) (m_charWide := m_charWide) (m_trail := m_trail) (m_isMatch := m_isMatch) (m_matchGroups := m_matchGroups) (m_allFrom := m_allFrom) (m_allBefore := m_allBefore) (m_founds := m_founds) (m_pieces := m_pieces) (m_writtenMany := m_writtenMany) (m_templateWide := m_templateWide) (m_tooMuch := m_tooMuch) (LO := LO) (HI := HI) (MK := MK) (P := P) (x := 0) (w := 7) (nt := 0) (mm := mm) h80 h87 h88 h81 h82 (by omega) (by omega) jc jl (by omega)) (fun oc G2 h => by rcases h with ⟨_, _, _, _, h, _⟩ <;> exact ⟨_, h⟩) (by omega) m_MO_gatherNamed ml_MO_337 im_MO_gatherNamed se_MO_gatherNamed c_MO h80.2.2 (Nat.le_of_ble_eq_true rfl) d_MO_posix_274 rfl ?_
                  intro v G66 hq
                  rcases hq with ⟨g267, LO268, HI269, P270, hv, hfk, hlk, hsk, hN80, hN87, hN88, hq71, hq72, hq73, hq74, hq75⟩
                  cases hv
                  have h84 := hfk.get h84 (by decide)
                  have h81 := hfk.get h81 (by decide)
                  have h82 := hfk.get h82 (by decide)
                  have hfr := hfr.tr hfk (by decide)
                  have hlen := hlk.trans hlen
                  have hsl := hsk.trans hsl
                  have h80 := hN80
                  have h87 := hN87
                  have h88 := hN88
                  change ab_W _ _ _ G66 277 [some (vR 80), some (vz m_at), some (vz 0), some (vz m_taped), some (vz 7)] [] _
                  refine ab_aload_n d_MO_posix_277 rfl ?_
                  refine ab_dup d_MO_posix_278 rfl ?_
                  refine ab_getf (fs := mof m_thrown m_taped m_length m_out m_wide g267 m_sets m_ranges m_nodes ((m_at + 2) + 0) m_flags m_fault m_place m_numbered m_depth m_value m_isNot m_least0 m_most0 m_slot m_work m_got m_rowMany m_charAt m_charWide m_trail m_isMatch m_matchGroups m_allFrom m_allBefore m_founds m_pieces m_writtenMany m_templateWide m_tooMuch) f_MO_279 d_MO_posix_279 h80.2.2 rfl ?_
                  refine zz_bipush d_MO_posix_282 (by decide) ?_
                  refine zz_iadd d_MO_posix_284 ?_
                  refine ab_putf (fs := mof m_thrown m_taped m_length m_out m_wide g267 m_sets m_ranges m_nodes ((m_at + 2) + 0) m_flags m_fault m_place m_numbered m_depth m_value m_isNot m_least0 m_most0 m_slot m_work m_got m_rowMany m_charAt m_charWide m_trail m_isMatch m_matchGroups m_allFrom m_allBefore m_founds m_pieces m_writtenMany m_templateWide m_tooMuch) f_MO_279 (Or.inl rfl) d_MO_posix_285 h80.2.2 (Nat.le_of_ble_eq_true rfl) (fun _ => ⟨rfl, rfl⟩) (h80.2.1 (by decide)) ?_
                  obtain ⟨G76, eG76⟩ : ∃ z : ab_G, z = List.set G66 80 (ab_ob 12 (mof m_thrown m_taped m_length m_out m_wide g267 m_sets m_ranges m_nodes (((m_at + 2) + 0) + 7) m_flags m_fault m_place m_numbered m_depth m_value m_isNot m_least0 m_most0 m_slot m_work m_got m_rowMany m_charAt m_charWide m_trail m_isMatch m_matchGroups m_allFrom m_allBefore m_founds m_pieces m_writtenMany m_templateWide m_tooMuch)) := ⟨_, rfl⟩
                  have h84 := h84.keep h80 eG76 (by decide)
                  have h87 := h87.keep h80 eG76 (by decide)
                  have h88 := h88.keep h80 eG76 (by decide)
                  have h81 := h81.keep h80 eG76 (by decide)
                  have h82 := h82.keep h80 eG76 (by decide)
                  have hlen := (z_len eG76).trans hlen
                  have hsl := (z_sl h80 eG76 rfl).trans hsl
                  have hfr := hfr.wr h80 eG76 (by decide)
                  have h80 := h80.kept eG76
                  change ab_W _ _ _ (List.set G66 80 (ab_ob 12 (mof m_thrown m_taped m_length m_out m_wide g267 m_sets m_ranges m_nodes (((m_at + 2) + 0) + 7) m_flags m_fault m_place m_numbered m_depth m_value m_isNot m_least0 m_most0 m_slot m_work m_got m_rowMany m_charAt m_charWide m_trail m_isMatch m_matchGroups m_allFrom m_allBefore m_founds m_pieces m_writtenMany m_templateWide m_tooMuch))) 288 [some (vR 80), some (vz m_at), some (vz 0), some (vz m_taped), some (vz 7)] [] _
                  rw [← eG76]
                  refine ab_vret rfl d_MO_posix_288 ?_
                  rw [hQ]; exact (Or.inr ⟨_, _, _, _, _, 8, 0, rfl, hfr, hlen, hsl, h80, h87, h88, (by exact Or.inr ⟨by omega, by omega, (by rw [show m_at + 2 = ((m_at + 2) + 0) by omega]; exact (Or.inr (Or.inl ⟨rfl, (nm_of (by omega) hq48 (by rw [show ((m_at + 2) + 0) + 5 = m_at + 7 by omega]; omega) (by rw [show ((m_at + 2) + 0) + 6 = m_at + 8 by omega]; omega))⟩))), by omega⟩), (by exact kor (w := 7) (by omega) (by omega) hq75), (by omega), (by exact hq73), (by exact lfc_w hq74 (by omega))⟩)
                · refine ab_aload_n d_MO_posix_262 rfl ?_
                  refine zz_bipush d_MO_posix_263 (by decide) ?_
                  refine ab_iload_n d_MO_posix_265 rfl ?_
                  refine ab_callV (d' := d - 1) (as := [vz 7, vz m_at]) (st := []) (r := _) (z_MO_wrong (o := o) (m_thrown := m_thrown) (m_taped := m_taped) (m_length := m_length) (m_out := m_out) (m_wide := m_wide) (m_gathered := m_gathered) (m_sets := m_sets) (m_ranges := m_ranges) (m_nodes := m_nodes) (m_at := ((m_at + 2) + 0)) (m_flags := m_flags) (m_fault := m_fault) (m_place := m_place) (m_numbered := m_numbered) (m_depth := m_depth) (m_value := m_value) (m_isNot := m_isNot) (m_least0 := m_least0) (m_most0 := m_most0) (m_slot := m_slot) (m_work := m_work) (m_got := m_got) (m_rowMany := m_rowMany) (m_charAt := m_charAt) (m_charWide := m_charWide) (m_trail := m_trail) (m_isMatch := m_isMatch) (m_matchGroups := m_matchGroups) (m_allFrom := m_allFrom) (m_allBefore := m_allBefore) (m_founds := m_founds) (m_pieces := m_pieces) (m_writtenMany := m_writtenMany) (m_templateWide := m_templateWide) (m_tooMuch := m_tooMuch) (x := 7) (y := m_at) h80 (by omega) (by omega)) (fun oc G2 h => by rcases h with ⟨h, _⟩ | ⟨h, _⟩ <;> exact ⟨_, h⟩) (by omega) m_MO_wrong ml_MO_304 im_MO_wrong se_MO_wrong c_MO h80.2.2 (Nat.le_of_ble_eq_true rfl) d_MO_posix_266 rfl ?_
                  intro v G77 hq
                  rcases hq with ⟨hv, hfk, hlk, hsk, hN80, hq78⟩ | ⟨hv, hGe, hq79⟩
                  · cases hv
                    have h84 := hfk.get h84 (by decide)
                    have h87 := hfk.get h87 (by decide)
                    have h88 := hfk.get h88 (by decide)
                    have h81 := hfk.get h81 (by decide)
                    have h82 := hfk.get h82 (by decide)
                    have hfr := hfr.tr hfk (by decide)
                    have hlen := hlk.trans hlen
                    have hsl := hsk.trans hsl
                    have h80 := hN80
                    change ab_W _ _ _ G77 269 [some (vR 80), some (vz m_at), some (vz 0), some (vz m_taped), some (vz 7)] [] _
                    refine ab_vret rfl d_MO_posix_269 ?_
                    rw [hQ]; exact (Or.inl ⟨_, _, _, rfl, hfr, hlen, hsl, h80, h87, h88, (by omega), (by omega), (by exact nk_i (b0 := ((m_at + 2) + 0)) (by omega) (nk_no7 (by rw [show ((m_at + 2) + 0) + 5 = m_at + 7 by omega, show ((m_at + 2) + 0) + 6 = m_at + 8 by omega]; omega)))⟩)
                  · cases hv
                    rw [hGe]
                    change ab_W _ _ _ G8 269 [some (vR 80), some (vz m_at), some (vz 0), some (vz m_taped), some (vz 7)] [] _
                    exfalso; omega
              · cases hv
                rw [hGe]
                change ab_W _ _ _ G8 257 [some (vR 80), some (vz m_at), some (vz 0), some (vz m_taped), some (vz 7)] [vz (-1)] _
                refine zz_bipush d_MO_posix_257 (by decide) ?_
                refine zz_icmp_eq (tgt := 270) d_MO_posix_259 (by decide) (by decide) (by decide) (fun c80 => absurd c80 (by decide)) (fun c80 => ?_)
                refine ab_aload_n d_MO_posix_262 rfl ?_
                refine zz_bipush d_MO_posix_263 (by decide) ?_
                refine ab_iload_n d_MO_posix_265 rfl ?_
                refine ab_callV (d' := d - 1) (as := [vz 7, vz m_at]) (st := []) (r := _) (z_MO_wrong (o := o) (m_thrown := m_thrown) (m_taped := m_taped) (m_length := m_length) (m_out := m_out) (m_wide := m_wide) (m_gathered := m_gathered) (m_sets := m_sets) (m_ranges := m_ranges) (m_nodes := m_nodes) (m_at := ((m_at + 2) + 0)) (m_flags := m_flags) (m_fault := m_fault) (m_place := m_place) (m_numbered := m_numbered) (m_depth := m_depth) (m_value := m_value) (m_isNot := m_isNot) (m_least0 := m_least0) (m_most0 := m_most0) (m_slot := m_slot) (m_work := m_work) (m_got := m_got) (m_rowMany := m_rowMany) (m_charAt := m_charAt) (m_charWide := m_charWide) (m_trail := m_trail) (m_isMatch := m_isMatch) (m_matchGroups := m_matchGroups) (m_allFrom := m_allFrom) (m_allBefore := m_allBefore) (m_founds := m_founds) (m_pieces := m_pieces) (m_writtenMany := m_writtenMany) (m_templateWide := m_templateWide) (m_tooMuch := m_tooMuch) (x := 7) (y := m_at) h80 (by omega) (by omega)) (fun oc G2 h => by rcases h with ⟨h, _⟩ | ⟨h, _⟩ <;> exact ⟨_, h⟩) (by omega) m_MO_wrong ml_MO_304 im_MO_wrong se_MO_wrong c_MO h80.2.2 (Nat.le_of_ble_eq_true rfl) d_MO_posix_266 rfl ?_
                intro v G81 hq
                rcases hq with ⟨hv, hfk, hlk, hsk, hN80, hq82⟩ | ⟨hv, hGe, hq83⟩
                · cases hv
                  have h84 := hfk.get h84 (by decide)
                  have h87 := hfk.get h87 (by decide)
                  have h88 := hfk.get h88 (by decide)
                  have h81 := hfk.get h81 (by decide)
                  have h82 := hfk.get h82 (by decide)
                  have hfr := hfr.tr hfk (by decide)
                  have hlen := hlk.trans hlen
                  have hsl := hsk.trans hsl
                  have h80 := hN80
                  change ab_W _ _ _ G81 269 [some (vR 80), some (vz m_at), some (vz 0), some (vz m_taped), some (vz 7)] [] _
                  refine ab_vret rfl d_MO_posix_269 ?_
                  rw [hQ]; exact (Or.inl ⟨_, _, _, rfl, hfr, hlen, hsl, h80, h87, h88, (by omega), (by omega), (by exact nk_i (b0 := ((m_at + 2) + 0)) (by omega) (nk_no7 (by rw [show ((m_at + 2) + 0) + 5 = m_at + 7 by omega, show ((m_at + 2) + 0) + 6 = m_at + 8 by omega]; omega)))⟩)
                · cases hv
                  rw [hGe]
                  change ab_W _ _ _ G8 269 [some (vR 80), some (vz m_at), some (vz 0), some (vz m_taped), some (vz 7)] [] _
                  exfalso; omega
          · cases hv
            rw [hGe]
            change ab_W _ _ _ G8 246 [some (vR 80), some (vz m_at), some (vz 0), some (vz m_taped), some (vz 7)] [vz (-1)] _
            exfalso; omega
        · cases hv
          rw [hGe]
          change ab_W _ _ _ G8 105 [some (vR 80), some (vz m_at), some (vz 0), some (vz m_taped), none] [vz 0] _
          refine zz_if_eq (tgt := 113) d_MO_posix_105 (by decide) (by decide) (fun c84 => ?_) (fun c84 => absurd c84 (by decide))
          refine ab_aload_n d_MO_posix_113 rfl ?_
          refine ab_getf (fs := mof m_thrown m_taped m_length m_out m_wide m_gathered m_sets m_ranges m_nodes ((m_at + 2) + 0) m_flags m_fault m_place m_numbered m_depth m_value m_isNot m_least0 m_most0 m_slot m_work m_got m_rowMany m_charAt m_charWide m_trail m_isMatch m_matchGroups m_allFrom m_allBefore m_founds m_pieces m_writtenMany m_templateWide m_tooMuch) f_MO_19 d_MO_posix_114 h80.2.2 rfl ?_
          refine ab_aload_n d_MO_posix_117 rfl ?_
          refine ab_getf (fs := mof m_thrown m_taped m_length m_out m_wide m_gathered m_sets m_ranges m_nodes ((m_at + 2) + 0) m_flags m_fault m_place m_numbered m_depth m_value m_isNot m_least0 m_most0 m_slot m_work m_got m_rowMany m_charAt m_charWide m_trail m_isMatch m_matchGroups m_allFrom m_allBefore m_founds m_pieces m_writtenMany m_templateWide m_tooMuch) f_MO_279 d_MO_posix_118 h80.2.2 rfl ?_
          refine ab_iload_n d_MO_posix_121 rfl ?_
          refine zz_bipush d_MO_posix_122 (by decide) ?_
          refine zz_bipush d_MO_posix_124 (by decide) ?_
          refine zz_bipush d_MO_posix_126 (by decide) ?_
          refine zz_bipush d_MO_posix_128 (by decide) ?_
          refine zz_bipush d_MO_posix_130 (by decide) ?_
          refine ab_callS (d' := d - 1) (as := [vR 84, vz ((m_at + 2) + 0), vz m_taped, vz 117, vz 112, vz 112, vz 101, vz 114]) (st := []) (z_MO_spells (o := o) (ar := 84) (la := 284) (m := 2000) (f := A_tape) (p := ((m_at + 2) + 0)) (n := m_taped) (c1 := 117) (c2 := 112) (c3 := 112) (c4 := 101) (c5 := 114) h84 (by omega) (by omega) jtp (by omega)) (fun oc G2 h => by rcases h with ⟨h, _⟩ | ⟨h, _⟩ <;> exact ⟨_, h⟩) (by omega) m_MO_spells ml_MO_333 st_MO_spells (Nat.le_of_ble_eq_true rfl) d_MO_posix_132 rfl ?_
          intro v G85 hq
          rcases hq with ⟨hv, hGe, hq86, hq87⟩ | ⟨hv, hGe, hq88⟩
          · cases hv
            rw [hGe]
            change ab_W _ _ _ G8 135 [some (vR 80), some (vz m_at), some (vz 0), some (vz m_taped), none] [vz 1] _
            refine zz_if_eq (tgt := 143) d_MO_posix_135 (by decide) (by decide) (fun c89 => absurd c89 (by decide)) (fun c89 => ?_)
            refine zz_bipush d_MO_posix_138 (by decide) ?_
            refine ab_goto (tgt := 234) d_MO_posix_140 (by decide) ?_
            refine ab_istore d_MO_posix_234 (Nat.le_of_ble_eq_true rfl) (Nat.le_of_ble_eq_true rfl) rfl ?_
            change ab_W _ _ _ G8 236 [some (vR 80), some (vz m_at), some (vz 0), some (vz m_taped), some (vz 8)] [] _
            refine ab_iload d_MO_posix_236 rfl ?_
            refine zz_if_lt (tgt := 262) d_MO_posix_238 (by decide) (by decide) (fun c90 => absurd c90 (by decide)) (fun c90 => ?_)
            refine ab_aload_n d_MO_posix_241 rfl ?_
            refine zz_iconst d_MO_posix_242 ?_
            refine ab_callV (d' := d - 1) (as := [vz 5]) (st := []) (r := _) (z_MO_here (o := o) (m_thrown := m_thrown) (m_taped := m_taped) (m_length := m_length) (m_out := m_out) (m_wide := m_wide) (m_gathered := m_gathered) (m_sets := m_sets) (m_ranges := m_ranges) (m_nodes := m_nodes) (m_at := ((m_at + 2) + 0)) (m_flags := m_flags) (m_fault := m_fault) (m_place := m_place) (m_numbered := m_numbered) (m_depth := m_depth) (m_value := m_value) (m_isNot := m_isNot) (m_least0 := m_least0) (m_most0 := m_most0) (m_slot := m_slot) (m_work := m_work) (m_got := m_got) (m_rowMany := m_rowMany) (m_charAt := m_charAt) (m_charWide := m_charWide) (m_trail := m_trail) (m_isMatch := m_isMatch) (m_matchGroups := m_matchGroups) (m_allFrom := m_allFrom) (m_allBefore := m_allBefore) (m_founds := m_founds) (m_pieces := m_pieces) (m_writtenMany := m_writtenMany) (m_templateWide := m_templateWide) (m_tooMuch := m_tooMuch) (A_tape := A_tape) (k := 5) (qh := (m_at + 7)) h80 h84 (by omega) (by omega) jtp (by omega) (by omega)) (fun oc G2 h => by rcases h with ⟨h, _⟩ | ⟨h, _⟩ <;> exact ⟨_, h⟩) (by omega) m_MO_here ml_MO_297 im_MO_here se_MO_here c_MO h80.2.2 (Nat.le_of_ble_eq_true rfl) d_MO_posix_243 rfl ?_
            intro v G91 hq
            rcases hq with ⟨hv, hGe, hq92⟩ | ⟨hv, hGe, hq93, hq94⟩
            · cases hv
              rw [hGe]
              change ab_W _ _ _ G8 246 [some (vR 80), some (vz m_at), some (vz 0), some (vz m_taped), some (vz 8)] [vz (tpk A_tape m_taped (m_at + 7))] _
              refine zz_bipush d_MO_posix_246 (by decide) ?_
              refine zz_icmp_ne (tgt := 262) d_MO_posix_248 (by decide) (by omega) (by decide) (fun c95 => ?_) (fun c95 => ?_)
              · refine ab_aload_n d_MO_posix_262 rfl ?_
                refine zz_bipush d_MO_posix_263 (by decide) ?_
                refine ab_iload_n d_MO_posix_265 rfl ?_
                refine ab_callV (d' := d - 1) (as := [vz 7, vz m_at]) (st := []) (r := _) (z_MO_wrong (o := o) (m_thrown := m_thrown) (m_taped := m_taped) (m_length := m_length) (m_out := m_out) (m_wide := m_wide) (m_gathered := m_gathered) (m_sets := m_sets) (m_ranges := m_ranges) (m_nodes := m_nodes) (m_at := ((m_at + 2) + 0)) (m_flags := m_flags) (m_fault := m_fault) (m_place := m_place) (m_numbered := m_numbered) (m_depth := m_depth) (m_value := m_value) (m_isNot := m_isNot) (m_least0 := m_least0) (m_most0 := m_most0) (m_slot := m_slot) (m_work := m_work) (m_got := m_got) (m_rowMany := m_rowMany) (m_charAt := m_charAt) (m_charWide := m_charWide) (m_trail := m_trail) (m_isMatch := m_isMatch) (m_matchGroups := m_matchGroups) (m_allFrom := m_allFrom) (m_allBefore := m_allBefore) (m_founds := m_founds) (m_pieces := m_pieces) (m_writtenMany := m_writtenMany) (m_templateWide := m_templateWide) (m_tooMuch := m_tooMuch) (x := 7) (y := m_at) h80 (by omega) (by omega)) (fun oc G2 h => by rcases h with ⟨h, _⟩ | ⟨h, _⟩ <;> exact ⟨_, h⟩) (by omega) m_MO_wrong ml_MO_304 im_MO_wrong se_MO_wrong c_MO h80.2.2 (Nat.le_of_ble_eq_true rfl) d_MO_posix_266 rfl ?_
                intro v G96 hq
                rcases hq with ⟨hv, hfk, hlk, hsk, hN80, hq97⟩ | ⟨hv, hGe, hq98⟩
                · cases hv
                  have h84 := hfk.get h84 (by decide)
                  have h87 := hfk.get h87 (by decide)
                  have h88 := hfk.get h88 (by decide)
                  have h81 := hfk.get h81 (by decide)
                  have h82 := hfk.get h82 (by decide)
                  have hfr := hfr.tr hfk (by decide)
                  have hlen := hlk.trans hlen
                  have hsl := hsk.trans hsl
                  have h80 := hN80
                  change ab_W _ _ _ G96 269 [some (vR 80), some (vz m_at), some (vz 0), some (vz m_taped), some (vz 8)] [] _
                  refine ab_vret rfl d_MO_posix_269 ?_
                  rw [hQ]; exact (Or.inl ⟨_, _, _, rfl, hfr, hlen, hsl, h80, h87, h88, (by omega), (by omega), (by exact nk_i (b0 := ((m_at + 2) + 0)) (by omega) (nk_no7 (by rw [show ((m_at + 2) + 0) + 5 = m_at + 7 by omega, show ((m_at + 2) + 0) + 6 = m_at + 8 by omega]; omega)))⟩)
                · cases hv
                  rw [hGe]
                  change ab_W _ _ _ G8 269 [some (vR 80), some (vz m_at), some (vz 0), some (vz m_taped), some (vz 8)] [] _
                  exfalso; omega
              · refine ab_aload_n d_MO_posix_251 rfl ?_
                refine zz_bipush d_MO_posix_252 (by decide) ?_
                refine ab_callV (d' := d - 1) (as := [vz 6]) (st := []) (r := _) (z_MO_here (o := o) (m_thrown := m_thrown) (m_taped := m_taped) (m_length := m_length) (m_out := m_out) (m_wide := m_wide) (m_gathered := m_gathered) (m_sets := m_sets) (m_ranges := m_ranges) (m_nodes := m_nodes) (m_at := ((m_at + 2) + 0)) (m_flags := m_flags) (m_fault := m_fault) (m_place := m_place) (m_numbered := m_numbered) (m_depth := m_depth) (m_value := m_value) (m_isNot := m_isNot) (m_least0 := m_least0) (m_most0 := m_most0) (m_slot := m_slot) (m_work := m_work) (m_got := m_got) (m_rowMany := m_rowMany) (m_charAt := m_charAt) (m_charWide := m_charWide) (m_trail := m_trail) (m_isMatch := m_isMatch) (m_matchGroups := m_matchGroups) (m_allFrom := m_allFrom) (m_allBefore := m_allBefore) (m_founds := m_founds) (m_pieces := m_pieces) (m_writtenMany := m_writtenMany) (m_templateWide := m_templateWide) (m_tooMuch := m_tooMuch) (A_tape := A_tape) (k := 6) (qh := (m_at + 8)) h80 h84 (by omega) (by omega) jtp (by omega) (by omega)) (fun oc G2 h => by rcases h with ⟨h, _⟩ | ⟨h, _⟩ <;> exact ⟨_, h⟩) (by omega) m_MO_here ml_MO_297 im_MO_here se_MO_here c_MO h80.2.2 (Nat.le_of_ble_eq_true rfl) d_MO_posix_254 rfl ?_
                intro v G99 hq
                rcases hq with ⟨hv, hGe, hq100⟩ | ⟨hv, hGe, hq101, hq102⟩
                · cases hv
                  rw [hGe]
                  change ab_W _ _ _ G8 257 [some (vR 80), some (vz m_at), some (vz 0), some (vz m_taped), some (vz 8)] [vz (tpk A_tape m_taped (m_at + 8))] _
                  refine zz_bipush d_MO_posix_257 (by decide) ?_
                  refine zz_icmp_eq (tgt := 270) d_MO_posix_259 (by decide) (by omega) (by decide) (fun c103 => ?_) (fun c103 => ?_)
                  · refine ab_aload_n d_MO_posix_270 rfl ?_
                    refine ab_iload d_MO_posix_271 rfl ?_
                    refine ab_iload_n d_MO_posix_273 rfl ?_
                    refine ab_callV (d' := d - 1) (as := [vz 8, vz 0]) (st := []) (r := _) (z_MO_gatherNamed (o := o) (m_thrown := m_thrown) (m_taped := m_taped) (m_length := m_length) (m_out := m_out) (m_wide := m_wide) (m_gathered := m_gathered) (m_sets := m_sets) (m_ranges := m_ranges) (m_nodes := m_nodes) (m_at := ((m_at + 2) + 0)) (m_flags := m_flags) (m_fault := m_fault) (m_place := m_place) (m_numbered := m_numbered) (m_depth := m_depth) (m_value := m_value) (m_isNot := m_isNot) (m_least0 := m_least0) (m_most0 := m_most0) (m_slot := m_slot) (m_work := m_work) (m_got := m_got) (m_rowMany := m_rowMany) (m_charAt := m_charAt) (m_charWide := m_charWide) (m_trail := m_trail) (m_isMatch := m_isMatch) (m_matchGroups := m_matchGroups) (m_allFrom := m_allFrom) (m_allBefore := m_allBefore) (m_founds := m_founds) (m_pieces := m_pieces) (m_writtenMany := m_writtenMany) (m_templateWide := m_templateWide) (m_tooMuch := m_tooMuch) (LO := LO) (HI := HI) (MK := MK) (P := P) (x := 0) (w := 8) (nt := 0) (mm := mm) h80 h87 h88 h81 h82 (by omega) (by omega) jc jl (by omega)) (fun oc G2 h => by rcases h with ⟨_, _, _, _, h, _⟩ <;> exact ⟨_, h⟩) (by omega) m_MO_gatherNamed ml_MO_337 im_MO_gatherNamed se_MO_gatherNamed c_MO h80.2.2 (Nat.le_of_ble_eq_true rfl) d_MO_posix_274 rfl ?_
                    intro v G104 hq
                    rcases hq with ⟨g2105, LO2106, HI2107, P2108, hv, hfk, hlk, hsk, hN80, hN87, hN88, hq109, hq110, hq111, hq112, hq113⟩
                    cases hv
                    have h84 := hfk.get h84 (by decide)
                    have h81 := hfk.get h81 (by decide)
                    have h82 := hfk.get h82 (by decide)
                    have hfr := hfr.tr hfk (by decide)
                    have hlen := hlk.trans hlen
                    have hsl := hsk.trans hsl
                    have h80 := hN80
                    have h87 := hN87
                    have h88 := hN88
                    change ab_W _ _ _ G104 277 [some (vR 80), some (vz m_at), some (vz 0), some (vz m_taped), some (vz 8)] [] _
                    refine ab_aload_n d_MO_posix_277 rfl ?_
                    refine ab_dup d_MO_posix_278 rfl ?_
                    refine ab_getf (fs := mof m_thrown m_taped m_length m_out m_wide g2105 m_sets m_ranges m_nodes ((m_at + 2) + 0) m_flags m_fault m_place m_numbered m_depth m_value m_isNot m_least0 m_most0 m_slot m_work m_got m_rowMany m_charAt m_charWide m_trail m_isMatch m_matchGroups m_allFrom m_allBefore m_founds m_pieces m_writtenMany m_templateWide m_tooMuch) f_MO_279 d_MO_posix_279 h80.2.2 rfl ?_
                    refine zz_bipush d_MO_posix_282 (by decide) ?_
                    refine zz_iadd d_MO_posix_284 ?_
                    refine ab_putf (fs := mof m_thrown m_taped m_length m_out m_wide g2105 m_sets m_ranges m_nodes ((m_at + 2) + 0) m_flags m_fault m_place m_numbered m_depth m_value m_isNot m_least0 m_most0 m_slot m_work m_got m_rowMany m_charAt m_charWide m_trail m_isMatch m_matchGroups m_allFrom m_allBefore m_founds m_pieces m_writtenMany m_templateWide m_tooMuch) f_MO_279 (Or.inl rfl) d_MO_posix_285 h80.2.2 (Nat.le_of_ble_eq_true rfl) (fun _ => ⟨rfl, rfl⟩) (h80.2.1 (by decide)) ?_
                    obtain ⟨G114, eG114⟩ : ∃ z : ab_G, z = List.set G104 80 (ab_ob 12 (mof m_thrown m_taped m_length m_out m_wide g2105 m_sets m_ranges m_nodes (((m_at + 2) + 0) + 7) m_flags m_fault m_place m_numbered m_depth m_value m_isNot m_least0 m_most0 m_slot m_work m_got m_rowMany m_charAt m_charWide m_trail m_isMatch m_matchGroups m_allFrom m_allBefore m_founds m_pieces m_writtenMany m_templateWide m_tooMuch)) := ⟨_, rfl⟩
                    have h84 := h84.keep h80 eG114 (by decide)
                    have h87 := h87.keep h80 eG114 (by decide)
                    have h88 := h88.keep h80 eG114 (by decide)
                    have h81 := h81.keep h80 eG114 (by decide)
                    have h82 := h82.keep h80 eG114 (by decide)
                    have hlen := (z_len eG114).trans hlen
                    have hsl := (z_sl h80 eG114 rfl).trans hsl
                    have hfr := hfr.wr h80 eG114 (by decide)
                    have h80 := h80.kept eG114
                    change ab_W _ _ _ (List.set G104 80 (ab_ob 12 (mof m_thrown m_taped m_length m_out m_wide g2105 m_sets m_ranges m_nodes (((m_at + 2) + 0) + 7) m_flags m_fault m_place m_numbered m_depth m_value m_isNot m_least0 m_most0 m_slot m_work m_got m_rowMany m_charAt m_charWide m_trail m_isMatch m_matchGroups m_allFrom m_allBefore m_founds m_pieces m_writtenMany m_templateWide m_tooMuch))) 288 [some (vR 80), some (vz m_at), some (vz 0), some (vz m_taped), some (vz 8)] [] _
                    rw [← eG114]
                    refine ab_vret rfl d_MO_posix_288 ?_
                    rw [hQ]; exact (Or.inr ⟨_, _, _, _, _, 9, 0, rfl, hfr, hlen, hsl, h80, h87, h88, (by exact Or.inr ⟨by omega, by omega, (by rw [show m_at + 2 = ((m_at + 2) + 0) by omega]; exact (Or.inr (Or.inr (Or.inl ⟨rfl, (nm_of (by omega) hq86 (by rw [show ((m_at + 2) + 0) + 5 = m_at + 7 by omega]; omega) (by rw [show ((m_at + 2) + 0) + 6 = m_at + 8 by omega]; omega))⟩)))), by omega⟩), (by exact kor (w := 8) (by omega) (by omega) hq113), (by omega), (by exact hq111), (by exact lfc_w hq112 (by omega))⟩)
                  · refine ab_aload_n d_MO_posix_262 rfl ?_
                    refine zz_bipush d_MO_posix_263 (by decide) ?_
                    refine ab_iload_n d_MO_posix_265 rfl ?_
                    refine ab_callV (d' := d - 1) (as := [vz 7, vz m_at]) (st := []) (r := _) (z_MO_wrong (o := o) (m_thrown := m_thrown) (m_taped := m_taped) (m_length := m_length) (m_out := m_out) (m_wide := m_wide) (m_gathered := m_gathered) (m_sets := m_sets) (m_ranges := m_ranges) (m_nodes := m_nodes) (m_at := ((m_at + 2) + 0)) (m_flags := m_flags) (m_fault := m_fault) (m_place := m_place) (m_numbered := m_numbered) (m_depth := m_depth) (m_value := m_value) (m_isNot := m_isNot) (m_least0 := m_least0) (m_most0 := m_most0) (m_slot := m_slot) (m_work := m_work) (m_got := m_got) (m_rowMany := m_rowMany) (m_charAt := m_charAt) (m_charWide := m_charWide) (m_trail := m_trail) (m_isMatch := m_isMatch) (m_matchGroups := m_matchGroups) (m_allFrom := m_allFrom) (m_allBefore := m_allBefore) (m_founds := m_founds) (m_pieces := m_pieces) (m_writtenMany := m_writtenMany) (m_templateWide := m_templateWide) (m_tooMuch := m_tooMuch) (x := 7) (y := m_at) h80 (by omega) (by omega)) (fun oc G2 h => by rcases h with ⟨h, _⟩ | ⟨h, _⟩ <;> exact ⟨_, h⟩) (by omega) m_MO_wrong ml_MO_304 im_MO_wrong se_MO_wrong c_MO h80.2.2 (Nat.le_of_ble_eq_true rfl) d_MO_posix_266 rfl ?_
                    intro v G115 hq
                    rcases hq with ⟨hv, hfk, hlk, hsk, hN80, hq116⟩ | ⟨hv, hGe, hq117⟩
                    · cases hv
                      have h84 := hfk.get h84 (by decide)
                      have h87 := hfk.get h87 (by decide)
                      have h88 := hfk.get h88 (by decide)
                      have h81 := hfk.get h81 (by decide)
                      have h82 := hfk.get h82 (by decide)
                      have hfr := hfr.tr hfk (by decide)
                      have hlen := hlk.trans hlen
                      have hsl := hsk.trans hsl
                      have h80 := hN80
                      change ab_W _ _ _ G115 269 [some (vR 80), some (vz m_at), some (vz 0), some (vz m_taped), some (vz 8)] [] _
                      refine ab_vret rfl d_MO_posix_269 ?_
                      rw [hQ]; exact (Or.inl ⟨_, _, _, rfl, hfr, hlen, hsl, h80, h87, h88, (by omega), (by omega), (by exact nk_i (b0 := ((m_at + 2) + 0)) (by omega) (nk_no7 (by rw [show ((m_at + 2) + 0) + 5 = m_at + 7 by omega, show ((m_at + 2) + 0) + 6 = m_at + 8 by omega]; omega)))⟩)
                    · cases hv
                      rw [hGe]
                      change ab_W _ _ _ G8 269 [some (vR 80), some (vz m_at), some (vz 0), some (vz m_taped), some (vz 8)] [] _
                      exfalso; omega
                · cases hv
                  rw [hGe]
                  change ab_W _ _ _ G8 257 [some (vR 80), some (vz m_at), some (vz 0), some (vz m_taped), some (vz 8)] [vz (-1)] _
                  refine zz_bipush d_MO_posix_257 (by decide) ?_
                  refine zz_icmp_eq (tgt := 270) d_MO_posix_259 (by decide) (by decide) (by decide) (fun c118 => absurd c118 (by decide)) (fun c118 => ?_)
                  refine ab_aload_n d_MO_posix_262 rfl ?_
                  refine zz_bipush d_MO_posix_263 (by decide) ?_
                  refine ab_iload_n d_MO_posix_265 rfl ?_
                  refine ab_callV (d' := d - 1) (as := [vz 7, vz m_at]) (st := []) (r := _) (z_MO_wrong (o := o) (m_thrown := m_thrown) (m_taped := m_taped) (m_length := m_length) (m_out := m_out) (m_wide := m_wide) (m_gathered := m_gathered) (m_sets := m_sets) (m_ranges := m_ranges) (m_nodes := m_nodes) (m_at := ((m_at + 2) + 0)) (m_flags := m_flags) (m_fault := m_fault) (m_place := m_place) (m_numbered := m_numbered) (m_depth := m_depth) (m_value := m_value) (m_isNot := m_isNot) (m_least0 := m_least0) (m_most0 := m_most0) (m_slot := m_slot) (m_work := m_work) (m_got := m_got) (m_rowMany := m_rowMany) (m_charAt := m_charAt) (m_charWide := m_charWide) (m_trail := m_trail) (m_isMatch := m_isMatch) (m_matchGroups := m_matchGroups) (m_allFrom := m_allFrom) (m_allBefore := m_allBefore) (m_founds := m_founds) (m_pieces := m_pieces) (m_writtenMany := m_writtenMany) (m_templateWide := m_templateWide) (m_tooMuch := m_tooMuch) (x := 7) (y := m_at) h80 (by omega) (by omega)) (fun oc G2 h => by rcases h with ⟨h, _⟩ | ⟨h, _⟩ <;> exact ⟨_, h⟩) (by omega) m_MO_wrong ml_MO_304 im_MO_wrong se_MO_wrong c_MO h80.2.2 (Nat.le_of_ble_eq_true rfl) d_MO_posix_266 rfl ?_
                  intro v G119 hq
                  rcases hq with ⟨hv, hfk, hlk, hsk, hN80, hq120⟩ | ⟨hv, hGe, hq121⟩
                  · cases hv
                    have h84 := hfk.get h84 (by decide)
                    have h87 := hfk.get h87 (by decide)
                    have h88 := hfk.get h88 (by decide)
                    have h81 := hfk.get h81 (by decide)
                    have h82 := hfk.get h82 (by decide)
                    have hfr := hfr.tr hfk (by decide)
                    have hlen := hlk.trans hlen
                    have hsl := hsk.trans hsl
                    have h80 := hN80
                    change ab_W _ _ _ G119 269 [some (vR 80), some (vz m_at), some (vz 0), some (vz m_taped), some (vz 8)] [] _
                    refine ab_vret rfl d_MO_posix_269 ?_
                    rw [hQ]; exact (Or.inl ⟨_, _, _, rfl, hfr, hlen, hsl, h80, h87, h88, (by omega), (by omega), (by exact nk_i (b0 := ((m_at + 2) + 0)) (by omega) (nk_no7 (by rw [show ((m_at + 2) + 0) + 5 = m_at + 7 by omega, show ((m_at + 2) + 0) + 6 = m_at + 8 by omega]; omega)))⟩)
                  · cases hv
                    rw [hGe]
                    change ab_W _ _ _ G8 269 [some (vR 80), some (vz m_at), some (vz 0), some (vz m_taped), some (vz 8)] [] _
                    exfalso; omega
            · cases hv
              rw [hGe]
              change ab_W _ _ _ G8 246 [some (vR 80), some (vz m_at), some (vz 0), some (vz m_taped), some (vz 8)] [vz (-1)] _
              exfalso; omega
          · cases hv
            rw [hGe]
            change ab_W _ _ _ G8 135 [some (vR 80), some (vz m_at), some (vz 0), some (vz m_taped), none] [vz 0] _
            refine zz_if_eq (tgt := 143) d_MO_posix_135 (by decide) (by decide) (fun c122 => ?_) (fun c122 => absurd c122 (by decide))
            refine ab_aload_n d_MO_posix_143 rfl ?_
            refine ab_getf (fs := mof m_thrown m_taped m_length m_out m_wide m_gathered m_sets m_ranges m_nodes ((m_at + 2) + 0) m_flags m_fault m_place m_numbered m_depth m_value m_isNot m_least0 m_most0 m_slot m_work m_got m_rowMany m_charAt m_charWide m_trail m_isMatch m_matchGroups m_allFrom m_allBefore m_founds m_pieces m_writtenMany m_templateWide m_tooMuch) f_MO_19 d_MO_posix_144 h80.2.2 rfl ?_
            refine ab_aload_n d_MO_posix_147 rfl ?_
            refine ab_getf (fs := mof m_thrown m_taped m_length m_out m_wide m_gathered m_sets m_ranges m_nodes ((m_at + 2) + 0) m_flags m_fault m_place m_numbered m_depth m_value m_isNot m_least0 m_most0 m_slot m_work m_got m_rowMany m_charAt m_charWide m_trail m_isMatch m_matchGroups m_allFrom m_allBefore m_founds m_pieces m_writtenMany m_templateWide m_tooMuch) f_MO_279 d_MO_posix_148 h80.2.2 rfl ?_
            refine ab_iload_n d_MO_posix_151 rfl ?_
            refine zz_bipush d_MO_posix_152 (by decide) ?_
            refine zz_bipush d_MO_posix_154 (by decide) ?_
            refine zz_bipush d_MO_posix_156 (by decide) ?_
            refine zz_bipush d_MO_posix_158 (by decide) ?_
            refine zz_bipush d_MO_posix_160 (by decide) ?_
            refine ab_callS (d' := d - 1) (as := [vR 84, vz ((m_at + 2) + 0), vz m_taped, vz 108, vz 111, vz 119, vz 101, vz 114]) (st := []) (z_MO_spells (o := o) (ar := 84) (la := 284) (m := 2000) (f := A_tape) (p := ((m_at + 2) + 0)) (n := m_taped) (c1 := 108) (c2 := 111) (c3 := 119) (c4 := 101) (c5 := 114) h84 (by omega) (by omega) jtp (by omega)) (fun oc G2 h => by rcases h with ⟨h, _⟩ | ⟨h, _⟩ <;> exact ⟨_, h⟩) (by omega) m_MO_spells ml_MO_333 st_MO_spells (Nat.le_of_ble_eq_true rfl) d_MO_posix_162 rfl ?_
            intro v G123 hq
            rcases hq with ⟨hv, hGe, hq124, hq125⟩ | ⟨hv, hGe, hq126⟩
            · cases hv
              rw [hGe]
              change ab_W _ _ _ G8 165 [some (vR 80), some (vz m_at), some (vz 0), some (vz m_taped), none] [vz 1] _
              refine zz_if_eq (tgt := 173) d_MO_posix_165 (by decide) (by decide) (fun c127 => absurd c127 (by decide)) (fun c127 => ?_)
              refine zz_bipush d_MO_posix_168 (by decide) ?_
              refine ab_goto (tgt := 234) d_MO_posix_170 (by decide) ?_
              refine ab_istore d_MO_posix_234 (Nat.le_of_ble_eq_true rfl) (Nat.le_of_ble_eq_true rfl) rfl ?_
              change ab_W _ _ _ G8 236 [some (vR 80), some (vz m_at), some (vz 0), some (vz m_taped), some (vz 9)] [] _
              refine ab_iload d_MO_posix_236 rfl ?_
              refine zz_if_lt (tgt := 262) d_MO_posix_238 (by decide) (by decide) (fun c128 => absurd c128 (by decide)) (fun c128 => ?_)
              refine ab_aload_n d_MO_posix_241 rfl ?_
              refine zz_iconst d_MO_posix_242 ?_
              refine ab_callV (d' := d - 1) (as := [vz 5]) (st := []) (r := _) (z_MO_here (o := o) (m_thrown := m_thrown) (m_taped := m_taped) (m_length := m_length) (m_out := m_out) (m_wide := m_wide) (m_gathered := m_gathered) (m_sets := m_sets) (m_ranges := m_ranges) (m_nodes := m_nodes) (m_at := ((m_at + 2) + 0)) (m_flags := m_flags) (m_fault := m_fault) (m_place := m_place) (m_numbered := m_numbered) (m_depth := m_depth) (m_value := m_value) (m_isNot := m_isNot) (m_least0 := m_least0) (m_most0 := m_most0) (m_slot := m_slot) (m_work := m_work) (m_got := m_got) (m_rowMany := m_rowMany) (m_charAt := m_charAt) (m_charWide := m_charWide) (m_trail := m_trail) (m_isMatch := m_isMatch) (m_matchGroups := m_matchGroups) (m_allFrom := m_allFrom) (m_allBefore := m_allBefore) (m_founds := m_founds) (m_pieces := m_pieces) (m_writtenMany := m_writtenMany) (m_templateWide := m_templateWide) (m_tooMuch := m_tooMuch) (A_tape := A_tape) (k := 5) (qh := (m_at + 7)) h80 h84 (by omega) (by omega) jtp (by omega) (by omega)) (fun oc G2 h => by rcases h with ⟨h, _⟩ | ⟨h, _⟩ <;> exact ⟨_, h⟩) (by omega) m_MO_here ml_MO_297 im_MO_here se_MO_here c_MO h80.2.2 (Nat.le_of_ble_eq_true rfl) d_MO_posix_243 rfl ?_
              intro v G129 hq
              rcases hq with ⟨hv, hGe, hq130⟩ | ⟨hv, hGe, hq131, hq132⟩
              · cases hv
                rw [hGe]
                change ab_W _ _ _ G8 246 [some (vR 80), some (vz m_at), some (vz 0), some (vz m_taped), some (vz 9)] [vz (tpk A_tape m_taped (m_at + 7))] _
                refine zz_bipush d_MO_posix_246 (by decide) ?_
                refine zz_icmp_ne (tgt := 262) d_MO_posix_248 (by decide) (by omega) (by decide) (fun c133 => ?_) (fun c133 => ?_)
                · refine ab_aload_n d_MO_posix_262 rfl ?_
                  refine zz_bipush d_MO_posix_263 (by decide) ?_
                  refine ab_iload_n d_MO_posix_265 rfl ?_
                  refine ab_callV (d' := d - 1) (as := [vz 7, vz m_at]) (st := []) (r := _) (z_MO_wrong (o := o) (m_thrown := m_thrown) (m_taped := m_taped) (m_length := m_length) (m_out := m_out) (m_wide := m_wide) (m_gathered := m_gathered) (m_sets := m_sets) (m_ranges := m_ranges) (m_nodes := m_nodes) (m_at := ((m_at + 2) + 0)) (m_flags := m_flags) (m_fault := m_fault) (m_place := m_place) (m_numbered := m_numbered) (m_depth := m_depth) (m_value := m_value) (m_isNot := m_isNot) (m_least0 := m_least0) (m_most0 := m_most0) (m_slot := m_slot) (m_work := m_work) (m_got := m_got) (m_rowMany := m_rowMany) (m_charAt := m_charAt) (m_charWide := m_charWide) (m_trail := m_trail) (m_isMatch := m_isMatch) (m_matchGroups := m_matchGroups) (m_allFrom := m_allFrom) (m_allBefore := m_allBefore) (m_founds := m_founds) (m_pieces := m_pieces) (m_writtenMany := m_writtenMany) (m_templateWide := m_templateWide) (m_tooMuch := m_tooMuch) (x := 7) (y := m_at) h80 (by omega) (by omega)) (fun oc G2 h => by rcases h with ⟨h, _⟩ | ⟨h, _⟩ <;> exact ⟨_, h⟩) (by omega) m_MO_wrong ml_MO_304 im_MO_wrong se_MO_wrong c_MO h80.2.2 (Nat.le_of_ble_eq_true rfl) d_MO_posix_266 rfl ?_
                  intro v G134 hq
                  rcases hq with ⟨hv, hfk, hlk, hsk, hN80, hq135⟩ | ⟨hv, hGe, hq136⟩
                  · cases hv
                    have h84 := hfk.get h84 (by decide)
                    have h87 := hfk.get h87 (by decide)
                    have h88 := hfk.get h88 (by decide)
                    have h81 := hfk.get h81 (by decide)
                    have h82 := hfk.get h82 (by decide)
                    have hfr := hfr.tr hfk (by decide)
                    have hlen := hlk.trans hlen
                    have hsl := hsk.trans hsl
                    have h80 := hN80
                    change ab_W _ _ _ G134 269 [some (vR 80), some (vz m_at), some (vz 0), some (vz m_taped), some (vz 9)] [] _
                    refine ab_vret rfl d_MO_posix_269 ?_
                    rw [hQ]; exact (Or.inl ⟨_, _, _, rfl, hfr, hlen, hsl, h80, h87, h88, (by omega), (by omega), (by exact nk_i (b0 := ((m_at + 2) + 0)) (by omega) (nk_no7 (by rw [show ((m_at + 2) + 0) + 5 = m_at + 7 by omega, show ((m_at + 2) + 0) + 6 = m_at + 8 by omega]; omega)))⟩)
                  · cases hv
                    rw [hGe]
                    change ab_W _ _ _ G8 269 [some (vR 80), some (vz m_at), some (vz 0), some (vz m_taped), some (vz 9)] [] _
                    exfalso; omega
                · refine ab_aload_n d_MO_posix_251 rfl ?_
                  refine zz_bipush d_MO_posix_252 (by decide) ?_
                  refine ab_callV (d' := d - 1) (as := [vz 6]) (st := []) (r := _) (z_MO_here (o := o) (m_thrown := m_thrown) (m_taped := m_taped) (m_length := m_length) (m_out := m_out) (m_wide := m_wide) (m_gathered := m_gathered) (m_sets := m_sets) (m_ranges := m_ranges) (m_nodes := m_nodes) (m_at := ((m_at + 2) + 0)) (m_flags := m_flags) (m_fault := m_fault) (m_place := m_place) (m_numbered := m_numbered) (m_depth := m_depth) (m_value := m_value) (m_isNot := m_isNot) (m_least0 := m_least0) (m_most0 := m_most0) (m_slot := m_slot) (m_work := m_work) (m_got := m_got) (m_rowMany := m_rowMany) (m_charAt := m_charAt) (m_charWide := m_charWide) (m_trail := m_trail) (m_isMatch := m_isMatch) (m_matchGroups := m_matchGroups) (m_allFrom := m_allFrom) (m_allBefore := m_allBefore) (m_founds := m_founds) (m_pieces := m_pieces) (m_writtenMany := m_writtenMany) (m_templateWide := m_templateWide) (m_tooMuch := m_tooMuch) (A_tape := A_tape) (k := 6) (qh := (m_at + 8)) h80 h84 (by omega) (by omega) jtp (by omega) (by omega)) (fun oc G2 h => by rcases h with ⟨h, _⟩ | ⟨h, _⟩ <;> exact ⟨_, h⟩) (by omega) m_MO_here ml_MO_297 im_MO_here se_MO_here c_MO h80.2.2 (Nat.le_of_ble_eq_true rfl) d_MO_posix_254 rfl ?_
                  intro v G137 hq
                  rcases hq with ⟨hv, hGe, hq138⟩ | ⟨hv, hGe, hq139, hq140⟩
                  · cases hv
                    rw [hGe]
                    change ab_W _ _ _ G8 257 [some (vR 80), some (vz m_at), some (vz 0), some (vz m_taped), some (vz 9)] [vz (tpk A_tape m_taped (m_at + 8))] _
                    refine zz_bipush d_MO_posix_257 (by decide) ?_
                    refine zz_icmp_eq (tgt := 270) d_MO_posix_259 (by decide) (by omega) (by decide) (fun c141 => ?_) (fun c141 => ?_)
                    · refine ab_aload_n d_MO_posix_270 rfl ?_
                      refine ab_iload d_MO_posix_271 rfl ?_
                      refine ab_iload_n d_MO_posix_273 rfl ?_
                      refine ab_callV (d' := d - 1) (as := [vz 9, vz 0]) (st := []) (r := _) (z_MO_gatherNamed (o := o) (m_thrown := m_thrown) (m_taped := m_taped) (m_length := m_length) (m_out := m_out) (m_wide := m_wide) (m_gathered := m_gathered) (m_sets := m_sets) (m_ranges := m_ranges) (m_nodes := m_nodes) (m_at := ((m_at + 2) + 0)) (m_flags := m_flags) (m_fault := m_fault) (m_place := m_place) (m_numbered := m_numbered) (m_depth := m_depth) (m_value := m_value) (m_isNot := m_isNot) (m_least0 := m_least0) (m_most0 := m_most0) (m_slot := m_slot) (m_work := m_work) (m_got := m_got) (m_rowMany := m_rowMany) (m_charAt := m_charAt) (m_charWide := m_charWide) (m_trail := m_trail) (m_isMatch := m_isMatch) (m_matchGroups := m_matchGroups) (m_allFrom := m_allFrom) (m_allBefore := m_allBefore) (m_founds := m_founds) (m_pieces := m_pieces) (m_writtenMany := m_writtenMany) (m_templateWide := m_templateWide) (m_tooMuch := m_tooMuch) (LO := LO) (HI := HI) (MK := MK) (P := P) (x := 0) (w := 9) (nt := 0) (mm := mm) h80 h87 h88 h81 h82 (by omega) (by omega) jc jl (by omega)) (fun oc G2 h => by rcases h with ⟨_, _, _, _, h, _⟩ <;> exact ⟨_, h⟩) (by omega) m_MO_gatherNamed ml_MO_337 im_MO_gatherNamed se_MO_gatherNamed c_MO h80.2.2 (Nat.le_of_ble_eq_true rfl) d_MO_posix_274 rfl ?_
                      intro v G142 hq
                      rcases hq with ⟨g2143, LO2144, HI2145, P2146, hv, hfk, hlk, hsk, hN80, hN87, hN88, hq147, hq148, hq149, hq150, hq151⟩
                      cases hv
                      have h84 := hfk.get h84 (by decide)
                      have h81 := hfk.get h81 (by decide)
                      have h82 := hfk.get h82 (by decide)
                      have hfr := hfr.tr hfk (by decide)
                      have hlen := hlk.trans hlen
                      have hsl := hsk.trans hsl
                      have h80 := hN80
                      have h87 := hN87
                      have h88 := hN88
                      change ab_W _ _ _ G142 277 [some (vR 80), some (vz m_at), some (vz 0), some (vz m_taped), some (vz 9)] [] _
                      refine ab_aload_n d_MO_posix_277 rfl ?_
                      refine ab_dup d_MO_posix_278 rfl ?_
                      refine ab_getf (fs := mof m_thrown m_taped m_length m_out m_wide g2143 m_sets m_ranges m_nodes ((m_at + 2) + 0) m_flags m_fault m_place m_numbered m_depth m_value m_isNot m_least0 m_most0 m_slot m_work m_got m_rowMany m_charAt m_charWide m_trail m_isMatch m_matchGroups m_allFrom m_allBefore m_founds m_pieces m_writtenMany m_templateWide m_tooMuch) f_MO_279 d_MO_posix_279 h80.2.2 rfl ?_
                      refine zz_bipush d_MO_posix_282 (by decide) ?_
                      refine zz_iadd d_MO_posix_284 ?_
                      refine ab_putf (fs := mof m_thrown m_taped m_length m_out m_wide g2143 m_sets m_ranges m_nodes ((m_at + 2) + 0) m_flags m_fault m_place m_numbered m_depth m_value m_isNot m_least0 m_most0 m_slot m_work m_got m_rowMany m_charAt m_charWide m_trail m_isMatch m_matchGroups m_allFrom m_allBefore m_founds m_pieces m_writtenMany m_templateWide m_tooMuch) f_MO_279 (Or.inl rfl) d_MO_posix_285 h80.2.2 (Nat.le_of_ble_eq_true rfl) (fun _ => ⟨rfl, rfl⟩) (h80.2.1 (by decide)) ?_
                      obtain ⟨G152, eG152⟩ : ∃ z : ab_G, z = List.set G142 80 (ab_ob 12 (mof m_thrown m_taped m_length m_out m_wide g2143 m_sets m_ranges m_nodes (((m_at + 2) + 0) + 7) m_flags m_fault m_place m_numbered m_depth m_value m_isNot m_least0 m_most0 m_slot m_work m_got m_rowMany m_charAt m_charWide m_trail m_isMatch m_matchGroups m_allFrom m_allBefore m_founds m_pieces m_writtenMany m_templateWide m_tooMuch)) := ⟨_, rfl⟩
                      have h84 := h84.keep h80 eG152 (by decide)
                      have h87 := h87.keep h80 eG152 (by decide)
                      have h88 := h88.keep h80 eG152 (by decide)
                      have h81 := h81.keep h80 eG152 (by decide)
                      have h82 := h82.keep h80 eG152 (by decide)
                      have hlen := (z_len eG152).trans hlen
                      have hsl := (z_sl h80 eG152 rfl).trans hsl
                      have hfr := hfr.wr h80 eG152 (by decide)
                      have h80 := h80.kept eG152
                      change ab_W _ _ _ (List.set G142 80 (ab_ob 12 (mof m_thrown m_taped m_length m_out m_wide g2143 m_sets m_ranges m_nodes (((m_at + 2) + 0) + 7) m_flags m_fault m_place m_numbered m_depth m_value m_isNot m_least0 m_most0 m_slot m_work m_got m_rowMany m_charAt m_charWide m_trail m_isMatch m_matchGroups m_allFrom m_allBefore m_founds m_pieces m_writtenMany m_templateWide m_tooMuch))) 288 [some (vR 80), some (vz m_at), some (vz 0), some (vz m_taped), some (vz 9)] [] _
                      rw [← eG152]
                      refine ab_vret rfl d_MO_posix_288 ?_
                      rw [hQ]; exact (Or.inr ⟨_, _, _, _, _, 10, 0, rfl, hfr, hlen, hsl, h80, h87, h88, (by exact Or.inr ⟨by omega, by omega, (by rw [show m_at + 2 = ((m_at + 2) + 0) by omega]; exact (Or.inr (Or.inr (Or.inr (Or.inl ⟨rfl, (nm_of (by omega) hq124 (by rw [show ((m_at + 2) + 0) + 5 = m_at + 7 by omega]; omega) (by rw [show ((m_at + 2) + 0) + 6 = m_at + 8 by omega]; omega))⟩))))), by omega⟩), (by exact kor (w := 9) (by omega) (by omega) hq151), (by omega), (by exact hq149), (by exact lfc_w hq150 (by omega))⟩)
                    · refine ab_aload_n d_MO_posix_262 rfl ?_
                      refine zz_bipush d_MO_posix_263 (by decide) ?_
                      refine ab_iload_n d_MO_posix_265 rfl ?_
                      refine ab_callV (d' := d - 1) (as := [vz 7, vz m_at]) (st := []) (r := _) (z_MO_wrong (o := o) (m_thrown := m_thrown) (m_taped := m_taped) (m_length := m_length) (m_out := m_out) (m_wide := m_wide) (m_gathered := m_gathered) (m_sets := m_sets) (m_ranges := m_ranges) (m_nodes := m_nodes) (m_at := ((m_at + 2) + 0)) (m_flags := m_flags) (m_fault := m_fault) (m_place := m_place) (m_numbered := m_numbered) (m_depth := m_depth) (m_value := m_value) (m_isNot := m_isNot) (m_least0 := m_least0) (m_most0 := m_most0) (m_slot := m_slot) (m_work := m_work) (m_got := m_got) (m_rowMany := m_rowMany) (m_charAt := m_charAt) (m_charWide := m_charWide) (m_trail := m_trail) (m_isMatch := m_isMatch) (m_matchGroups := m_matchGroups) (m_allFrom := m_allFrom) (m_allBefore := m_allBefore) (m_founds := m_founds) (m_pieces := m_pieces) (m_writtenMany := m_writtenMany) (m_templateWide := m_templateWide) (m_tooMuch := m_tooMuch) (x := 7) (y := m_at) h80 (by omega) (by omega)) (fun oc G2 h => by rcases h with ⟨h, _⟩ | ⟨h, _⟩ <;> exact ⟨_, h⟩) (by omega) m_MO_wrong ml_MO_304 im_MO_wrong se_MO_wrong c_MO h80.2.2 (Nat.le_of_ble_eq_true rfl) d_MO_posix_266 rfl ?_
                      intro v G153 hq
                      rcases hq with ⟨hv, hfk, hlk, hsk, hN80, hq154⟩ | ⟨hv, hGe, hq155⟩
                      · cases hv
                        have h84 := hfk.get h84 (by decide)
                        have h87 := hfk.get h87 (by decide)
                        have h88 := hfk.get h88 (by decide)
                        have h81 := hfk.get h81 (by decide)
                        have h82 := hfk.get h82 (by decide)
                        have hfr := hfr.tr hfk (by decide)
                        have hlen := hlk.trans hlen
                        have hsl := hsk.trans hsl
                        have h80 := hN80
                        change ab_W _ _ _ G153 269 [some (vR 80), some (vz m_at), some (vz 0), some (vz m_taped), some (vz 9)] [] _
                        refine ab_vret rfl d_MO_posix_269 ?_
                        rw [hQ]; exact (Or.inl ⟨_, _, _, rfl, hfr, hlen, hsl, h80, h87, h88, (by omega), (by omega), (by exact nk_i (b0 := ((m_at + 2) + 0)) (by omega) (nk_no7 (by rw [show ((m_at + 2) + 0) + 5 = m_at + 7 by omega, show ((m_at + 2) + 0) + 6 = m_at + 8 by omega]; omega)))⟩)
                      · cases hv
                        rw [hGe]
                        change ab_W _ _ _ G8 269 [some (vR 80), some (vz m_at), some (vz 0), some (vz m_taped), some (vz 9)] [] _
                        exfalso; omega
                  · cases hv
                    rw [hGe]
                    change ab_W _ _ _ G8 257 [some (vR 80), some (vz m_at), some (vz 0), some (vz m_taped), some (vz 9)] [vz (-1)] _
                    refine zz_bipush d_MO_posix_257 (by decide) ?_
                    refine zz_icmp_eq (tgt := 270) d_MO_posix_259 (by decide) (by decide) (by decide) (fun c156 => absurd c156 (by decide)) (fun c156 => ?_)
                    refine ab_aload_n d_MO_posix_262 rfl ?_
                    refine zz_bipush d_MO_posix_263 (by decide) ?_
                    refine ab_iload_n d_MO_posix_265 rfl ?_
                    refine ab_callV (d' := d - 1) (as := [vz 7, vz m_at]) (st := []) (r := _) (z_MO_wrong (o := o) (m_thrown := m_thrown) (m_taped := m_taped) (m_length := m_length) (m_out := m_out) (m_wide := m_wide) (m_gathered := m_gathered) (m_sets := m_sets) (m_ranges := m_ranges) (m_nodes := m_nodes) (m_at := ((m_at + 2) + 0)) (m_flags := m_flags) (m_fault := m_fault) (m_place := m_place) (m_numbered := m_numbered) (m_depth := m_depth) (m_value := m_value) (m_isNot := m_isNot) (m_least0 := m_least0) (m_most0 := m_most0) (m_slot := m_slot) (m_work := m_work) (m_got := m_got) (m_rowMany := m_rowMany) (m_charAt := m_charAt) (m_charWide := m_charWide) (m_trail := m_trail) (m_isMatch := m_isMatch) (m_matchGroups := m_matchGroups) (m_allFrom := m_allFrom) (m_allBefore := m_allBefore) (m_founds := m_founds) (m_pieces := m_pieces) (m_writtenMany := m_writtenMany) (m_templateWide := m_templateWide) (m_tooMuch := m_tooMuch) (x := 7) (y := m_at) h80 (by omega) (by omega)) (fun oc G2 h => by rcases h with ⟨h, _⟩ | ⟨h, _⟩ <;> exact ⟨_, h⟩) (by omega) m_MO_wrong ml_MO_304 im_MO_wrong se_MO_wrong c_MO h80.2.2 (Nat.le_of_ble_eq_true rfl) d_MO_posix_266 rfl ?_
                    intro v G157 hq
                    rcases hq with ⟨hv, hfk, hlk, hsk, hN80, hq158⟩ | ⟨hv, hGe, hq159⟩
                    · cases hv
                      have h84 := hfk.get h84 (by decide)
                      have h87 := hfk.get h87 (by decide)
                      have h88 := hfk.get h88 (by decide)
                      have h81 := hfk.get h81 (by decide)
                      have h82 := hfk.get h82 (by decide)
                      have hfr := hfr.tr hfk (by decide)
                      have hlen := hlk.trans hlen
                      have hsl := hsk.trans hsl
                      have h80 := hN80
                      change ab_W _ _ _ G157 269 [some (vR 80), some (vz m_at), some (vz 0), some (vz m_taped), some (vz 9)] [] _
                      refine ab_vret rfl d_MO_posix_269 ?_
                      rw [hQ]; exact (Or.inl ⟨_, _, _, rfl, hfr, hlen, hsl, h80, h87, h88, (by omega), (by omega), (by exact nk_i (b0 := ((m_at + 2) + 0)) (by omega) (nk_no7 (by rw [show ((m_at + 2) + 0) + 5 = m_at + 7 by omega, show ((m_at + 2) + 0) + 6 = m_at + 8 by omega]; omega)))⟩)
                    · cases hv
                      rw [hGe]
                      change ab_W _ _ _ G8 269 [some (vR 80), some (vz m_at), some (vz 0), some (vz m_taped), some (vz 9)] [] _
                      exfalso; omega
              · cases hv
                rw [hGe]
                change ab_W _ _ _ G8 246 [some (vR 80), some (vz m_at), some (vz 0), some (vz m_taped), some (vz 9)] [vz (-1)] _
                exfalso; omega
            · cases hv
              rw [hGe]
              change ab_W _ _ _ G8 165 [some (vR 80), some (vz m_at), some (vz 0), some (vz m_taped), none] [vz 0] _
              refine zz_if_eq (tgt := 173) d_MO_posix_165 (by decide) (by decide) (fun c160 => ?_) (fun c160 => absurd c160 (by decide))
              refine ab_aload_n d_MO_posix_173 rfl ?_
              refine ab_getf (fs := mof m_thrown m_taped m_length m_out m_wide m_gathered m_sets m_ranges m_nodes ((m_at + 2) + 0) m_flags m_fault m_place m_numbered m_depth m_value m_isNot m_least0 m_most0 m_slot m_work m_got m_rowMany m_charAt m_charWide m_trail m_isMatch m_matchGroups m_allFrom m_allBefore m_founds m_pieces m_writtenMany m_templateWide m_tooMuch) f_MO_19 d_MO_posix_174 h80.2.2 rfl ?_
              refine ab_aload_n d_MO_posix_177 rfl ?_
              refine ab_getf (fs := mof m_thrown m_taped m_length m_out m_wide m_gathered m_sets m_ranges m_nodes ((m_at + 2) + 0) m_flags m_fault m_place m_numbered m_depth m_value m_isNot m_least0 m_most0 m_slot m_work m_got m_rowMany m_charAt m_charWide m_trail m_isMatch m_matchGroups m_allFrom m_allBefore m_founds m_pieces m_writtenMany m_templateWide m_tooMuch) f_MO_279 d_MO_posix_178 h80.2.2 rfl ?_
              refine ab_iload_n d_MO_posix_181 rfl ?_
              refine zz_bipush d_MO_posix_182 (by decide) ?_
              refine zz_bipush d_MO_posix_184 (by decide) ?_
              refine zz_bipush d_MO_posix_186 (by decide) ?_
              refine zz_bipush d_MO_posix_188 (by decide) ?_
              refine zz_bipush d_MO_posix_190 (by decide) ?_
              refine ab_callS (d' := d - 1) (as := [vR 84, vz ((m_at + 2) + 0), vz m_taped, vz 112, vz 117, vz 110, vz 99, vz 116]) (st := []) (z_MO_spells (o := o) (ar := 84) (la := 284) (m := 2000) (f := A_tape) (p := ((m_at + 2) + 0)) (n := m_taped) (c1 := 112) (c2 := 117) (c3 := 110) (c4 := 99) (c5 := 116) h84 (by omega) (by omega) jtp (by omega)) (fun oc G2 h => by rcases h with ⟨h, _⟩ | ⟨h, _⟩ <;> exact ⟨_, h⟩) (by omega) m_MO_spells ml_MO_333 st_MO_spells (Nat.le_of_ble_eq_true rfl) d_MO_posix_192 rfl ?_
              intro v G161 hq
              rcases hq with ⟨hv, hGe, hq162, hq163⟩ | ⟨hv, hGe, hq164⟩
              · cases hv
                rw [hGe]
                change ab_W _ _ _ G8 195 [some (vR 80), some (vz m_at), some (vz 0), some (vz m_taped), none] [vz 1] _
                refine zz_if_eq (tgt := 203) d_MO_posix_195 (by decide) (by decide) (fun c165 => absurd c165 (by decide)) (fun c165 => ?_)
                refine zz_bipush d_MO_posix_198 (by decide) ?_
                refine ab_goto (tgt := 234) d_MO_posix_200 (by decide) ?_
                refine ab_istore d_MO_posix_234 (Nat.le_of_ble_eq_true rfl) (Nat.le_of_ble_eq_true rfl) rfl ?_
                change ab_W _ _ _ G8 236 [some (vR 80), some (vz m_at), some (vz 0), some (vz m_taped), some (vz 10)] [] _
                refine ab_iload d_MO_posix_236 rfl ?_
                refine zz_if_lt (tgt := 262) d_MO_posix_238 (by decide) (by decide) (fun c166 => absurd c166 (by decide)) (fun c166 => ?_)
                refine ab_aload_n d_MO_posix_241 rfl ?_
                refine zz_iconst d_MO_posix_242 ?_
                refine ab_callV (d' := d - 1) (as := [vz 5]) (st := []) (r := _) (z_MO_here (o := o) (m_thrown := m_thrown) (m_taped := m_taped) (m_length := m_length) (m_out := m_out) (m_wide := m_wide) (m_gathered := m_gathered) (m_sets := m_sets) (m_ranges := m_ranges) (m_nodes := m_nodes) (m_at := ((m_at + 2) + 0)) (m_flags := m_flags) (m_fault := m_fault) (m_place := m_place) (m_numbered := m_numbered) (m_depth := m_depth) (m_value := m_value) (m_isNot := m_isNot) (m_least0 := m_least0) (m_most0 := m_most0) (m_slot := m_slot) (m_work := m_work) (m_got := m_got) (m_rowMany := m_rowMany) (m_charAt := m_charAt) (m_charWide := m_charWide) (m_trail := m_trail) (m_isMatch := m_isMatch) (m_matchGroups := m_matchGroups) (m_allFrom := m_allFrom) (m_allBefore := m_allBefore) (m_founds := m_founds) (m_pieces := m_pieces) (m_writtenMany := m_writtenMany) (m_templateWide := m_templateWide) (m_tooMuch := m_tooMuch) (A_tape := A_tape) (k := 5) (qh := (m_at + 7)) h80 h84 (by omega) (by omega) jtp (by omega) (by omega)) (fun oc G2 h => by rcases h with ⟨h, _⟩ | ⟨h, _⟩ <;> exact ⟨_, h⟩) (by omega) m_MO_here ml_MO_297 im_MO_here se_MO_here c_MO h80.2.2 (Nat.le_of_ble_eq_true rfl) d_MO_posix_243 rfl ?_
                intro v G167 hq
                rcases hq with ⟨hv, hGe, hq168⟩ | ⟨hv, hGe, hq169, hq170⟩
                · cases hv
                  rw [hGe]
                  change ab_W _ _ _ G8 246 [some (vR 80), some (vz m_at), some (vz 0), some (vz m_taped), some (vz 10)] [vz (tpk A_tape m_taped (m_at + 7))] _
                  refine zz_bipush d_MO_posix_246 (by decide) ?_
                  refine zz_icmp_ne (tgt := 262) d_MO_posix_248 (by decide) (by omega) (by decide) (fun c171 => ?_) (fun c171 => ?_)
                  · refine ab_aload_n d_MO_posix_262 rfl ?_
                    refine zz_bipush d_MO_posix_263 (by decide) ?_
                    refine ab_iload_n d_MO_posix_265 rfl ?_
                    refine ab_callV (d' := d - 1) (as := [vz 7, vz m_at]) (st := []) (r := _) (z_MO_wrong (o := o) (m_thrown := m_thrown) (m_taped := m_taped) (m_length := m_length) (m_out := m_out) (m_wide := m_wide) (m_gathered := m_gathered) (m_sets := m_sets) (m_ranges := m_ranges) (m_nodes := m_nodes) (m_at := ((m_at + 2) + 0)) (m_flags := m_flags) (m_fault := m_fault) (m_place := m_place) (m_numbered := m_numbered) (m_depth := m_depth) (m_value := m_value) (m_isNot := m_isNot) (m_least0 := m_least0) (m_most0 := m_most0) (m_slot := m_slot) (m_work := m_work) (m_got := m_got) (m_rowMany := m_rowMany) (m_charAt := m_charAt) (m_charWide := m_charWide) (m_trail := m_trail) (m_isMatch := m_isMatch) (m_matchGroups := m_matchGroups) (m_allFrom := m_allFrom) (m_allBefore := m_allBefore) (m_founds := m_founds) (m_pieces := m_pieces) (m_writtenMany := m_writtenMany) (m_templateWide := m_templateWide) (m_tooMuch := m_tooMuch) (x := 7) (y := m_at) h80 (by omega) (by omega)) (fun oc G2 h => by rcases h with ⟨h, _⟩ | ⟨h, _⟩ <;> exact ⟨_, h⟩) (by omega) m_MO_wrong ml_MO_304 im_MO_wrong se_MO_wrong c_MO h80.2.2 (Nat.le_of_ble_eq_true rfl) d_MO_posix_266 rfl ?_
                    intro v G172 hq
                    rcases hq with ⟨hv, hfk, hlk, hsk, hN80, hq173⟩ | ⟨hv, hGe, hq174⟩
                    · cases hv
                      have h84 := hfk.get h84 (by decide)
                      have h87 := hfk.get h87 (by decide)
                      have h88 := hfk.get h88 (by decide)
                      have h81 := hfk.get h81 (by decide)
                      have h82 := hfk.get h82 (by decide)
                      have hfr := hfr.tr hfk (by decide)
                      have hlen := hlk.trans hlen
                      have hsl := hsk.trans hsl
                      have h80 := hN80
                      change ab_W _ _ _ G172 269 [some (vR 80), some (vz m_at), some (vz 0), some (vz m_taped), some (vz 10)] [] _
                      refine ab_vret rfl d_MO_posix_269 ?_
                      rw [hQ]; exact (Or.inl ⟨_, _, _, rfl, hfr, hlen, hsl, h80, h87, h88, (by omega), (by omega), (by exact nk_i (b0 := ((m_at + 2) + 0)) (by omega) (nk_no7 (by rw [show ((m_at + 2) + 0) + 5 = m_at + 7 by omega, show ((m_at + 2) + 0) + 6 = m_at + 8 by omega]; omega)))⟩)
                    · cases hv
                      rw [hGe]
                      change ab_W _ _ _ G8 269 [some (vR 80), some (vz m_at), some (vz 0), some (vz m_taped), some (vz 10)] [] _
                      exfalso; omega
                  · refine ab_aload_n d_MO_posix_251 rfl ?_
                    refine zz_bipush d_MO_posix_252 (by decide) ?_
                    refine ab_callV (d' := d - 1) (as := [vz 6]) (st := []) (r := _) (z_MO_here (o := o) (m_thrown := m_thrown) (m_taped := m_taped) (m_length := m_length) (m_out := m_out) (m_wide := m_wide) (m_gathered := m_gathered) (m_sets := m_sets) (m_ranges := m_ranges) (m_nodes := m_nodes) (m_at := ((m_at + 2) + 0)) (m_flags := m_flags) (m_fault := m_fault) (m_place := m_place) (m_numbered := m_numbered) (m_depth := m_depth) (m_value := m_value) (m_isNot := m_isNot) (m_least0 := m_least0) (m_most0 := m_most0) (m_slot := m_slot) (m_work := m_work) (m_got := m_got) (m_rowMany := m_rowMany) (m_charAt := m_charAt) (m_charWide := m_charWide) (m_trail := m_trail) (m_isMatch := m_isMatch) (m_matchGroups := m_matchGroups) (m_allFrom := m_allFrom) (m_allBefore := m_allBefore) (m_founds := m_founds) (m_pieces := m_pieces) (m_writtenMany := m_writtenMany) (m_templateWide := m_templateWide) (m_tooMuch := m_tooMuch) (A_tape := A_tape) (k := 6) (qh := (m_at + 8)) h80 h84 (by omega) (by omega) jtp (by omega) (by omega)) (fun oc G2 h => by rcases h with ⟨h, _⟩ | ⟨h, _⟩ <;> exact ⟨_, h⟩) (by omega) m_MO_here ml_MO_297 im_MO_here se_MO_here c_MO h80.2.2 (Nat.le_of_ble_eq_true rfl) d_MO_posix_254 rfl ?_
                    intro v G175 hq
                    rcases hq with ⟨hv, hGe, hq176⟩ | ⟨hv, hGe, hq177, hq178⟩
                    · cases hv
                      rw [hGe]
                      change ab_W _ _ _ G8 257 [some (vR 80), some (vz m_at), some (vz 0), some (vz m_taped), some (vz 10)] [vz (tpk A_tape m_taped (m_at + 8))] _
                      refine zz_bipush d_MO_posix_257 (by decide) ?_
                      refine zz_icmp_eq (tgt := 270) d_MO_posix_259 (by decide) (by omega) (by decide) (fun c179 => ?_) (fun c179 => ?_)
                      · refine ab_aload_n d_MO_posix_270 rfl ?_
                        refine ab_iload d_MO_posix_271 rfl ?_
                        refine ab_iload_n d_MO_posix_273 rfl ?_
                        refine ab_callV (d' := d - 1) (as := [vz 10, vz 0]) (st := []) (r := _) (z_MO_gatherNamed (o := o) (m_thrown := m_thrown) (m_taped := m_taped) (m_length := m_length) (m_out := m_out) (m_wide := m_wide) (m_gathered := m_gathered) (m_sets := m_sets) (m_ranges := m_ranges) (m_nodes := m_nodes) (m_at := ((m_at + 2) + 0)) (m_flags := m_flags) (m_fault := m_fault) (m_place := m_place) (m_numbered := m_numbered) (m_depth := m_depth) (m_value := m_value) (m_isNot := m_isNot) (m_least0 := m_least0) (m_most0 := m_most0) (m_slot := m_slot) (m_work := m_work) (m_got := m_got) (m_rowMany := m_rowMany) (m_charAt := m_charAt) (m_charWide := m_charWide) (m_trail := m_trail) (m_isMatch := m_isMatch) (m_matchGroups := m_matchGroups) (m_allFrom := m_allFrom) (m_allBefore := m_allBefore) (m_founds := m_founds) (m_pieces := m_pieces) (m_writtenMany := m_writtenMany) (m_templateWide := m_templateWide) (m_tooMuch := m_tooMuch) (LO := LO) (HI := HI) (MK := MK) (P := P) (x := 0) (w := 10) (nt := 0) (mm := mm) h80 h87 h88 h81 h82 (by omega) (by omega) jc jl (by omega)) (fun oc G2 h => by rcases h with ⟨_, _, _, _, h, _⟩ <;> exact ⟨_, h⟩) (by omega) m_MO_gatherNamed ml_MO_337 im_MO_gatherNamed se_MO_gatherNamed c_MO h80.2.2 (Nat.le_of_ble_eq_true rfl) d_MO_posix_274 rfl ?_
                        intro v G180 hq
                        rcases hq with ⟨g2181, LO2182, HI2183, P2184, hv, hfk, hlk, hsk, hN80, hN87, hN88, hq185, hq186, hq187, hq188, hq189⟩
                        cases hv
                        have h84 := hfk.get h84 (by decide)
                        have h81 := hfk.get h81 (by decide)
                        have h82 := hfk.get h82 (by decide)
                        have hfr := hfr.tr hfk (by decide)
                        have hlen := hlk.trans hlen
                        have hsl := hsk.trans hsl
                        have h80 := hN80
                        have h87 := hN87
                        have h88 := hN88
                        change ab_W _ _ _ G180 277 [some (vR 80), some (vz m_at), some (vz 0), some (vz m_taped), some (vz 10)] [] _
                        refine ab_aload_n d_MO_posix_277 rfl ?_
                        refine ab_dup d_MO_posix_278 rfl ?_
                        refine ab_getf (fs := mof m_thrown m_taped m_length m_out m_wide g2181 m_sets m_ranges m_nodes ((m_at + 2) + 0) m_flags m_fault m_place m_numbered m_depth m_value m_isNot m_least0 m_most0 m_slot m_work m_got m_rowMany m_charAt m_charWide m_trail m_isMatch m_matchGroups m_allFrom m_allBefore m_founds m_pieces m_writtenMany m_templateWide m_tooMuch) f_MO_279 d_MO_posix_279 h80.2.2 rfl ?_
                        refine zz_bipush d_MO_posix_282 (by decide) ?_
                        refine zz_iadd d_MO_posix_284 ?_
                        refine ab_putf (fs := mof m_thrown m_taped m_length m_out m_wide g2181 m_sets m_ranges m_nodes ((m_at + 2) + 0) m_flags m_fault m_place m_numbered m_depth m_value m_isNot m_least0 m_most0 m_slot m_work m_got m_rowMany m_charAt m_charWide m_trail m_isMatch m_matchGroups m_allFrom m_allBefore m_founds m_pieces m_writtenMany m_templateWide m_tooMuch) f_MO_279 (Or.inl rfl) d_MO_posix_285 h80.2.2 (Nat.le_of_ble_eq_true rfl) (fun _ => ⟨rfl, rfl⟩) (h80.2.1 (by decide)) ?_
                        obtain ⟨G190, eG190⟩ : ∃ z : ab_G, z = List.set G180 80 (ab_ob 12 (mof m_thrown m_taped m_length m_out m_wide g2181 m_sets m_ranges m_nodes (((m_at + 2) + 0) + 7) m_flags m_fault m_place m_numbered m_depth m_value m_isNot m_least0 m_most0 m_slot m_work m_got m_rowMany m_charAt m_charWide m_trail m_isMatch m_matchGroups m_allFrom m_allBefore m_founds m_pieces m_writtenMany m_templateWide m_tooMuch)) := ⟨_, rfl⟩
                        have h84 := h84.keep h80 eG190 (by decide)
                        have h87 := h87.keep h80 eG190 (by decide)
                        have h88 := h88.keep h80 eG190 (by decide)
                        have h81 := h81.keep h80 eG190 (by decide)
                        have h82 := h82.keep h80 eG190 (by decide)
                        have hlen := (z_len eG190).trans hlen
                        have hsl := (z_sl h80 eG190 rfl).trans hsl
                        have hfr := hfr.wr h80 eG190 (by decide)
                        have h80 := h80.kept eG190
                        change ab_W _ _ _ (List.set G180 80 (ab_ob 12 (mof m_thrown m_taped m_length m_out m_wide g2181 m_sets m_ranges m_nodes (((m_at + 2) + 0) + 7) m_flags m_fault m_place m_numbered m_depth m_value m_isNot m_least0 m_most0 m_slot m_work m_got m_rowMany m_charAt m_charWide m_trail m_isMatch m_matchGroups m_allFrom m_allBefore m_founds m_pieces m_writtenMany m_templateWide m_tooMuch))) 288 [some (vR 80), some (vz m_at), some (vz 0), some (vz m_taped), some (vz 10)] [] _
                        rw [← eG190]
                        refine ab_vret rfl d_MO_posix_288 ?_
                        rw [hQ]; exact (Or.inr ⟨_, _, _, _, _, 11, 0, rfl, hfr, hlen, hsl, h80, h87, h88, (by exact Or.inr ⟨by omega, by omega, (by rw [show m_at + 2 = ((m_at + 2) + 0) by omega]; exact (Or.inr (Or.inr (Or.inr (Or.inr (Or.inl ⟨rfl, (nm_of (by omega) hq162 (by rw [show ((m_at + 2) + 0) + 5 = m_at + 7 by omega]; omega) (by rw [show ((m_at + 2) + 0) + 6 = m_at + 8 by omega]; omega))⟩)))))), by omega⟩), (by exact kor (w := 10) (by omega) (by omega) hq189), (by omega), (by exact hq187), (by exact lfc_w hq188 (by omega))⟩)
                      · refine ab_aload_n d_MO_posix_262 rfl ?_
                        refine zz_bipush d_MO_posix_263 (by decide) ?_
                        refine ab_iload_n d_MO_posix_265 rfl ?_
                        refine ab_callV (d' := d - 1) (as := [vz 7, vz m_at]) (st := []) (r := _) (z_MO_wrong (o := o) (m_thrown := m_thrown) (m_taped := m_taped) (m_length := m_length) (m_out := m_out) (m_wide := m_wide) (m_gathered := m_gathered) (m_sets := m_sets) (m_ranges := m_ranges) (m_nodes := m_nodes) (m_at := ((m_at + 2) + 0)) (m_flags := m_flags) (m_fault := m_fault) (m_place := m_place) (m_numbered := m_numbered) (m_depth := m_depth) (m_value := m_value) (m_isNot := m_isNot) (m_least0 := m_least0) (m_most0 := m_most0) (m_slot := m_slot) (m_work := m_work) (m_got := m_got) (m_rowMany := m_rowMany) (m_charAt := m_charAt) (m_charWide := m_charWide) (m_trail := m_trail) (m_isMatch := m_isMatch) (m_matchGroups := m_matchGroups) (m_allFrom := m_allFrom) (m_allBefore := m_allBefore) (m_founds := m_founds) (m_pieces := m_pieces) (m_writtenMany := m_writtenMany) (m_templateWide := m_templateWide) (m_tooMuch := m_tooMuch) (x := 7) (y := m_at) h80 (by omega) (by omega)) (fun oc G2 h => by rcases h with ⟨h, _⟩ | ⟨h, _⟩ <;> exact ⟨_, h⟩) (by omega) m_MO_wrong ml_MO_304 im_MO_wrong se_MO_wrong c_MO h80.2.2 (Nat.le_of_ble_eq_true rfl) d_MO_posix_266 rfl ?_
                        intro v G191 hq
                        rcases hq with ⟨hv, hfk, hlk, hsk, hN80, hq192⟩ | ⟨hv, hGe, hq193⟩
                        · cases hv
                          have h84 := hfk.get h84 (by decide)
                          have h87 := hfk.get h87 (by decide)
                          have h88 := hfk.get h88 (by decide)
                          have h81 := hfk.get h81 (by decide)
                          have h82 := hfk.get h82 (by decide)
                          have hfr := hfr.tr hfk (by decide)
                          have hlen := hlk.trans hlen
                          have hsl := hsk.trans hsl
                          have h80 := hN80
                          change ab_W _ _ _ G191 269 [some (vR 80), some (vz m_at), some (vz 0), some (vz m_taped), some (vz 10)] [] _
                          refine ab_vret rfl d_MO_posix_269 ?_
                          rw [hQ]; exact (Or.inl ⟨_, _, _, rfl, hfr, hlen, hsl, h80, h87, h88, (by omega), (by omega), (by exact nk_i (b0 := ((m_at + 2) + 0)) (by omega) (nk_no7 (by rw [show ((m_at + 2) + 0) + 5 = m_at + 7 by omega, show ((m_at + 2) + 0) + 6 = m_at + 8 by omega]; omega)))⟩)
                        · cases hv
                          rw [hGe]
                          change ab_W _ _ _ G8 269 [some (vR 80), some (vz m_at), some (vz 0), some (vz m_taped), some (vz 10)] [] _
                          exfalso; omega
                    · cases hv
                      rw [hGe]
                      change ab_W _ _ _ G8 257 [some (vR 80), some (vz m_at), some (vz 0), some (vz m_taped), some (vz 10)] [vz (-1)] _
                      refine zz_bipush d_MO_posix_257 (by decide) ?_
                      refine zz_icmp_eq (tgt := 270) d_MO_posix_259 (by decide) (by decide) (by decide) (fun c194 => absurd c194 (by decide)) (fun c194 => ?_)
                      refine ab_aload_n d_MO_posix_262 rfl ?_
                      refine zz_bipush d_MO_posix_263 (by decide) ?_
                      refine ab_iload_n d_MO_posix_265 rfl ?_
                      refine ab_callV (d' := d - 1) (as := [vz 7, vz m_at]) (st := []) (r := _) (z_MO_wrong (o := o) (m_thrown := m_thrown) (m_taped := m_taped) (m_length := m_length) (m_out := m_out) (m_wide := m_wide) (m_gathered := m_gathered) (m_sets := m_sets) (m_ranges := m_ranges) (m_nodes := m_nodes) (m_at := ((m_at + 2) + 0)) (m_flags := m_flags) (m_fault := m_fault) (m_place := m_place) (m_numbered := m_numbered) (m_depth := m_depth) (m_value := m_value) (m_isNot := m_isNot) (m_least0 := m_least0) (m_most0 := m_most0) (m_slot := m_slot) (m_work := m_work) (m_got := m_got) (m_rowMany := m_rowMany) (m_charAt := m_charAt) (m_charWide := m_charWide) (m_trail := m_trail) (m_isMatch := m_isMatch) (m_matchGroups := m_matchGroups) (m_allFrom := m_allFrom) (m_allBefore := m_allBefore) (m_founds := m_founds) (m_pieces := m_pieces) (m_writtenMany := m_writtenMany) (m_templateWide := m_templateWide) (m_tooMuch := m_tooMuch) (x := 7) (y := m_at) h80 (by omega) (by omega)) (fun oc G2 h => by rcases h with ⟨h, _⟩ | ⟨h, _⟩ <;> exact ⟨_, h⟩) (by omega) m_MO_wrong ml_MO_304 im_MO_wrong se_MO_wrong c_MO h80.2.2 (Nat.le_of_ble_eq_true rfl) d_MO_posix_266 rfl ?_
                      intro v G195 hq
                      rcases hq with ⟨hv, hfk, hlk, hsk, hN80, hq196⟩ | ⟨hv, hGe, hq197⟩
                      · cases hv
                        have h84 := hfk.get h84 (by decide)
                        have h87 := hfk.get h87 (by decide)
                        have h88 := hfk.get h88 (by decide)
                        have h81 := hfk.get h81 (by decide)
                        have h82 := hfk.get h82 (by decide)
                        have hfr := hfr.tr hfk (by decide)
                        have hlen := hlk.trans hlen
                        have hsl := hsk.trans hsl
                        have h80 := hN80
                        change ab_W _ _ _ G195 269 [some (vR 80), some (vz m_at), some (vz 0), some (vz m_taped), some (vz 10)] [] _
                        refine ab_vret rfl d_MO_posix_269 ?_
                        rw [hQ]; exact (Or.inl ⟨_, _, _, rfl, hfr, hlen, hsl, h80, h87, h88, (by omega), (by omega), (by exact nk_i (b0 := ((m_at + 2) + 0)) (by omega) (nk_no7 (by rw [show ((m_at + 2) + 0) + 5 = m_at + 7 by omega, show ((m_at + 2) + 0) + 6 = m_at + 8 by omega]; omega)))⟩)
                      · cases hv
                        rw [hGe]
                        change ab_W _ _ _ G8 269 [some (vR 80), some (vz m_at), some (vz 0), some (vz m_taped), some (vz 10)] [] _
                        exfalso; omega
                · cases hv
                  rw [hGe]
                  change ab_W _ _ _ G8 246 [some (vR 80), some (vz m_at), some (vz 0), some (vz m_taped), some (vz 10)] [vz (-1)] _
                  exfalso; omega
              · cases hv
                rw [hGe]
                change ab_W _ _ _ G8 195 [some (vR 80), some (vz m_at), some (vz 0), some (vz m_taped), none] [vz 0] _
                refine zz_if_eq (tgt := 203) d_MO_posix_195 (by decide) (by decide) (fun c198 => ?_) (fun c198 => absurd c198 (by decide))
                refine ab_aload_n d_MO_posix_203 rfl ?_
                refine ab_getf (fs := mof m_thrown m_taped m_length m_out m_wide m_gathered m_sets m_ranges m_nodes ((m_at + 2) + 0) m_flags m_fault m_place m_numbered m_depth m_value m_isNot m_least0 m_most0 m_slot m_work m_got m_rowMany m_charAt m_charWide m_trail m_isMatch m_matchGroups m_allFrom m_allBefore m_founds m_pieces m_writtenMany m_templateWide m_tooMuch) f_MO_19 d_MO_posix_204 h80.2.2 rfl ?_
                refine ab_aload_n d_MO_posix_207 rfl ?_
                refine ab_getf (fs := mof m_thrown m_taped m_length m_out m_wide m_gathered m_sets m_ranges m_nodes ((m_at + 2) + 0) m_flags m_fault m_place m_numbered m_depth m_value m_isNot m_least0 m_most0 m_slot m_work m_got m_rowMany m_charAt m_charWide m_trail m_isMatch m_matchGroups m_allFrom m_allBefore m_founds m_pieces m_writtenMany m_templateWide m_tooMuch) f_MO_279 d_MO_posix_208 h80.2.2 rfl ?_
                refine ab_iload_n d_MO_posix_211 rfl ?_
                refine zz_bipush d_MO_posix_212 (by decide) ?_
                refine zz_bipush d_MO_posix_214 (by decide) ?_
                refine zz_bipush d_MO_posix_216 (by decide) ?_
                refine zz_bipush d_MO_posix_218 (by decide) ?_
                refine zz_bipush d_MO_posix_220 (by decide) ?_
                refine ab_callS (d' := d - 1) (as := [vR 84, vz ((m_at + 2) + 0), vz m_taped, vz 115, vz 112, vz 97, vz 99, vz 101]) (st := []) (z_MO_spells (o := o) (ar := 84) (la := 284) (m := 2000) (f := A_tape) (p := ((m_at + 2) + 0)) (n := m_taped) (c1 := 115) (c2 := 112) (c3 := 97) (c4 := 99) (c5 := 101) h84 (by omega) (by omega) jtp (by omega)) (fun oc G2 h => by rcases h with ⟨h, _⟩ | ⟨h, _⟩ <;> exact ⟨_, h⟩) (by omega) m_MO_spells ml_MO_333 st_MO_spells (Nat.le_of_ble_eq_true rfl) d_MO_posix_222 rfl ?_
                intro v G199 hq
                rcases hq with ⟨hv, hGe, hq200, hq201⟩ | ⟨hv, hGe, hq202⟩
                · cases hv
                  rw [hGe]
                  change ab_W _ _ _ G8 225 [some (vR 80), some (vz m_at), some (vz 0), some (vz m_taped), none] [vz 1] _
                  refine zz_if_eq (tgt := 233) d_MO_posix_225 (by decide) (by decide) (fun c203 => absurd c203 (by decide)) (fun c203 => ?_)
                  refine zz_bipush d_MO_posix_228 (by decide) ?_
                  refine ab_goto (tgt := 234) d_MO_posix_230 (by decide) ?_
                  refine ab_istore d_MO_posix_234 (Nat.le_of_ble_eq_true rfl) (Nat.le_of_ble_eq_true rfl) rfl ?_
                  change ab_W _ _ _ G8 236 [some (vR 80), some (vz m_at), some (vz 0), some (vz m_taped), some (vz 11)] [] _
                  refine ab_iload d_MO_posix_236 rfl ?_
                  refine zz_if_lt (tgt := 262) d_MO_posix_238 (by decide) (by decide) (fun c204 => absurd c204 (by decide)) (fun c204 => ?_)
                  refine ab_aload_n d_MO_posix_241 rfl ?_
                  refine zz_iconst d_MO_posix_242 ?_
                  refine ab_callV (d' := d - 1) (as := [vz 5]) (st := []) (r := _) (z_MO_here (o := o) (m_thrown := m_thrown) (m_taped := m_taped) (m_length := m_length) (m_out := m_out) (m_wide := m_wide) (m_gathered := m_gathered) (m_sets := m_sets) (m_ranges := m_ranges) (m_nodes := m_nodes) (m_at := ((m_at + 2) + 0)) (m_flags := m_flags) (m_fault := m_fault) (m_place := m_place) (m_numbered := m_numbered) (m_depth := m_depth) (m_value := m_value) (m_isNot := m_isNot) (m_least0 := m_least0) (m_most0 := m_most0) (m_slot := m_slot) (m_work := m_work) (m_got := m_got) (m_rowMany := m_rowMany) (m_charAt := m_charAt) (m_charWide := m_charWide) (m_trail := m_trail) (m_isMatch := m_isMatch) (m_matchGroups := m_matchGroups) (m_allFrom := m_allFrom) (m_allBefore := m_allBefore) (m_founds := m_founds) (m_pieces := m_pieces) (m_writtenMany := m_writtenMany) (m_templateWide := m_templateWide) (m_tooMuch := m_tooMuch) (A_tape := A_tape) (k := 5) (qh := (m_at + 7)) h80 h84 (by omega) (by omega) jtp (by omega) (by omega)) (fun oc G2 h => by rcases h with ⟨h, _⟩ | ⟨h, _⟩ <;> exact ⟨_, h⟩) (by omega) m_MO_here ml_MO_297 im_MO_here se_MO_here c_MO h80.2.2 (Nat.le_of_ble_eq_true rfl) d_MO_posix_243 rfl ?_
                  intro v G205 hq
                  rcases hq with ⟨hv, hGe, hq206⟩ | ⟨hv, hGe, hq207, hq208⟩
                  · cases hv
                    rw [hGe]
                    change ab_W _ _ _ G8 246 [some (vR 80), some (vz m_at), some (vz 0), some (vz m_taped), some (vz 11)] [vz (tpk A_tape m_taped (m_at + 7))] _
                    refine zz_bipush d_MO_posix_246 (by decide) ?_
                    refine zz_icmp_ne (tgt := 262) d_MO_posix_248 (by decide) (by omega) (by decide) (fun c209 => ?_) (fun c209 => ?_)
                    · refine ab_aload_n d_MO_posix_262 rfl ?_
                      refine zz_bipush d_MO_posix_263 (by decide) ?_
                      refine ab_iload_n d_MO_posix_265 rfl ?_
                      refine ab_callV (d' := d - 1) (as := [vz 7, vz m_at]) (st := []) (r := _) (z_MO_wrong (o := o) (m_thrown := m_thrown) (m_taped := m_taped) (m_length := m_length) (m_out := m_out) (m_wide := m_wide) (m_gathered := m_gathered) (m_sets := m_sets) (m_ranges := m_ranges) (m_nodes := m_nodes) (m_at := ((m_at + 2) + 0)) (m_flags := m_flags) (m_fault := m_fault) (m_place := m_place) (m_numbered := m_numbered) (m_depth := m_depth) (m_value := m_value) (m_isNot := m_isNot) (m_least0 := m_least0) (m_most0 := m_most0) (m_slot := m_slot) (m_work := m_work) (m_got := m_got) (m_rowMany := m_rowMany) (m_charAt := m_charAt) (m_charWide := m_charWide) (m_trail := m_trail) (m_isMatch := m_isMatch) (m_matchGroups := m_matchGroups) (m_allFrom := m_allFrom) (m_allBefore := m_allBefore) (m_founds := m_founds) (m_pieces := m_pieces) (m_writtenMany := m_writtenMany) (m_templateWide := m_templateWide) (m_tooMuch := m_tooMuch) (x := 7) (y := m_at) h80 (by omega) (by omega)) (fun oc G2 h => by rcases h with ⟨h, _⟩ | ⟨h, _⟩ <;> exact ⟨_, h⟩) (by omega) m_MO_wrong ml_MO_304 im_MO_wrong se_MO_wrong c_MO h80.2.2 (Nat.le_of_ble_eq_true rfl) d_MO_posix_266 rfl ?_
                      intro v G210 hq
                      rcases hq with ⟨hv, hfk, hlk, hsk, hN80, hq211⟩ | ⟨hv, hGe, hq212⟩
                      · cases hv
                        have h84 := hfk.get h84 (by decide)
                        have h87 := hfk.get h87 (by decide)
                        have h88 := hfk.get h88 (by decide)
                        have h81 := hfk.get h81 (by decide)
                        have h82 := hfk.get h82 (by decide)
                        have hfr := hfr.tr hfk (by decide)
                        have hlen := hlk.trans hlen
                        have hsl := hsk.trans hsl
                        have h80 := hN80
                        change ab_W _ _ _ G210 269 [some (vR 80), some (vz m_at), some (vz 0), some (vz m_taped), some (vz 11)] [] _
                        refine ab_vret rfl d_MO_posix_269 ?_
                        rw [hQ]; exact (Or.inl ⟨_, _, _, rfl, hfr, hlen, hsl, h80, h87, h88, (by omega), (by omega), (by exact nk_i (b0 := ((m_at + 2) + 0)) (by omega) (nk_no7 (by rw [show ((m_at + 2) + 0) + 5 = m_at + 7 by omega, show ((m_at + 2) + 0) + 6 = m_at + 8 by omega]; omega)))⟩)
                      · cases hv
                        rw [hGe]
                        change ab_W _ _ _ G8 269 [some (vR 80), some (vz m_at), some (vz 0), some (vz m_taped), some (vz 11)] [] _
                        exfalso; omega
                    · refine ab_aload_n d_MO_posix_251 rfl ?_
                      refine zz_bipush d_MO_posix_252 (by decide) ?_
                      refine ab_callV (d' := d - 1) (as := [vz 6]) (st := []) (r := _) (z_MO_here (o := o) (m_thrown := m_thrown) (m_taped := m_taped) (m_length := m_length) (m_out := m_out) (m_wide := m_wide) (m_gathered := m_gathered) (m_sets := m_sets) (m_ranges := m_ranges) (m_nodes := m_nodes) (m_at := ((m_at + 2) + 0)) (m_flags := m_flags) (m_fault := m_fault) (m_place := m_place) (m_numbered := m_numbered) (m_depth := m_depth) (m_value := m_value) (m_isNot := m_isNot) (m_least0 := m_least0) (m_most0 := m_most0) (m_slot := m_slot) (m_work := m_work) (m_got := m_got) (m_rowMany := m_rowMany) (m_charAt := m_charAt) (m_charWide := m_charWide) (m_trail := m_trail) (m_isMatch := m_isMatch) (m_matchGroups := m_matchGroups) (m_allFrom := m_allFrom) (m_allBefore := m_allBefore) (m_founds := m_founds) (m_pieces := m_pieces) (m_writtenMany := m_writtenMany) (m_templateWide := m_templateWide) (m_tooMuch := m_tooMuch) (A_tape := A_tape) (k := 6) (qh := (m_at + 8)) h80 h84 (by omega) (by omega) jtp (by omega) (by omega)) (fun oc G2 h => by rcases h with ⟨h, _⟩ | ⟨h, _⟩ <;> exact ⟨_, h⟩) (by omega) m_MO_here ml_MO_297 im_MO_here se_MO_here c_MO h80.2.2 (Nat.le_of_ble_eq_true rfl) d_MO_posix_254 rfl ?_
                      intro v G213 hq
                      rcases hq with ⟨hv, hGe, hq214⟩ | ⟨hv, hGe, hq215, hq216⟩
                      · cases hv
                        rw [hGe]
                        change ab_W _ _ _ G8 257 [some (vR 80), some (vz m_at), some (vz 0), some (vz m_taped), some (vz 11)] [vz (tpk A_tape m_taped (m_at + 8))] _
                        refine zz_bipush d_MO_posix_257 (by decide) ?_
                        refine zz_icmp_eq (tgt := 270) d_MO_posix_259 (by decide) (by omega) (by decide) (fun c217 => ?_) (fun c217 => ?_)
                        · refine ab_aload_n d_MO_posix_270 rfl ?_
                          refine ab_iload d_MO_posix_271 rfl ?_
                          refine ab_iload_n d_MO_posix_273 rfl ?_
                          refine ab_callV (d' := d - 1) (as := [vz 11, vz 0]) (st := []) (r := _) (z_MO_gatherNamed (o := o) (m_thrown := m_thrown) (m_taped := m_taped) (m_length := m_length) (m_out := m_out) (m_wide := m_wide) (m_gathered := m_gathered) (m_sets := m_sets) (m_ranges := m_ranges) (m_nodes := m_nodes) (m_at := ((m_at + 2) + 0)) (m_flags := m_flags) (m_fault := m_fault) (m_place := m_place) (m_numbered := m_numbered) (m_depth := m_depth) (m_value := m_value) (m_isNot := m_isNot) (m_least0 := m_least0) (m_most0 := m_most0) (m_slot := m_slot) (m_work := m_work) (m_got := m_got) (m_rowMany := m_rowMany) (m_charAt := m_charAt) (m_charWide := m_charWide) (m_trail := m_trail) (m_isMatch := m_isMatch) (m_matchGroups := m_matchGroups) (m_allFrom := m_allFrom) (m_allBefore := m_allBefore) (m_founds := m_founds) (m_pieces := m_pieces) (m_writtenMany := m_writtenMany) (m_templateWide := m_templateWide) (m_tooMuch := m_tooMuch) (LO := LO) (HI := HI) (MK := MK) (P := P) (x := 0) (w := 11) (nt := 0) (mm := mm) h80 h87 h88 h81 h82 (by omega) (by omega) jc jl (by omega)) (fun oc G2 h => by rcases h with ⟨_, _, _, _, h, _⟩ <;> exact ⟨_, h⟩) (by omega) m_MO_gatherNamed ml_MO_337 im_MO_gatherNamed se_MO_gatherNamed c_MO h80.2.2 (Nat.le_of_ble_eq_true rfl) d_MO_posix_274 rfl ?_
                          intro v G218 hq
                          rcases hq with ⟨g2219, LO2220, HI2221, P2222, hv, hfk, hlk, hsk, hN80, hN87, hN88, hq223, hq224, hq225, hq226, hq227⟩
                          cases hv
                          have h84 := hfk.get h84 (by decide)
                          have h81 := hfk.get h81 (by decide)
                          have h82 := hfk.get h82 (by decide)
                          have hfr := hfr.tr hfk (by decide)
                          have hlen := hlk.trans hlen
                          have hsl := hsk.trans hsl
                          have h80 := hN80
                          have h87 := hN87
                          have h88 := hN88
                          change ab_W _ _ _ G218 277 [some (vR 80), some (vz m_at), some (vz 0), some (vz m_taped), some (vz 11)] [] _
                          refine ab_aload_n d_MO_posix_277 rfl ?_
                          refine ab_dup d_MO_posix_278 rfl ?_
                          refine ab_getf (fs := mof m_thrown m_taped m_length m_out m_wide g2219 m_sets m_ranges m_nodes ((m_at + 2) + 0) m_flags m_fault m_place m_numbered m_depth m_value m_isNot m_least0 m_most0 m_slot m_work m_got m_rowMany m_charAt m_charWide m_trail m_isMatch m_matchGroups m_allFrom m_allBefore m_founds m_pieces m_writtenMany m_templateWide m_tooMuch) f_MO_279 d_MO_posix_279 h80.2.2 rfl ?_
                          refine zz_bipush d_MO_posix_282 (by decide) ?_
                          refine zz_iadd d_MO_posix_284 ?_
                          refine ab_putf (fs := mof m_thrown m_taped m_length m_out m_wide g2219 m_sets m_ranges m_nodes ((m_at + 2) + 0) m_flags m_fault m_place m_numbered m_depth m_value m_isNot m_least0 m_most0 m_slot m_work m_got m_rowMany m_charAt m_charWide m_trail m_isMatch m_matchGroups m_allFrom m_allBefore m_founds m_pieces m_writtenMany m_templateWide m_tooMuch) f_MO_279 (Or.inl rfl) d_MO_posix_285 h80.2.2 (Nat.le_of_ble_eq_true rfl) (fun _ => ⟨rfl, rfl⟩) (h80.2.1 (by decide)) ?_
                          obtain ⟨G228, eG228⟩ : ∃ z : ab_G, z = List.set G218 80 (ab_ob 12 (mof m_thrown m_taped m_length m_out m_wide g2219 m_sets m_ranges m_nodes (((m_at + 2) + 0) + 7) m_flags m_fault m_place m_numbered m_depth m_value m_isNot m_least0 m_most0 m_slot m_work m_got m_rowMany m_charAt m_charWide m_trail m_isMatch m_matchGroups m_allFrom m_allBefore m_founds m_pieces m_writtenMany m_templateWide m_tooMuch)) := ⟨_, rfl⟩
                          have h84 := h84.keep h80 eG228 (by decide)
                          have h87 := h87.keep h80 eG228 (by decide)
                          have h88 := h88.keep h80 eG228 (by decide)
                          have h81 := h81.keep h80 eG228 (by decide)
                          have h82 := h82.keep h80 eG228 (by decide)
                          have hlen := (z_len eG228).trans hlen
                          have hsl := (z_sl h80 eG228 rfl).trans hsl
                          have hfr := hfr.wr h80 eG228 (by decide)
                          have h80 := h80.kept eG228
                          change ab_W _ _ _ (List.set G218 80 (ab_ob 12 (mof m_thrown m_taped m_length m_out m_wide g2219 m_sets m_ranges m_nodes (((m_at + 2) + 0) + 7) m_flags m_fault m_place m_numbered m_depth m_value m_isNot m_least0 m_most0 m_slot m_work m_got m_rowMany m_charAt m_charWide m_trail m_isMatch m_matchGroups m_allFrom m_allBefore m_founds m_pieces m_writtenMany m_templateWide m_tooMuch))) 288 [some (vR 80), some (vz m_at), some (vz 0), some (vz m_taped), some (vz 11)] [] _
                          rw [← eG228]
                          refine ab_vret rfl d_MO_posix_288 ?_
                          rw [hQ]; exact (Or.inr ⟨_, _, _, _, _, 12, 0, rfl, hfr, hlen, hsl, h80, h87, h88, (by exact Or.inr ⟨by omega, by omega, (by rw [show m_at + 2 = ((m_at + 2) + 0) by omega]; exact (Or.inr (Or.inr (Or.inr (Or.inr (Or.inr ⟨rfl, (nm_of (by omega) hq200 (by rw [show ((m_at + 2) + 0) + 5 = m_at + 7 by omega]; omega) (by rw [show ((m_at + 2) + 0) + 6 = m_at + 8 by omega]; omega))⟩)))))), by omega⟩), (by exact kor (w := 11) (by omega) (by omega) hq227), (by omega), (by exact hq225), (by exact lfc_w hq226 (by omega))⟩)
                        · refine ab_aload_n d_MO_posix_262 rfl ?_
                          refine zz_bipush d_MO_posix_263 (by decide) ?_
                          refine ab_iload_n d_MO_posix_265 rfl ?_
                          refine ab_callV (d' := d - 1) (as := [vz 7, vz m_at]) (st := []) (r := _) (z_MO_wrong (o := o) (m_thrown := m_thrown) (m_taped := m_taped) (m_length := m_length) (m_out := m_out) (m_wide := m_wide) (m_gathered := m_gathered) (m_sets := m_sets) (m_ranges := m_ranges) (m_nodes := m_nodes) (m_at := ((m_at + 2) + 0)) (m_flags := m_flags) (m_fault := m_fault) (m_place := m_place) (m_numbered := m_numbered) (m_depth := m_depth) (m_value := m_value) (m_isNot := m_isNot) (m_least0 := m_least0) (m_most0 := m_most0) (m_slot := m_slot) (m_work := m_work) (m_got := m_got) (m_rowMany := m_rowMany) (m_charAt := m_charAt) (m_charWide := m_charWide) (m_trail := m_trail) (m_isMatch := m_isMatch) (m_matchGroups := m_matchGroups) (m_allFrom := m_allFrom) (m_allBefore := m_allBefore) (m_founds := m_founds) (m_pieces := m_pieces) (m_writtenMany := m_writtenMany) (m_templateWide := m_templateWide) (m_tooMuch := m_tooMuch) (x := 7) (y := m_at) h80 (by omega) (by omega)) (fun oc G2 h => by rcases h with ⟨h, _⟩ | ⟨h, _⟩ <;> exact ⟨_, h⟩) (by omega) m_MO_wrong ml_MO_304 im_MO_wrong se_MO_wrong c_MO h80.2.2 (Nat.le_of_ble_eq_true rfl) d_MO_posix_266 rfl ?_
                          intro v G229 hq
                          rcases hq with ⟨hv, hfk, hlk, hsk, hN80, hq230⟩ | ⟨hv, hGe, hq231⟩
                          · cases hv
                            have h84 := hfk.get h84 (by decide)
                            have h87 := hfk.get h87 (by decide)
                            have h88 := hfk.get h88 (by decide)
                            have h81 := hfk.get h81 (by decide)
                            have h82 := hfk.get h82 (by decide)
                            have hfr := hfr.tr hfk (by decide)
                            have hlen := hlk.trans hlen
                            have hsl := hsk.trans hsl
                            have h80 := hN80
                            change ab_W _ _ _ G229 269 [some (vR 80), some (vz m_at), some (vz 0), some (vz m_taped), some (vz 11)] [] _
                            refine ab_vret rfl d_MO_posix_269 ?_
                            rw [hQ]; exact (Or.inl ⟨_, _, _, rfl, hfr, hlen, hsl, h80, h87, h88, (by omega), (by omega), (by exact nk_i (b0 := ((m_at + 2) + 0)) (by omega) (nk_no7 (by rw [show ((m_at + 2) + 0) + 5 = m_at + 7 by omega, show ((m_at + 2) + 0) + 6 = m_at + 8 by omega]; omega)))⟩)
                          · cases hv
                            rw [hGe]
                            change ab_W _ _ _ G8 269 [some (vR 80), some (vz m_at), some (vz 0), some (vz m_taped), some (vz 11)] [] _
                            exfalso; omega
                      · cases hv
                        rw [hGe]
                        change ab_W _ _ _ G8 257 [some (vR 80), some (vz m_at), some (vz 0), some (vz m_taped), some (vz 11)] [vz (-1)] _
                        refine zz_bipush d_MO_posix_257 (by decide) ?_
                        refine zz_icmp_eq (tgt := 270) d_MO_posix_259 (by decide) (by decide) (by decide) (fun c232 => absurd c232 (by decide)) (fun c232 => ?_)
                        refine ab_aload_n d_MO_posix_262 rfl ?_
                        refine zz_bipush d_MO_posix_263 (by decide) ?_
                        refine ab_iload_n d_MO_posix_265 rfl ?_
                        refine ab_callV (d' := d - 1) (as := [vz 7, vz m_at]) (st := []) (r := _) (z_MO_wrong (o := o) (m_thrown := m_thrown) (m_taped := m_taped) (m_length := m_length) (m_out := m_out) (m_wide := m_wide) (m_gathered := m_gathered) (m_sets := m_sets) (m_ranges := m_ranges) (m_nodes := m_nodes) (m_at := ((m_at + 2) + 0)) (m_flags := m_flags) (m_fault := m_fault) (m_place := m_place) (m_numbered := m_numbered) (m_depth := m_depth) (m_value := m_value) (m_isNot := m_isNot) (m_least0 := m_least0) (m_most0 := m_most0) (m_slot := m_slot) (m_work := m_work) (m_got := m_got) (m_rowMany := m_rowMany) (m_charAt := m_charAt) (m_charWide := m_charWide) (m_trail := m_trail) (m_isMatch := m_isMatch) (m_matchGroups := m_matchGroups) (m_allFrom := m_allFrom) (m_allBefore := m_allBefore) (m_founds := m_founds) (m_pieces := m_pieces) (m_writtenMany := m_writtenMany) (m_templateWide := m_templateWide) (m_tooMuch := m_tooMuch) (x := 7) (y := m_at) h80 (by omega) (by omega)) (fun oc G2 h => by rcases h with ⟨h, _⟩ | ⟨h, _⟩ <;> exact ⟨_, h⟩) (by omega) m_MO_wrong ml_MO_304 im_MO_wrong se_MO_wrong c_MO h80.2.2 (Nat.le_of_ble_eq_true rfl) d_MO_posix_266 rfl ?_
                        intro v G233 hq
                        rcases hq with ⟨hv, hfk, hlk, hsk, hN80, hq234⟩ | ⟨hv, hGe, hq235⟩
                        · cases hv
                          have h84 := hfk.get h84 (by decide)
                          have h87 := hfk.get h87 (by decide)
                          have h88 := hfk.get h88 (by decide)
                          have h81 := hfk.get h81 (by decide)
                          have h82 := hfk.get h82 (by decide)
                          have hfr := hfr.tr hfk (by decide)
                          have hlen := hlk.trans hlen
                          have hsl := hsk.trans hsl
                          have h80 := hN80
                          change ab_W _ _ _ G233 269 [some (vR 80), some (vz m_at), some (vz 0), some (vz m_taped), some (vz 11)] [] _
                          refine ab_vret rfl d_MO_posix_269 ?_
                          rw [hQ]; exact (Or.inl ⟨_, _, _, rfl, hfr, hlen, hsl, h80, h87, h88, (by omega), (by omega), (by exact nk_i (b0 := ((m_at + 2) + 0)) (by omega) (nk_no7 (by rw [show ((m_at + 2) + 0) + 5 = m_at + 7 by omega, show ((m_at + 2) + 0) + 6 = m_at + 8 by omega]; omega)))⟩)
                        · cases hv
                          rw [hGe]
                          change ab_W _ _ _ G8 269 [some (vR 80), some (vz m_at), some (vz 0), some (vz m_taped), some (vz 11)] [] _
                          exfalso; omega
                  · cases hv
                    rw [hGe]
                    change ab_W _ _ _ G8 246 [some (vR 80), some (vz m_at), some (vz 0), some (vz m_taped), some (vz 11)] [vz (-1)] _
                    exfalso; omega
                · cases hv
                  rw [hGe]
                  change ab_W _ _ _ G8 225 [some (vR 80), some (vz m_at), some (vz 0), some (vz m_taped), none] [vz 0] _
                  refine zz_if_eq (tgt := 233) d_MO_posix_225 (by decide) (by decide) (fun c236 => ?_) (fun c236 => absurd c236 (by decide))
                  refine zz_iconst d_MO_posix_233 ?_
                  refine ab_istore d_MO_posix_234 (Nat.le_of_ble_eq_true rfl) (Nat.le_of_ble_eq_true rfl) rfl ?_
                  change ab_W _ _ _ G8 236 [some (vR 80), some (vz m_at), some (vz 0), some (vz m_taped), some (vz (-1))] [] _
                  refine ab_iload d_MO_posix_236 rfl ?_
                  refine zz_if_lt (tgt := 262) d_MO_posix_238 (by decide) (by decide) (fun c237 => ?_) (fun c237 => absurd c237 (by decide))
                  refine ab_aload_n d_MO_posix_262 rfl ?_
                  refine zz_bipush d_MO_posix_263 (by decide) ?_
                  refine ab_iload_n d_MO_posix_265 rfl ?_
                  refine ab_callV (d' := d - 1) (as := [vz 7, vz m_at]) (st := []) (r := _) (z_MO_wrong (o := o) (m_thrown := m_thrown) (m_taped := m_taped) (m_length := m_length) (m_out := m_out) (m_wide := m_wide) (m_gathered := m_gathered) (m_sets := m_sets) (m_ranges := m_ranges) (m_nodes := m_nodes) (m_at := ((m_at + 2) + 0)) (m_flags := m_flags) (m_fault := m_fault) (m_place := m_place) (m_numbered := m_numbered) (m_depth := m_depth) (m_value := m_value) (m_isNot := m_isNot) (m_least0 := m_least0) (m_most0 := m_most0) (m_slot := m_slot) (m_work := m_work) (m_got := m_got) (m_rowMany := m_rowMany) (m_charAt := m_charAt) (m_charWide := m_charWide) (m_trail := m_trail) (m_isMatch := m_isMatch) (m_matchGroups := m_matchGroups) (m_allFrom := m_allFrom) (m_allBefore := m_allBefore) (m_founds := m_founds) (m_pieces := m_pieces) (m_writtenMany := m_writtenMany) (m_templateWide := m_templateWide) (m_tooMuch := m_tooMuch) (x := 7) (y := m_at) h80 (by omega) (by omega)) (fun oc G2 h => by rcases h with ⟨h, _⟩ | ⟨h, _⟩ <;> exact ⟨_, h⟩) (by omega) m_MO_wrong ml_MO_304 im_MO_wrong se_MO_wrong c_MO h80.2.2 (Nat.le_of_ble_eq_true rfl) d_MO_posix_266 rfl ?_
                  intro v G238 hq
                  rcases hq with ⟨hv, hfk, hlk, hsk, hN80, hq239⟩ | ⟨hv, hGe, hq240⟩
                  · cases hv
                    have h84 := hfk.get h84 (by decide)
                    have h87 := hfk.get h87 (by decide)
                    have h88 := hfk.get h88 (by decide)
                    have h81 := hfk.get h81 (by decide)
                    have h82 := hfk.get h82 (by decide)
                    have hfr := hfr.tr hfk (by decide)
                    have hlen := hlk.trans hlen
                    have hsl := hsk.trans hsl
                    have h80 := hN80
                    change ab_W _ _ _ G238 269 [some (vR 80), some (vz m_at), some (vz 0), some (vz m_taped), some (vz (-1))] [] _
                    refine ab_vret rfl d_MO_posix_269 ?_
                    rw [hQ]; exact (Or.inl ⟨_, _, _, rfl, hfr, hlen, hsl, h80, h87, h88, (by omega), (by omega), (by exact nk_i (b0 := ((m_at + 2) + 0)) (by omega) (nk_no6 hq12 hq50 hq88 hq126 hq164 hq202))⟩)
                  · cases hv
                    rw [hGe]
                    change ab_W _ _ _ G8 269 [some (vR 80), some (vz m_at), some (vz 0), some (vz m_taped), some (vz (-1))] [] _
                    exfalso; omega
    · refine zz_iconst d_MO_posix_25 ?_
      refine ab_goto (tgt := 30) d_MO_posix_26 (by decide) ?_
      refine ab_istore_n d_MO_posix_30 (Nat.le_of_ble_eq_true rfl) (Nat.le_of_ble_eq_true rfl) rfl ?_
      change ab_W _ _ _ G1 31 [some (vR 80), some (vz m_at), some (vz 1), none, none] [] _
      refine ab_aload_n d_MO_posix_31 rfl ?_
      refine ab_dup d_MO_posix_32 rfl ?_
      refine ab_getf (fs := mof m_thrown m_taped m_length m_out m_wide m_gathered m_sets m_ranges m_nodes (m_at + 2) m_flags m_fault m_place m_numbered m_depth m_value m_isNot m_least0 m_most0 m_slot m_work m_got m_rowMany m_charAt m_charWide m_trail m_isMatch m_matchGroups m_allFrom m_allBefore m_founds m_pieces m_writtenMany m_templateWide m_tooMuch) f_MO_279 d_MO_posix_33 h80.2.2 rfl ?_
      refine ab_iload_n d_MO_posix_36 rfl ?_
      refine zz_if_eq (tgt := 44) d_MO_posix_37 (by decide) (by decide) (fun c241 => absurd c241 (by decide)) (fun c241 => ?_)
      refine zz_iconst d_MO_posix_40 ?_
      refine ab_goto (tgt := 45) d_MO_posix_41 (by decide) ?_
      refine zz_iadd d_MO_posix_45 ?_
      refine ab_putf (fs := mof m_thrown m_taped m_length m_out m_wide m_gathered m_sets m_ranges m_nodes (m_at + 2) m_flags m_fault m_place m_numbered m_depth m_value m_isNot m_least0 m_most0 m_slot m_work m_got m_rowMany m_charAt m_charWide m_trail m_isMatch m_matchGroups m_allFrom m_allBefore m_founds m_pieces m_writtenMany m_templateWide m_tooMuch) f_MO_279 (Or.inl rfl) d_MO_posix_46 h80.2.2 (Nat.le_of_ble_eq_true rfl) (fun _ => ⟨rfl, rfl⟩) (h80.2.1 (by decide)) ?_
      obtain ⟨G242, eG242⟩ : ∃ z : ab_G, z = List.set G1 80 (ab_ob 12 (mof m_thrown m_taped m_length m_out m_wide m_gathered m_sets m_ranges m_nodes ((m_at + 2) + 1) m_flags m_fault m_place m_numbered m_depth m_value m_isNot m_least0 m_most0 m_slot m_work m_got m_rowMany m_charAt m_charWide m_trail m_isMatch m_matchGroups m_allFrom m_allBefore m_founds m_pieces m_writtenMany m_templateWide m_tooMuch)) := ⟨_, rfl⟩
      have h84 := h84.keep h80 eG242 (by decide)
      have h87 := h87.keep h80 eG242 (by decide)
      have h88 := h88.keep h80 eG242 (by decide)
      have h81 := h81.keep h80 eG242 (by decide)
      have h82 := h82.keep h80 eG242 (by decide)
      have hlen := (z_len eG242).trans hlen
      have hsl := (z_sl h80 eG242 rfl).trans hsl
      have hfr := hfr.wr h80 eG242 (by decide)
      have h80 := h80.kept eG242
      change ab_W _ _ _ (List.set G1 80 (ab_ob 12 (mof m_thrown m_taped m_length m_out m_wide m_gathered m_sets m_ranges m_nodes ((m_at + 2) + 1) m_flags m_fault m_place m_numbered m_depth m_value m_isNot m_least0 m_most0 m_slot m_work m_got m_rowMany m_charAt m_charWide m_trail m_isMatch m_matchGroups m_allFrom m_allBefore m_founds m_pieces m_writtenMany m_templateWide m_tooMuch))) 49 [some (vR 80), some (vz m_at), some (vz 1), none, none] [] _
      rw [← eG242]
      refine ab_aload_n d_MO_posix_49 rfl ?_
      refine ab_getf (fs := mof m_thrown m_taped m_length m_out m_wide m_gathered m_sets m_ranges m_nodes ((m_at + 2) + 1) m_flags m_fault m_place m_numbered m_depth m_value m_isNot m_least0 m_most0 m_slot m_work m_got m_rowMany m_charAt m_charWide m_trail m_isMatch m_matchGroups m_allFrom m_allBefore m_founds m_pieces m_writtenMany m_templateWide m_tooMuch) f_MO_223 d_MO_posix_50 h80.2.2 rfl ?_
      refine ab_istore_n d_MO_posix_53 (Nat.le_of_ble_eq_true rfl) (Nat.le_of_ble_eq_true rfl) rfl ?_
      change ab_W _ _ _ G242 54 [some (vR 80), some (vz m_at), some (vz 1), some (vz m_taped), none] [] _
      refine ab_aload_n d_MO_posix_54 rfl ?_
      refine ab_getf (fs := mof m_thrown m_taped m_length m_out m_wide m_gathered m_sets m_ranges m_nodes ((m_at + 2) + 1) m_flags m_fault m_place m_numbered m_depth m_value m_isNot m_least0 m_most0 m_slot m_work m_got m_rowMany m_charAt m_charWide m_trail m_isMatch m_matchGroups m_allFrom m_allBefore m_founds m_pieces m_writtenMany m_templateWide m_tooMuch) f_MO_19 d_MO_posix_55 h80.2.2 rfl ?_
      refine ab_aload_n d_MO_posix_58 rfl ?_
      refine ab_getf (fs := mof m_thrown m_taped m_length m_out m_wide m_gathered m_sets m_ranges m_nodes ((m_at + 2) + 1) m_flags m_fault m_place m_numbered m_depth m_value m_isNot m_least0 m_most0 m_slot m_work m_got m_rowMany m_charAt m_charWide m_trail m_isMatch m_matchGroups m_allFrom m_allBefore m_founds m_pieces m_writtenMany m_templateWide m_tooMuch) f_MO_279 d_MO_posix_59 h80.2.2 rfl ?_
      refine ab_iload_n d_MO_posix_62 rfl ?_
      refine zz_bipush d_MO_posix_63 (by decide) ?_
      refine zz_bipush d_MO_posix_65 (by decide) ?_
      refine zz_bipush d_MO_posix_67 (by decide) ?_
      refine zz_bipush d_MO_posix_69 (by decide) ?_
      refine zz_bipush d_MO_posix_71 (by decide) ?_
      refine ab_callS (d' := d - 1) (as := [vR 84, vz ((m_at + 2) + 1), vz m_taped, vz 100, vz 105, vz 103, vz 105, vz 116]) (st := []) (z_MO_spells (o := o) (ar := 84) (la := 284) (m := 2000) (f := A_tape) (p := ((m_at + 2) + 1)) (n := m_taped) (c1 := 100) (c2 := 105) (c3 := 103) (c4 := 105) (c5 := 116) h84 (by omega) (by omega) jtp (by omega)) (fun oc G2 h => by rcases h with ⟨h, _⟩ | ⟨h, _⟩ <;> exact ⟨_, h⟩) (by omega) m_MO_spells ml_MO_333 st_MO_spells (Nat.le_of_ble_eq_true rfl) d_MO_posix_73 rfl ?_
      intro v G243 hq
      rcases hq with ⟨hv, hGe, hq244, hq245⟩ | ⟨hv, hGe, hq246⟩
      · cases hv
        rw [hGe]
        change ab_W _ _ _ G242 76 [some (vR 80), some (vz m_at), some (vz 1), some (vz m_taped), none] [vz 1] _
        refine zz_if_eq (tgt := 83) d_MO_posix_76 (by decide) (by decide) (fun c247 => absurd c247 (by decide)) (fun c247 => ?_)
        refine zz_iconst d_MO_posix_79 ?_
        refine ab_goto (tgt := 234) d_MO_posix_80 (by decide) ?_
        refine ab_istore d_MO_posix_234 (Nat.le_of_ble_eq_true rfl) (Nat.le_of_ble_eq_true rfl) rfl ?_
        change ab_W _ _ _ G242 236 [some (vR 80), some (vz m_at), some (vz 1), some (vz m_taped), some (vz 0)] [] _
        refine ab_iload d_MO_posix_236 rfl ?_
        refine zz_if_lt (tgt := 262) d_MO_posix_238 (by decide) (by decide) (fun c248 => absurd c248 (by decide)) (fun c248 => ?_)
        refine ab_aload_n d_MO_posix_241 rfl ?_
        refine zz_iconst d_MO_posix_242 ?_
        refine ab_callV (d' := d - 1) (as := [vz 5]) (st := []) (r := _) (z_MO_here (o := o) (m_thrown := m_thrown) (m_taped := m_taped) (m_length := m_length) (m_out := m_out) (m_wide := m_wide) (m_gathered := m_gathered) (m_sets := m_sets) (m_ranges := m_ranges) (m_nodes := m_nodes) (m_at := ((m_at + 2) + 1)) (m_flags := m_flags) (m_fault := m_fault) (m_place := m_place) (m_numbered := m_numbered) (m_depth := m_depth) (m_value := m_value) (m_isNot := m_isNot) (m_least0 := m_least0) (m_most0 := m_most0) (m_slot := m_slot) (m_work := m_work) (m_got := m_got) (m_rowMany := m_rowMany) (m_charAt := m_charAt) (m_charWide := m_charWide) (m_trail := m_trail) (m_isMatch := m_isMatch) (m_matchGroups := m_matchGroups) (m_allFrom := m_allFrom) (m_allBefore := m_allBefore) (m_founds := m_founds) (m_pieces := m_pieces) (m_writtenMany := m_writtenMany) (m_templateWide := m_templateWide) (m_tooMuch := m_tooMuch) (A_tape := A_tape) (k := 5) (qh := (m_at + 8)) h80 h84 (by omega) (by omega) jtp (by omega) (by omega)) (fun oc G2 h => by rcases h with ⟨h, _⟩ | ⟨h, _⟩ <;> exact ⟨_, h⟩) (by omega) m_MO_here ml_MO_297 im_MO_here se_MO_here c_MO h80.2.2 (Nat.le_of_ble_eq_true rfl) d_MO_posix_243 rfl ?_
        intro v G249 hq
        rcases hq with ⟨hv, hGe, hq250⟩ | ⟨hv, hGe, hq251, hq252⟩
        · cases hv
          rw [hGe]
          change ab_W _ _ _ G242 246 [some (vR 80), some (vz m_at), some (vz 1), some (vz m_taped), some (vz 0)] [vz (tpk A_tape m_taped (m_at + 8))] _
          refine zz_bipush d_MO_posix_246 (by decide) ?_
          refine zz_icmp_ne (tgt := 262) d_MO_posix_248 (by decide) (by omega) (by decide) (fun c253 => ?_) (fun c253 => ?_)
          · refine ab_aload_n d_MO_posix_262 rfl ?_
            refine zz_bipush d_MO_posix_263 (by decide) ?_
            refine ab_iload_n d_MO_posix_265 rfl ?_
            refine ab_callV (d' := d - 1) (as := [vz 7, vz m_at]) (st := []) (r := _) (z_MO_wrong (o := o) (m_thrown := m_thrown) (m_taped := m_taped) (m_length := m_length) (m_out := m_out) (m_wide := m_wide) (m_gathered := m_gathered) (m_sets := m_sets) (m_ranges := m_ranges) (m_nodes := m_nodes) (m_at := ((m_at + 2) + 1)) (m_flags := m_flags) (m_fault := m_fault) (m_place := m_place) (m_numbered := m_numbered) (m_depth := m_depth) (m_value := m_value) (m_isNot := m_isNot) (m_least0 := m_least0) (m_most0 := m_most0) (m_slot := m_slot) (m_work := m_work) (m_got := m_got) (m_rowMany := m_rowMany) (m_charAt := m_charAt) (m_charWide := m_charWide) (m_trail := m_trail) (m_isMatch := m_isMatch) (m_matchGroups := m_matchGroups) (m_allFrom := m_allFrom) (m_allBefore := m_allBefore) (m_founds := m_founds) (m_pieces := m_pieces) (m_writtenMany := m_writtenMany) (m_templateWide := m_templateWide) (m_tooMuch := m_tooMuch) (x := 7) (y := m_at) h80 (by omega) (by omega)) (fun oc G2 h => by rcases h with ⟨h, _⟩ | ⟨h, _⟩ <;> exact ⟨_, h⟩) (by omega) m_MO_wrong ml_MO_304 im_MO_wrong se_MO_wrong c_MO h80.2.2 (Nat.le_of_ble_eq_true rfl) d_MO_posix_266 rfl ?_
            intro v G254 hq
            rcases hq with ⟨hv, hfk, hlk, hsk, hN80, hq255⟩ | ⟨hv, hGe, hq256⟩
            · cases hv
              have h84 := hfk.get h84 (by decide)
              have h87 := hfk.get h87 (by decide)
              have h88 := hfk.get h88 (by decide)
              have h81 := hfk.get h81 (by decide)
              have h82 := hfk.get h82 (by decide)
              have hfr := hfr.tr hfk (by decide)
              have hlen := hlk.trans hlen
              have hsl := hsk.trans hsl
              have h80 := hN80
              change ab_W _ _ _ G254 269 [some (vR 80), some (vz m_at), some (vz 1), some (vz m_taped), some (vz 0)] [] _
              refine ab_vret rfl d_MO_posix_269 ?_
              rw [hQ]; exact (Or.inl ⟨_, _, _, rfl, hfr, hlen, hsl, h80, h87, h88, (by omega), (by omega), (by exact nk_i (b0 := ((m_at + 2) + 1)) (by omega) (nk_no7 (by rw [show ((m_at + 2) + 1) + 5 = m_at + 8 by omega, show ((m_at + 2) + 1) + 6 = m_at + 9 by omega]; omega)))⟩)
            · cases hv
              rw [hGe]
              change ab_W _ _ _ G242 269 [some (vR 80), some (vz m_at), some (vz 1), some (vz m_taped), some (vz 0)] [] _
              exfalso; omega
          · refine ab_aload_n d_MO_posix_251 rfl ?_
            refine zz_bipush d_MO_posix_252 (by decide) ?_
            refine ab_callV (d' := d - 1) (as := [vz 6]) (st := []) (r := _) (z_MO_here (o := o) (m_thrown := m_thrown) (m_taped := m_taped) (m_length := m_length) (m_out := m_out) (m_wide := m_wide) (m_gathered := m_gathered) (m_sets := m_sets) (m_ranges := m_ranges) (m_nodes := m_nodes) (m_at := ((m_at + 2) + 1)) (m_flags := m_flags) (m_fault := m_fault) (m_place := m_place) (m_numbered := m_numbered) (m_depth := m_depth) (m_value := m_value) (m_isNot := m_isNot) (m_least0 := m_least0) (m_most0 := m_most0) (m_slot := m_slot) (m_work := m_work) (m_got := m_got) (m_rowMany := m_rowMany) (m_charAt := m_charAt) (m_charWide := m_charWide) (m_trail := m_trail) (m_isMatch := m_isMatch) (m_matchGroups := m_matchGroups) (m_allFrom := m_allFrom) (m_allBefore := m_allBefore) (m_founds := m_founds) (m_pieces := m_pieces) (m_writtenMany := m_writtenMany) (m_templateWide := m_templateWide) (m_tooMuch := m_tooMuch) (A_tape := A_tape) (k := 6) (qh := (m_at + 9)) h80 h84 (by omega) (by omega) jtp (by omega) (by omega)) (fun oc G2 h => by rcases h with ⟨h, _⟩ | ⟨h, _⟩ <;> exact ⟨_, h⟩) (by omega) m_MO_here ml_MO_297 im_MO_here se_MO_here c_MO h80.2.2 (Nat.le_of_ble_eq_true rfl) d_MO_posix_254 rfl ?_
            intro v G257 hq
            rcases hq with ⟨hv, hGe, hq258⟩ | ⟨hv, hGe, hq259, hq260⟩
            · cases hv
              rw [hGe]
              change ab_W _ _ _ G242 257 [some (vR 80), some (vz m_at), some (vz 1), some (vz m_taped), some (vz 0)] [vz (tpk A_tape m_taped (m_at + 9))] _
              refine zz_bipush d_MO_posix_257 (by decide) ?_
              refine zz_icmp_eq (tgt := 270) d_MO_posix_259 (by decide) (by omega) (by decide) (fun c261 => ?_) (fun c261 => ?_)
              · refine ab_aload_n d_MO_posix_270 rfl ?_
                refine ab_iload d_MO_posix_271 rfl ?_
                refine ab_iload_n d_MO_posix_273 rfl ?_
                refine ab_callV (d' := d - 1) (as := [vz 0, vz 1]) (st := []) (r := _) (z_MO_gatherNamed (o := o) (m_thrown := m_thrown) (m_taped := m_taped) (m_length := m_length) (m_out := m_out) (m_wide := m_wide) (m_gathered := m_gathered) (m_sets := m_sets) (m_ranges := m_ranges) (m_nodes := m_nodes) (m_at := ((m_at + 2) + 1)) (m_flags := m_flags) (m_fault := m_fault) (m_place := m_place) (m_numbered := m_numbered) (m_depth := m_depth) (m_value := m_value) (m_isNot := m_isNot) (m_least0 := m_least0) (m_most0 := m_most0) (m_slot := m_slot) (m_work := m_work) (m_got := m_got) (m_rowMany := m_rowMany) (m_charAt := m_charAt) (m_charWide := m_charWide) (m_trail := m_trail) (m_isMatch := m_isMatch) (m_matchGroups := m_matchGroups) (m_allFrom := m_allFrom) (m_allBefore := m_allBefore) (m_founds := m_founds) (m_pieces := m_pieces) (m_writtenMany := m_writtenMany) (m_templateWide := m_templateWide) (m_tooMuch := m_tooMuch) (LO := LO) (HI := HI) (MK := MK) (P := P) (x := 0) (w := 0) (nt := 1) (mm := mm) h80 h87 h88 h81 h82 (by omega) (by omega) jc jl (by omega)) (fun oc G2 h => by rcases h with ⟨_, _, _, _, h, _⟩ <;> exact ⟨_, h⟩) (by omega) m_MO_gatherNamed ml_MO_337 im_MO_gatherNamed se_MO_gatherNamed c_MO h80.2.2 (Nat.le_of_ble_eq_true rfl) d_MO_posix_274 rfl ?_
                intro v G262 hq
                rcases hq with ⟨g2263, LO2264, HI2265, P2266, hv, hfk, hlk, hsk, hN80, hN87, hN88, hq267, hq268, hq269, hq270, hq271⟩
                cases hv
                have h84 := hfk.get h84 (by decide)
                have h81 := hfk.get h81 (by decide)
                have h82 := hfk.get h82 (by decide)
                have hfr := hfr.tr hfk (by decide)
                have hlen := hlk.trans hlen
                have hsl := hsk.trans hsl
                have h80 := hN80
                have h87 := hN87
                have h88 := hN88
                change ab_W _ _ _ G262 277 [some (vR 80), some (vz m_at), some (vz 1), some (vz m_taped), some (vz 0)] [] _
                refine ab_aload_n d_MO_posix_277 rfl ?_
                refine ab_dup d_MO_posix_278 rfl ?_
                refine ab_getf (fs := mof m_thrown m_taped m_length m_out m_wide g2263 m_sets m_ranges m_nodes ((m_at + 2) + 1) m_flags m_fault m_place m_numbered m_depth m_value m_isNot m_least0 m_most0 m_slot m_work m_got m_rowMany m_charAt m_charWide m_trail m_isMatch m_matchGroups m_allFrom m_allBefore m_founds m_pieces m_writtenMany m_templateWide m_tooMuch) f_MO_279 d_MO_posix_279 h80.2.2 rfl ?_
                refine zz_bipush d_MO_posix_282 (by decide) ?_
                refine zz_iadd d_MO_posix_284 ?_
                refine ab_putf (fs := mof m_thrown m_taped m_length m_out m_wide g2263 m_sets m_ranges m_nodes ((m_at + 2) + 1) m_flags m_fault m_place m_numbered m_depth m_value m_isNot m_least0 m_most0 m_slot m_work m_got m_rowMany m_charAt m_charWide m_trail m_isMatch m_matchGroups m_allFrom m_allBefore m_founds m_pieces m_writtenMany m_templateWide m_tooMuch) f_MO_279 (Or.inl rfl) d_MO_posix_285 h80.2.2 (Nat.le_of_ble_eq_true rfl) (fun _ => ⟨rfl, rfl⟩) (h80.2.1 (by decide)) ?_
                obtain ⟨G272, eG272⟩ : ∃ z : ab_G, z = List.set G262 80 (ab_ob 12 (mof m_thrown m_taped m_length m_out m_wide g2263 m_sets m_ranges m_nodes (((m_at + 2) + 1) + 7) m_flags m_fault m_place m_numbered m_depth m_value m_isNot m_least0 m_most0 m_slot m_work m_got m_rowMany m_charAt m_charWide m_trail m_isMatch m_matchGroups m_allFrom m_allBefore m_founds m_pieces m_writtenMany m_templateWide m_tooMuch)) := ⟨_, rfl⟩
                have h84 := h84.keep h80 eG272 (by decide)
                have h87 := h87.keep h80 eG272 (by decide)
                have h88 := h88.keep h80 eG272 (by decide)
                have h81 := h81.keep h80 eG272 (by decide)
                have h82 := h82.keep h80 eG272 (by decide)
                have hlen := (z_len eG272).trans hlen
                have hsl := (z_sl h80 eG272 rfl).trans hsl
                have hfr := hfr.wr h80 eG272 (by decide)
                have h80 := h80.kept eG272
                change ab_W _ _ _ (List.set G262 80 (ab_ob 12 (mof m_thrown m_taped m_length m_out m_wide g2263 m_sets m_ranges m_nodes (((m_at + 2) + 1) + 7) m_flags m_fault m_place m_numbered m_depth m_value m_isNot m_least0 m_most0 m_slot m_work m_got m_rowMany m_charAt m_charWide m_trail m_isMatch m_matchGroups m_allFrom m_allBefore m_founds m_pieces m_writtenMany m_templateWide m_tooMuch))) 288 [some (vR 80), some (vz m_at), some (vz 1), some (vz m_taped), some (vz 0)] [] _
                rw [← eG272]
                refine ab_vret rfl d_MO_posix_288 ?_
                rw [hQ]; exact (Or.inr ⟨_, _, _, _, _, 1, 1, rfl, hfr, hlen, hsl, h80, h87, h88, (by exact Or.inl ⟨by omega, by omega, (by rw [show m_at + 3 = ((m_at + 2) + 1) by omega]; exact (Or.inl ⟨rfl, (nm_of (by omega) hq244 (by rw [show ((m_at + 2) + 1) + 5 = m_at + 8 by omega]; omega) (by rw [show ((m_at + 2) + 1) + 6 = m_at + 9 by omega]; omega))⟩)), by omega⟩), (by exact kor (w := 0) (by omega) (by omega) hq271), (by omega), (by exact hq269), (by exact lfc_w hq270 (by omega))⟩)
              · refine ab_aload_n d_MO_posix_262 rfl ?_
                refine zz_bipush d_MO_posix_263 (by decide) ?_
                refine ab_iload_n d_MO_posix_265 rfl ?_
                refine ab_callV (d' := d - 1) (as := [vz 7, vz m_at]) (st := []) (r := _) (z_MO_wrong (o := o) (m_thrown := m_thrown) (m_taped := m_taped) (m_length := m_length) (m_out := m_out) (m_wide := m_wide) (m_gathered := m_gathered) (m_sets := m_sets) (m_ranges := m_ranges) (m_nodes := m_nodes) (m_at := ((m_at + 2) + 1)) (m_flags := m_flags) (m_fault := m_fault) (m_place := m_place) (m_numbered := m_numbered) (m_depth := m_depth) (m_value := m_value) (m_isNot := m_isNot) (m_least0 := m_least0) (m_most0 := m_most0) (m_slot := m_slot) (m_work := m_work) (m_got := m_got) (m_rowMany := m_rowMany) (m_charAt := m_charAt) (m_charWide := m_charWide) (m_trail := m_trail) (m_isMatch := m_isMatch) (m_matchGroups := m_matchGroups) (m_allFrom := m_allFrom) (m_allBefore := m_allBefore) (m_founds := m_founds) (m_pieces := m_pieces) (m_writtenMany := m_writtenMany) (m_templateWide := m_templateWide) (m_tooMuch := m_tooMuch) (x := 7) (y := m_at) h80 (by omega) (by omega)) (fun oc G2 h => by rcases h with ⟨h, _⟩ | ⟨h, _⟩ <;> exact ⟨_, h⟩) (by omega) m_MO_wrong ml_MO_304 im_MO_wrong se_MO_wrong c_MO h80.2.2 (Nat.le_of_ble_eq_true rfl) d_MO_posix_266 rfl ?_
                intro v G273 hq
                rcases hq with ⟨hv, hfk, hlk, hsk, hN80, hq274⟩ | ⟨hv, hGe, hq275⟩
                · cases hv
                  have h84 := hfk.get h84 (by decide)
                  have h87 := hfk.get h87 (by decide)
                  have h88 := hfk.get h88 (by decide)
                  have h81 := hfk.get h81 (by decide)
                  have h82 := hfk.get h82 (by decide)
                  have hfr := hfr.tr hfk (by decide)
                  have hlen := hlk.trans hlen
                  have hsl := hsk.trans hsl
                  have h80 := hN80
                  change ab_W _ _ _ G273 269 [some (vR 80), some (vz m_at), some (vz 1), some (vz m_taped), some (vz 0)] [] _
                  refine ab_vret rfl d_MO_posix_269 ?_
                  rw [hQ]; exact (Or.inl ⟨_, _, _, rfl, hfr, hlen, hsl, h80, h87, h88, (by omega), (by omega), (by exact nk_i (b0 := ((m_at + 2) + 1)) (by omega) (nk_no7 (by rw [show ((m_at + 2) + 1) + 5 = m_at + 8 by omega, show ((m_at + 2) + 1) + 6 = m_at + 9 by omega]; omega)))⟩)
                · cases hv
                  rw [hGe]
                  change ab_W _ _ _ G242 269 [some (vR 80), some (vz m_at), some (vz 1), some (vz m_taped), some (vz 0)] [] _
                  exfalso; omega
            · cases hv
              rw [hGe]
              change ab_W _ _ _ G242 257 [some (vR 80), some (vz m_at), some (vz 1), some (vz m_taped), some (vz 0)] [vz (-1)] _
              refine zz_bipush d_MO_posix_257 (by decide) ?_
              refine zz_icmp_eq (tgt := 270) d_MO_posix_259 (by decide) (by decide) (by decide) (fun c276 => absurd c276 (by decide)) (fun c276 => ?_)
              refine ab_aload_n d_MO_posix_262 rfl ?_
              refine zz_bipush d_MO_posix_263 (by decide) ?_
              refine ab_iload_n d_MO_posix_265 rfl ?_
              refine ab_callV (d' := d - 1) (as := [vz 7, vz m_at]) (st := []) (r := _) (z_MO_wrong (o := o) (m_thrown := m_thrown) (m_taped := m_taped) (m_length := m_length) (m_out := m_out) (m_wide := m_wide) (m_gathered := m_gathered) (m_sets := m_sets) (m_ranges := m_ranges) (m_nodes := m_nodes) (m_at := ((m_at + 2) + 1)) (m_flags := m_flags) (m_fault := m_fault) (m_place := m_place) (m_numbered := m_numbered) (m_depth := m_depth) (m_value := m_value) (m_isNot := m_isNot) (m_least0 := m_least0) (m_most0 := m_most0) (m_slot := m_slot) (m_work := m_work) (m_got := m_got) (m_rowMany := m_rowMany) (m_charAt := m_charAt) (m_charWide := m_charWide) (m_trail := m_trail) (m_isMatch := m_isMatch) (m_matchGroups := m_matchGroups) (m_allFrom := m_allFrom) (m_allBefore := m_allBefore) (m_founds := m_founds) (m_pieces := m_pieces) (m_writtenMany := m_writtenMany) (m_templateWide := m_templateWide) (m_tooMuch := m_tooMuch) (x := 7) (y := m_at) h80 (by omega) (by omega)) (fun oc G2 h => by rcases h with ⟨h, _⟩ | ⟨h, _⟩ <;> exact ⟨_, h⟩) (by omega) m_MO_wrong ml_MO_304 im_MO_wrong se_MO_wrong c_MO h80.2.2 (Nat.le_of_ble_eq_true rfl) d_MO_posix_266 rfl ?_
              intro v G277 hq
              rcases hq with ⟨hv, hfk, hlk, hsk, hN80, hq278⟩ | ⟨hv, hGe, hq279⟩
              · cases hv
                have h84 := hfk.get h84 (by decide)
                have h87 := hfk.get h87 (by decide)
                have h88 := hfk.get h88 (by decide)
                have h81 := hfk.get h81 (by decide)
                have h82 := hfk.get h82 (by decide)
                have hfr := hfr.tr hfk (by decide)
                have hlen := hlk.trans hlen
                have hsl := hsk.trans hsl
                have h80 := hN80
                change ab_W _ _ _ G277 269 [some (vR 80), some (vz m_at), some (vz 1), some (vz m_taped), some (vz 0)] [] _
                refine ab_vret rfl d_MO_posix_269 ?_
                rw [hQ]; exact (Or.inl ⟨_, _, _, rfl, hfr, hlen, hsl, h80, h87, h88, (by omega), (by omega), (by exact nk_i (b0 := ((m_at + 2) + 1)) (by omega) (nk_no7 (by rw [show ((m_at + 2) + 1) + 5 = m_at + 8 by omega, show ((m_at + 2) + 1) + 6 = m_at + 9 by omega]; omega)))⟩)
              · cases hv
                rw [hGe]
                change ab_W _ _ _ G242 269 [some (vR 80), some (vz m_at), some (vz 1), some (vz m_taped), some (vz 0)] [] _
                exfalso; omega
        · cases hv
          rw [hGe]
          change ab_W _ _ _ G242 246 [some (vR 80), some (vz m_at), some (vz 1), some (vz m_taped), some (vz 0)] [vz (-1)] _
          exfalso; omega
      · cases hv
        rw [hGe]
        change ab_W _ _ _ G242 76 [some (vR 80), some (vz m_at), some (vz 1), some (vz m_taped), none] [vz 0] _
        refine zz_if_eq (tgt := 83) d_MO_posix_76 (by decide) (by decide) (fun c280 => ?_) (fun c280 => absurd c280 (by decide))
        refine ab_aload_n d_MO_posix_83 rfl ?_
        refine ab_getf (fs := mof m_thrown m_taped m_length m_out m_wide m_gathered m_sets m_ranges m_nodes ((m_at + 2) + 1) m_flags m_fault m_place m_numbered m_depth m_value m_isNot m_least0 m_most0 m_slot m_work m_got m_rowMany m_charAt m_charWide m_trail m_isMatch m_matchGroups m_allFrom m_allBefore m_founds m_pieces m_writtenMany m_templateWide m_tooMuch) f_MO_19 d_MO_posix_84 h80.2.2 rfl ?_
        refine ab_aload_n d_MO_posix_87 rfl ?_
        refine ab_getf (fs := mof m_thrown m_taped m_length m_out m_wide m_gathered m_sets m_ranges m_nodes ((m_at + 2) + 1) m_flags m_fault m_place m_numbered m_depth m_value m_isNot m_least0 m_most0 m_slot m_work m_got m_rowMany m_charAt m_charWide m_trail m_isMatch m_matchGroups m_allFrom m_allBefore m_founds m_pieces m_writtenMany m_templateWide m_tooMuch) f_MO_279 d_MO_posix_88 h80.2.2 rfl ?_
        refine ab_iload_n d_MO_posix_91 rfl ?_
        refine zz_bipush d_MO_posix_92 (by decide) ?_
        refine zz_bipush d_MO_posix_94 (by decide) ?_
        refine zz_bipush d_MO_posix_96 (by decide) ?_
        refine zz_bipush d_MO_posix_98 (by decide) ?_
        refine zz_bipush d_MO_posix_100 (by decide) ?_
        refine ab_callS (d' := d - 1) (as := [vR 84, vz ((m_at + 2) + 1), vz m_taped, vz 97, vz 108, vz 112, vz 104, vz 97]) (st := []) (z_MO_spells (o := o) (ar := 84) (la := 284) (m := 2000) (f := A_tape) (p := ((m_at + 2) + 1)) (n := m_taped) (c1 := 97) (c2 := 108) (c3 := 112) (c4 := 104) (c5 := 97) h84 (by omega) (by omega) jtp (by omega)) (fun oc G2 h => by rcases h with ⟨h, _⟩ | ⟨h, _⟩ <;> exact ⟨_, h⟩) (by omega) m_MO_spells ml_MO_333 st_MO_spells (Nat.le_of_ble_eq_true rfl) d_MO_posix_102 rfl ?_
        intro v G281 hq
        rcases hq with ⟨hv, hGe, hq282, hq283⟩ | ⟨hv, hGe, hq284⟩
        · cases hv
          rw [hGe]
          change ab_W _ _ _ G242 105 [some (vR 80), some (vz m_at), some (vz 1), some (vz m_taped), none] [vz 1] _
          refine zz_if_eq (tgt := 113) d_MO_posix_105 (by decide) (by decide) (fun c285 => absurd c285 (by decide)) (fun c285 => ?_)
          refine zz_bipush d_MO_posix_108 (by decide) ?_
          refine ab_goto (tgt := 234) d_MO_posix_110 (by decide) ?_
          refine ab_istore d_MO_posix_234 (Nat.le_of_ble_eq_true rfl) (Nat.le_of_ble_eq_true rfl) rfl ?_
          change ab_W _ _ _ G242 236 [some (vR 80), some (vz m_at), some (vz 1), some (vz m_taped), some (vz 7)] [] _
          refine ab_iload d_MO_posix_236 rfl ?_
          refine zz_if_lt (tgt := 262) d_MO_posix_238 (by decide) (by decide) (fun c286 => absurd c286 (by decide)) (fun c286 => ?_)
          refine ab_aload_n d_MO_posix_241 rfl ?_
          refine zz_iconst d_MO_posix_242 ?_
          refine ab_callV (d' := d - 1) (as := [vz 5]) (st := []) (r := _) (z_MO_here (o := o) (m_thrown := m_thrown) (m_taped := m_taped) (m_length := m_length) (m_out := m_out) (m_wide := m_wide) (m_gathered := m_gathered) (m_sets := m_sets) (m_ranges := m_ranges) (m_nodes := m_nodes) (m_at := ((m_at + 2) + 1)) (m_flags := m_flags) (m_fault := m_fault) (m_place := m_place) (m_numbered := m_numbered) (m_depth := m_depth) (m_value := m_value) (m_isNot := m_isNot) (m_least0 := m_least0) (m_most0 := m_most0) (m_slot := m_slot) (m_work := m_work) (m_got := m_got) (m_rowMany := m_rowMany) (m_charAt := m_charAt) (m_charWide := m_charWide) (m_trail := m_trail) (m_isMatch := m_isMatch) (m_matchGroups := m_matchGroups) (m_allFrom := m_allFrom) (m_allBefore := m_allBefore) (m_founds := m_founds) (m_pieces := m_pieces) (m_writtenMany := m_writtenMany) (m_templateWide := m_templateWide) (m_tooMuch := m_tooMuch) (A_tape := A_tape) (k := 5) (qh := (m_at + 8)) h80 h84 (by omega) (by omega) jtp (by omega) (by omega)) (fun oc G2 h => by rcases h with ⟨h, _⟩ | ⟨h, _⟩ <;> exact ⟨_, h⟩) (by omega) m_MO_here ml_MO_297 im_MO_here se_MO_here c_MO h80.2.2 (Nat.le_of_ble_eq_true rfl) d_MO_posix_243 rfl ?_
          intro v G287 hq
          rcases hq with ⟨hv, hGe, hq288⟩ | ⟨hv, hGe, hq289, hq290⟩
          · cases hv
            rw [hGe]
            change ab_W _ _ _ G242 246 [some (vR 80), some (vz m_at), some (vz 1), some (vz m_taped), some (vz 7)] [vz (tpk A_tape m_taped (m_at + 8))] _
            refine zz_bipush d_MO_posix_246 (by decide) ?_
            refine zz_icmp_ne (tgt := 262) d_MO_posix_248 (by decide) (by omega) (by decide) (fun c291 => ?_) (fun c291 => ?_)
            · refine ab_aload_n d_MO_posix_262 rfl ?_
              refine zz_bipush d_MO_posix_263 (by decide) ?_
              refine ab_iload_n d_MO_posix_265 rfl ?_
              refine ab_callV (d' := d - 1) (as := [vz 7, vz m_at]) (st := []) (r := _) (z_MO_wrong (o := o) (m_thrown := m_thrown) (m_taped := m_taped) (m_length := m_length) (m_out := m_out) (m_wide := m_wide) (m_gathered := m_gathered) (m_sets := m_sets) (m_ranges := m_ranges) (m_nodes := m_nodes) (m_at := ((m_at + 2) + 1)) (m_flags := m_flags) (m_fault := m_fault) (m_place := m_place) (m_numbered := m_numbered) (m_depth := m_depth) (m_value := m_value) (m_isNot := m_isNot) (m_least0 := m_least0) (m_most0 := m_most0) (m_slot := m_slot) (m_work := m_work) (m_got := m_got) (m_rowMany := m_rowMany) (m_charAt := m_charAt) (m_charWide := m_charWide) (m_trail := m_trail) (m_isMatch := m_isMatch) (m_matchGroups := m_matchGroups) (m_allFrom := m_allFrom) (m_allBefore := m_allBefore) (m_founds := m_founds) (m_pieces := m_pieces) (m_writtenMany := m_writtenMany) (m_templateWide := m_templateWide) (m_tooMuch := m_tooMuch) (x := 7) (y := m_at) h80 (by omega) (by omega)) (fun oc G2 h => by rcases h with ⟨h, _⟩ | ⟨h, _⟩ <;> exact ⟨_, h⟩) (by omega) m_MO_wrong ml_MO_304 im_MO_wrong se_MO_wrong c_MO h80.2.2 (Nat.le_of_ble_eq_true rfl) d_MO_posix_266 rfl ?_
              intro v G292 hq
              rcases hq with ⟨hv, hfk, hlk, hsk, hN80, hq293⟩ | ⟨hv, hGe, hq294⟩
              · cases hv
                have h84 := hfk.get h84 (by decide)
                have h87 := hfk.get h87 (by decide)
                have h88 := hfk.get h88 (by decide)
                have h81 := hfk.get h81 (by decide)
                have h82 := hfk.get h82 (by decide)
                have hfr := hfr.tr hfk (by decide)
                have hlen := hlk.trans hlen
                have hsl := hsk.trans hsl
                have h80 := hN80
                change ab_W _ _ _ G292 269 [some (vR 80), some (vz m_at), some (vz 1), some (vz m_taped), some (vz 7)] [] _
                refine ab_vret rfl d_MO_posix_269 ?_
                rw [hQ]; exact (Or.inl ⟨_, _, _, rfl, hfr, hlen, hsl, h80, h87, h88, (by omega), (by omega), (by exact nk_i (b0 := ((m_at + 2) + 1)) (by omega) (nk_no7 (by rw [show ((m_at + 2) + 1) + 5 = m_at + 8 by omega, show ((m_at + 2) + 1) + 6 = m_at + 9 by omega]; omega)))⟩)
              · cases hv
                rw [hGe]
                change ab_W _ _ _ G242 269 [some (vR 80), some (vz m_at), some (vz 1), some (vz m_taped), some (vz 7)] [] _
                exfalso; omega
            · refine ab_aload_n d_MO_posix_251 rfl ?_
              refine zz_bipush d_MO_posix_252 (by decide) ?_
              refine ab_callV (d' := d - 1) (as := [vz 6]) (st := []) (r := _) (z_MO_here (o := o) (m_thrown := m_thrown) (m_taped := m_taped) (m_length := m_length) (m_out := m_out) (m_wide := m_wide) (m_gathered := m_gathered) (m_sets := m_sets) (m_ranges := m_ranges) (m_nodes := m_nodes) (m_at := ((m_at + 2) + 1)) (m_flags := m_flags) (m_fault := m_fault) (m_place := m_place) (m_numbered := m_numbered) (m_depth := m_depth) (m_value := m_value) (m_isNot := m_isNot) (m_least0 := m_least0) (m_most0 := m_most0) (m_slot := m_slot) (m_work := m_work) (m_got := m_got) (m_rowMany := m_rowMany) (m_charAt := m_charAt) (m_charWide := m_charWide) (m_trail := m_trail) (m_isMatch := m_isMatch) (m_matchGroups := m_matchGroups) (m_allFrom := m_allFrom) (m_allBefore := m_allBefore) (m_founds := m_founds) (m_pieces := m_pieces) (m_writtenMany := m_writtenMany) (m_templateWide := m_templateWide) (m_tooMuch := m_tooMuch) (A_tape := A_tape) (k := 6) (qh := (m_at + 9)) h80 h84 (by omega) (by omega) jtp (by omega) (by omega)) (fun oc G2 h => by rcases h with ⟨h, _⟩ | ⟨h, _⟩ <;> exact ⟨_, h⟩) (by omega) m_MO_here ml_MO_297 im_MO_here se_MO_here c_MO h80.2.2 (Nat.le_of_ble_eq_true rfl) d_MO_posix_254 rfl ?_
              intro v G295 hq
              rcases hq with ⟨hv, hGe, hq296⟩ | ⟨hv, hGe, hq297, hq298⟩
              · cases hv
                rw [hGe]
                change ab_W _ _ _ G242 257 [some (vR 80), some (vz m_at), some (vz 1), some (vz m_taped), some (vz 7)] [vz (tpk A_tape m_taped (m_at + 9))] _
                refine zz_bipush d_MO_posix_257 (by decide) ?_
                refine zz_icmp_eq (tgt := 270) d_MO_posix_259 (by decide) (by omega) (by decide) (fun c299 => ?_) (fun c299 => ?_)
                · refine ab_aload_n d_MO_posix_270 rfl ?_
                  refine ab_iload d_MO_posix_271 rfl ?_
                  refine ab_iload_n d_MO_posix_273 rfl ?_
                  refine ab_callV (d' := d - 1) (as := [vz 7, vz 1]) (st := []) (r := _) (z_MO_gatherNamed (o := o) (m_thrown := m_thrown) (m_taped := m_taped) (m_length := m_length) (m_out := m_out) (m_wide := m_wide) (m_gathered := m_gathered) (m_sets := m_sets) (m_ranges := m_ranges) (m_nodes := m_nodes) (m_at := ((m_at + 2) + 1)) (m_flags := m_flags) (m_fault := m_fault) (m_place := m_place) (m_numbered := m_numbered) (m_depth := m_depth) (m_value := m_value) (m_isNot := m_isNot) (m_least0 := m_least0) (m_most0 := m_most0) (m_slot := m_slot) (m_work := m_work) (m_got := m_got) (m_rowMany := m_rowMany) (m_charAt := m_charAt) (m_charWide := m_charWide) (m_trail := m_trail) (m_isMatch := m_isMatch) (m_matchGroups := m_matchGroups) (m_allFrom := m_allFrom) (m_allBefore := m_allBefore) (m_founds := m_founds) (m_pieces := m_pieces) (m_writtenMany := m_writtenMany) (m_templateWide := m_templateWide) (m_tooMuch := m_tooMuch) (LO := LO) (HI := HI) (MK := MK) (P := P) (x := 0) (w := 7) (nt := 1) (mm := mm) h80 h87 h88 h81 h82 (by omega) (by omega) jc jl (by omega)) (fun oc G2 h => by rcases h with ⟨_, _, _, _, h, _⟩ <;> exact ⟨_, h⟩) (by omega) m_MO_gatherNamed ml_MO_337 im_MO_gatherNamed se_MO_gatherNamed c_MO h80.2.2 (Nat.le_of_ble_eq_true rfl) d_MO_posix_274 rfl ?_
                  intro v G300 hq
                  rcases hq with ⟨g2301, LO2302, HI2303, P2304, hv, hfk, hlk, hsk, hN80, hN87, hN88, hq305, hq306, hq307, hq308, hq309⟩
                  cases hv
                  have h84 := hfk.get h84 (by decide)
                  have h81 := hfk.get h81 (by decide)
                  have h82 := hfk.get h82 (by decide)
                  have hfr := hfr.tr hfk (by decide)
                  have hlen := hlk.trans hlen
                  have hsl := hsk.trans hsl
                  have h80 := hN80
                  have h87 := hN87
                  have h88 := hN88
                  change ab_W _ _ _ G300 277 [some (vR 80), some (vz m_at), some (vz 1), some (vz m_taped), some (vz 7)] [] _
                  refine ab_aload_n d_MO_posix_277 rfl ?_
                  refine ab_dup d_MO_posix_278 rfl ?_
                  refine ab_getf (fs := mof m_thrown m_taped m_length m_out m_wide g2301 m_sets m_ranges m_nodes ((m_at + 2) + 1) m_flags m_fault m_place m_numbered m_depth m_value m_isNot m_least0 m_most0 m_slot m_work m_got m_rowMany m_charAt m_charWide m_trail m_isMatch m_matchGroups m_allFrom m_allBefore m_founds m_pieces m_writtenMany m_templateWide m_tooMuch) f_MO_279 d_MO_posix_279 h80.2.2 rfl ?_
                  refine zz_bipush d_MO_posix_282 (by decide) ?_
                  refine zz_iadd d_MO_posix_284 ?_
                  refine ab_putf (fs := mof m_thrown m_taped m_length m_out m_wide g2301 m_sets m_ranges m_nodes ((m_at + 2) + 1) m_flags m_fault m_place m_numbered m_depth m_value m_isNot m_least0 m_most0 m_slot m_work m_got m_rowMany m_charAt m_charWide m_trail m_isMatch m_matchGroups m_allFrom m_allBefore m_founds m_pieces m_writtenMany m_templateWide m_tooMuch) f_MO_279 (Or.inl rfl) d_MO_posix_285 h80.2.2 (Nat.le_of_ble_eq_true rfl) (fun _ => ⟨rfl, rfl⟩) (h80.2.1 (by decide)) ?_
                  obtain ⟨G310, eG310⟩ : ∃ z : ab_G, z = List.set G300 80 (ab_ob 12 (mof m_thrown m_taped m_length m_out m_wide g2301 m_sets m_ranges m_nodes (((m_at + 2) + 1) + 7) m_flags m_fault m_place m_numbered m_depth m_value m_isNot m_least0 m_most0 m_slot m_work m_got m_rowMany m_charAt m_charWide m_trail m_isMatch m_matchGroups m_allFrom m_allBefore m_founds m_pieces m_writtenMany m_templateWide m_tooMuch)) := ⟨_, rfl⟩
                  have h84 := h84.keep h80 eG310 (by decide)
                  have h87 := h87.keep h80 eG310 (by decide)
                  have h88 := h88.keep h80 eG310 (by decide)
                  have h81 := h81.keep h80 eG310 (by decide)
                  have h82 := h82.keep h80 eG310 (by decide)
                  have hlen := (z_len eG310).trans hlen
                  have hsl := (z_sl h80 eG310 rfl).trans hsl
                  have hfr := hfr.wr h80 eG310 (by decide)
                  have h80 := h80.kept eG310
                  change ab_W _ _ _ (List.set G300 80 (ab_ob 12 (mof m_thrown m_taped m_length m_out m_wide g2301 m_sets m_ranges m_nodes (((m_at + 2) + 1) + 7) m_flags m_fault m_place m_numbered m_depth m_value m_isNot m_least0 m_most0 m_slot m_work m_got m_rowMany m_charAt m_charWide m_trail m_isMatch m_matchGroups m_allFrom m_allBefore m_founds m_pieces m_writtenMany m_templateWide m_tooMuch))) 288 [some (vR 80), some (vz m_at), some (vz 1), some (vz m_taped), some (vz 7)] [] _
                  rw [← eG310]
                  refine ab_vret rfl d_MO_posix_288 ?_
                  rw [hQ]; exact (Or.inr ⟨_, _, _, _, _, 8, 1, rfl, hfr, hlen, hsl, h80, h87, h88, (by exact Or.inl ⟨by omega, by omega, (by rw [show m_at + 3 = ((m_at + 2) + 1) by omega]; exact (Or.inr (Or.inl ⟨rfl, (nm_of (by omega) hq282 (by rw [show ((m_at + 2) + 1) + 5 = m_at + 8 by omega]; omega) (by rw [show ((m_at + 2) + 1) + 6 = m_at + 9 by omega]; omega))⟩))), by omega⟩), (by exact kor (w := 7) (by omega) (by omega) hq309), (by omega), (by exact hq307), (by exact lfc_w hq308 (by omega))⟩)
                · refine ab_aload_n d_MO_posix_262 rfl ?_
                  refine zz_bipush d_MO_posix_263 (by decide) ?_
                  refine ab_iload_n d_MO_posix_265 rfl ?_
                  refine ab_callV (d' := d - 1) (as := [vz 7, vz m_at]) (st := []) (r := _) (z_MO_wrong (o := o) (m_thrown := m_thrown) (m_taped := m_taped) (m_length := m_length) (m_out := m_out) (m_wide := m_wide) (m_gathered := m_gathered) (m_sets := m_sets) (m_ranges := m_ranges) (m_nodes := m_nodes) (m_at := ((m_at + 2) + 1)) (m_flags := m_flags) (m_fault := m_fault) (m_place := m_place) (m_numbered := m_numbered) (m_depth := m_depth) (m_value := m_value) (m_isNot := m_isNot) (m_least0 := m_least0) (m_most0 := m_most0) (m_slot := m_slot) (m_work := m_work) (m_got := m_got) (m_rowMany := m_rowMany) (m_charAt := m_charAt) (m_charWide := m_charWide) (m_trail := m_trail) (m_isMatch := m_isMatch) (m_matchGroups := m_matchGroups) (m_allFrom := m_allFrom) (m_allBefore := m_allBefore) (m_founds := m_founds) (m_pieces := m_pieces) (m_writtenMany := m_writtenMany) (m_templateWide := m_templateWide) (m_tooMuch := m_tooMuch) (x := 7) (y := m_at) h80 (by omega) (by omega)) (fun oc G2 h => by rcases h with ⟨h, _⟩ | ⟨h, _⟩ <;> exact ⟨_, h⟩) (by omega) m_MO_wrong ml_MO_304 im_MO_wrong se_MO_wrong c_MO h80.2.2 (Nat.le_of_ble_eq_true rfl) d_MO_posix_266 rfl ?_
                  intro v G311 hq
                  rcases hq with ⟨hv, hfk, hlk, hsk, hN80, hq312⟩ | ⟨hv, hGe, hq313⟩
                  · cases hv
                    have h84 := hfk.get h84 (by decide)
                    have h87 := hfk.get h87 (by decide)
                    have h88 := hfk.get h88 (by decide)
                    have h81 := hfk.get h81 (by decide)
                    have h82 := hfk.get h82 (by decide)
                    have hfr := hfr.tr hfk (by decide)
                    have hlen := hlk.trans hlen
                    have hsl := hsk.trans hsl
                    have h80 := hN80
                    change ab_W _ _ _ G311 269 [some (vR 80), some (vz m_at), some (vz 1), some (vz m_taped), some (vz 7)] [] _
                    refine ab_vret rfl d_MO_posix_269 ?_
                    rw [hQ]; exact (Or.inl ⟨_, _, _, rfl, hfr, hlen, hsl, h80, h87, h88, (by omega), (by omega), (by exact nk_i (b0 := ((m_at + 2) + 1)) (by omega) (nk_no7 (by rw [show ((m_at + 2) + 1) + 5 = m_at + 8 by omega, show ((m_at + 2) + 1) + 6 = m_at + 9 by omega]; omega)))⟩)
                  · cases hv
                    rw [hGe]
                    change ab_W _ _ _ G242 269 [some (vR 80), some (vz m_at), some (vz 1), some (vz m_taped), some (vz 7)] [] _
                    exfalso; omega
              · cases hv
                rw [hGe]
                change ab_W _ _ _ G242 257 [some (vR 80), some (vz m_at), some (vz 1), some (vz m_taped), some (vz 7)] [vz (-1)] _
                refine zz_bipush d_MO_posix_257 (by decide) ?_
                refine zz_icmp_eq (tgt := 270) d_MO_posix_259 (by decide) (by decide) (by decide) (fun c314 => absurd c314 (by decide)) (fun c314 => ?_)
                refine ab_aload_n d_MO_posix_262 rfl ?_
                refine zz_bipush d_MO_posix_263 (by decide) ?_
                refine ab_iload_n d_MO_posix_265 rfl ?_
                refine ab_callV (d' := d - 1) (as := [vz 7, vz m_at]) (st := []) (r := _) (z_MO_wrong (o := o) (m_thrown := m_thrown) (m_taped := m_taped) (m_length := m_length) (m_out := m_out) (m_wide := m_wide) (m_gathered := m_gathered) (m_sets := m_sets) (m_ranges := m_ranges) (m_nodes := m_nodes) (m_at := ((m_at + 2) + 1)) (m_flags := m_flags) (m_fault := m_fault) (m_place := m_place) (m_numbered := m_numbered) (m_depth := m_depth) (m_value := m_value) (m_isNot := m_isNot) (m_least0 := m_least0) (m_most0 := m_most0) (m_slot := m_slot) (m_work := m_work) (m_got := m_got) (m_rowMany := m_rowMany) (m_charAt := m_charAt) (m_charWide := m_charWide) (m_trail := m_trail) (m_isMatch := m_isMatch) (m_matchGroups := m_matchGroups) (m_allFrom := m_allFrom) (m_allBefore := m_allBefore) (m_founds := m_founds) (m_pieces := m_pieces) (m_writtenMany := m_writtenMany) (m_templateWide := m_templateWide) (m_tooMuch := m_tooMuch) (x := 7) (y := m_at) h80 (by omega) (by omega)) (fun oc G2 h => by rcases h with ⟨h, _⟩ | ⟨h, _⟩ <;> exact ⟨_, h⟩) (by omega) m_MO_wrong ml_MO_304 im_MO_wrong se_MO_wrong c_MO h80.2.2 (Nat.le_of_ble_eq_true rfl) d_MO_posix_266 rfl ?_
                intro v G315 hq
                rcases hq with ⟨hv, hfk, hlk, hsk, hN80, hq316⟩ | ⟨hv, hGe, hq317⟩
                · cases hv
                  have h84 := hfk.get h84 (by decide)
                  have h87 := hfk.get h87 (by decide)
                  have h88 := hfk.get h88 (by decide)
                  have h81 := hfk.get h81 (by decide)
                  have h82 := hfk.get h82 (by decide)
                  have hfr := hfr.tr hfk (by decide)
                  have hlen := hlk.trans hlen
                  have hsl := hsk.trans hsl
                  have h80 := hN80
                  change ab_W _ _ _ G315 269 [some (vR 80), some (vz m_at), some (vz 1), some (vz m_taped), some (vz 7)] [] _
                  refine ab_vret rfl d_MO_posix_269 ?_
                  rw [hQ]; exact (Or.inl ⟨_, _, _, rfl, hfr, hlen, hsl, h80, h87, h88, (by omega), (by omega), (by exact nk_i (b0 := ((m_at + 2) + 1)) (by omega) (nk_no7 (by rw [show ((m_at + 2) + 1) + 5 = m_at + 8 by omega, show ((m_at + 2) + 1) + 6 = m_at + 9 by omega]; omega)))⟩)
                · cases hv
                  rw [hGe]
                  change ab_W _ _ _ G242 269 [some (vR 80), some (vz m_at), some (vz 1), some (vz m_taped), some (vz 7)] [] _
                  exfalso; omega
          · cases hv
            rw [hGe]
            change ab_W _ _ _ G242 246 [some (vR 80), some (vz m_at), some (vz 1), some (vz m_taped), some (vz 7)] [vz (-1)] _
            exfalso; omega
        · cases hv
          rw [hGe]
          change ab_W _ _ _ G242 105 [some (vR 80), some (vz m_at), some (vz 1), some (vz m_taped), none] [vz 0] _
          refine zz_if_eq (tgt := 113) d_MO_posix_105 (by decide) (by decide) (fun c318 => ?_) (fun c318 => absurd c318 (by decide))
          refine ab_aload_n d_MO_posix_113 rfl ?_
          refine ab_getf (fs := mof m_thrown m_taped m_length m_out m_wide m_gathered m_sets m_ranges m_nodes ((m_at + 2) + 1) m_flags m_fault m_place m_numbered m_depth m_value m_isNot m_least0 m_most0 m_slot m_work m_got m_rowMany m_charAt m_charWide m_trail m_isMatch m_matchGroups m_allFrom m_allBefore m_founds m_pieces m_writtenMany m_templateWide m_tooMuch) f_MO_19 d_MO_posix_114 h80.2.2 rfl ?_
          refine ab_aload_n d_MO_posix_117 rfl ?_
          refine ab_getf (fs := mof m_thrown m_taped m_length m_out m_wide m_gathered m_sets m_ranges m_nodes ((m_at + 2) + 1) m_flags m_fault m_place m_numbered m_depth m_value m_isNot m_least0 m_most0 m_slot m_work m_got m_rowMany m_charAt m_charWide m_trail m_isMatch m_matchGroups m_allFrom m_allBefore m_founds m_pieces m_writtenMany m_templateWide m_tooMuch) f_MO_279 d_MO_posix_118 h80.2.2 rfl ?_
          refine ab_iload_n d_MO_posix_121 rfl ?_
          refine zz_bipush d_MO_posix_122 (by decide) ?_
          refine zz_bipush d_MO_posix_124 (by decide) ?_
          refine zz_bipush d_MO_posix_126 (by decide) ?_
          refine zz_bipush d_MO_posix_128 (by decide) ?_
          refine zz_bipush d_MO_posix_130 (by decide) ?_
          refine ab_callS (d' := d - 1) (as := [vR 84, vz ((m_at + 2) + 1), vz m_taped, vz 117, vz 112, vz 112, vz 101, vz 114]) (st := []) (z_MO_spells (o := o) (ar := 84) (la := 284) (m := 2000) (f := A_tape) (p := ((m_at + 2) + 1)) (n := m_taped) (c1 := 117) (c2 := 112) (c3 := 112) (c4 := 101) (c5 := 114) h84 (by omega) (by omega) jtp (by omega)) (fun oc G2 h => by rcases h with ⟨h, _⟩ | ⟨h, _⟩ <;> exact ⟨_, h⟩) (by omega) m_MO_spells ml_MO_333 st_MO_spells (Nat.le_of_ble_eq_true rfl) d_MO_posix_132 rfl ?_
          intro v G319 hq
          rcases hq with ⟨hv, hGe, hq320, hq321⟩ | ⟨hv, hGe, hq322⟩
          · cases hv
            rw [hGe]
            change ab_W _ _ _ G242 135 [some (vR 80), some (vz m_at), some (vz 1), some (vz m_taped), none] [vz 1] _
            refine zz_if_eq (tgt := 143) d_MO_posix_135 (by decide) (by decide) (fun c323 => absurd c323 (by decide)) (fun c323 => ?_)
            refine zz_bipush d_MO_posix_138 (by decide) ?_
            refine ab_goto (tgt := 234) d_MO_posix_140 (by decide) ?_
            refine ab_istore d_MO_posix_234 (Nat.le_of_ble_eq_true rfl) (Nat.le_of_ble_eq_true rfl) rfl ?_
            change ab_W _ _ _ G242 236 [some (vR 80), some (vz m_at), some (vz 1), some (vz m_taped), some (vz 8)] [] _
            refine ab_iload d_MO_posix_236 rfl ?_
            refine zz_if_lt (tgt := 262) d_MO_posix_238 (by decide) (by decide) (fun c324 => absurd c324 (by decide)) (fun c324 => ?_)
            refine ab_aload_n d_MO_posix_241 rfl ?_
            refine zz_iconst d_MO_posix_242 ?_
            refine ab_callV (d' := d - 1) (as := [vz 5]) (st := []) (r := _) (z_MO_here (o := o) (m_thrown := m_thrown) (m_taped := m_taped) (m_length := m_length) (m_out := m_out) (m_wide := m_wide) (m_gathered := m_gathered) (m_sets := m_sets) (m_ranges := m_ranges) (m_nodes := m_nodes) (m_at := ((m_at + 2) + 1)) (m_flags := m_flags) (m_fault := m_fault) (m_place := m_place) (m_numbered := m_numbered) (m_depth := m_depth) (m_value := m_value) (m_isNot := m_isNot) (m_least0 := m_least0) (m_most0 := m_most0) (m_slot := m_slot) (m_work := m_work) (m_got := m_got) (m_rowMany := m_rowMany) (m_charAt := m_charAt) (m_charWide := m_charWide) (m_trail := m_trail) (m_isMatch := m_isMatch) (m_matchGroups := m_matchGroups) (m_allFrom := m_allFrom) (m_allBefore := m_allBefore) (m_founds := m_founds) (m_pieces := m_pieces) (m_writtenMany := m_writtenMany) (m_templateWide := m_templateWide) (m_tooMuch := m_tooMuch) (A_tape := A_tape) (k := 5) (qh := (m_at + 8)) h80 h84 (by omega) (by omega) jtp (by omega) (by omega)) (fun oc G2 h => by rcases h with ⟨h, _⟩ | ⟨h, _⟩ <;> exact ⟨_, h⟩) (by omega) m_MO_here ml_MO_297 im_MO_here se_MO_here c_MO h80.2.2 (Nat.le_of_ble_eq_true rfl) d_MO_posix_243 rfl ?_
            intro v G325 hq
            rcases hq with ⟨hv, hGe, hq326⟩ | ⟨hv, hGe, hq327, hq328⟩
            · cases hv
              rw [hGe]
              change ab_W _ _ _ G242 246 [some (vR 80), some (vz m_at), some (vz 1), some (vz m_taped), some (vz 8)] [vz (tpk A_tape m_taped (m_at + 8))] _
              refine zz_bipush d_MO_posix_246 (by decide) ?_
              refine zz_icmp_ne (tgt := 262) d_MO_posix_248 (by decide) (by omega) (by decide) (fun c329 => ?_) (fun c329 => ?_)
              · refine ab_aload_n d_MO_posix_262 rfl ?_
                refine zz_bipush d_MO_posix_263 (by decide) ?_
                refine ab_iload_n d_MO_posix_265 rfl ?_
                refine ab_callV (d' := d - 1) (as := [vz 7, vz m_at]) (st := []) (r := _) (z_MO_wrong (o := o) (m_thrown := m_thrown) (m_taped := m_taped) (m_length := m_length) (m_out := m_out) (m_wide := m_wide) (m_gathered := m_gathered) (m_sets := m_sets) (m_ranges := m_ranges) (m_nodes := m_nodes) (m_at := ((m_at + 2) + 1)) (m_flags := m_flags) (m_fault := m_fault) (m_place := m_place) (m_numbered := m_numbered) (m_depth := m_depth) (m_value := m_value) (m_isNot := m_isNot) (m_least0 := m_least0) (m_most0 := m_most0) (m_slot := m_slot) (m_work := m_work) (m_got := m_got) (m_rowMany := m_rowMany) (m_charAt := m_charAt) (m_charWide := m_charWide) (m_trail := m_trail) (m_isMatch := m_isMatch) (m_matchGroups := m_matchGroups) (m_allFrom := m_allFrom) (m_allBefore := m_allBefore) (m_founds := m_founds) (m_pieces := m_pieces) (m_writtenMany := m_writtenMany) (m_templateWide := m_templateWide) (m_tooMuch := m_tooMuch) (x := 7) (y := m_at) h80 (by omega) (by omega)) (fun oc G2 h => by rcases h with ⟨h, _⟩ | ⟨h, _⟩ <;> exact ⟨_, h⟩) (by omega) m_MO_wrong ml_MO_304 im_MO_wrong se_MO_wrong c_MO h80.2.2 (Nat.le_of_ble_eq_true rfl) d_MO_posix_266 rfl ?_
                intro v G330 hq
                rcases hq with ⟨hv, hfk, hlk, hsk, hN80, hq331⟩ | ⟨hv, hGe, hq332⟩
                · cases hv
                  have h84 := hfk.get h84 (by decide)
                  have h87 := hfk.get h87 (by decide)
                  have h88 := hfk.get h88 (by decide)
                  have h81 := hfk.get h81 (by decide)
                  have h82 := hfk.get h82 (by decide)
                  have hfr := hfr.tr hfk (by decide)
                  have hlen := hlk.trans hlen
                  have hsl := hsk.trans hsl
                  have h80 := hN80
                  change ab_W _ _ _ G330 269 [some (vR 80), some (vz m_at), some (vz 1), some (vz m_taped), some (vz 8)] [] _
                  refine ab_vret rfl d_MO_posix_269 ?_
                  rw [hQ]; exact (Or.inl ⟨_, _, _, rfl, hfr, hlen, hsl, h80, h87, h88, (by omega), (by omega), (by exact nk_i (b0 := ((m_at + 2) + 1)) (by omega) (nk_no7 (by rw [show ((m_at + 2) + 1) + 5 = m_at + 8 by omega, show ((m_at + 2) + 1) + 6 = m_at + 9 by omega]; omega)))⟩)
                · cases hv
                  rw [hGe]
                  change ab_W _ _ _ G242 269 [some (vR 80), some (vz m_at), some (vz 1), some (vz m_taped), some (vz 8)] [] _
                  exfalso; omega
              · refine ab_aload_n d_MO_posix_251 rfl ?_
                refine zz_bipush d_MO_posix_252 (by decide) ?_
                refine ab_callV (d' := d - 1) (as := [vz 6]) (st := []) (r := _) (z_MO_here (o := o) (m_thrown := m_thrown) (m_taped := m_taped) (m_length := m_length) (m_out := m_out) (m_wide := m_wide) (m_gathered := m_gathered) (m_sets := m_sets) (m_ranges := m_ranges) (m_nodes := m_nodes) (m_at := ((m_at + 2) + 1)) (m_flags := m_flags) (m_fault := m_fault) (m_place := m_place) (m_numbered := m_numbered) (m_depth := m_depth) (m_value := m_value) (m_isNot := m_isNot) (m_least0 := m_least0) (m_most0 := m_most0) (m_slot := m_slot) (m_work := m_work) (m_got := m_got) (m_rowMany := m_rowMany) (m_charAt := m_charAt) (m_charWide := m_charWide) (m_trail := m_trail) (m_isMatch := m_isMatch) (m_matchGroups := m_matchGroups) (m_allFrom := m_allFrom) (m_allBefore := m_allBefore) (m_founds := m_founds) (m_pieces := m_pieces) (m_writtenMany := m_writtenMany) (m_templateWide := m_templateWide) (m_tooMuch := m_tooMuch) (A_tape := A_tape) (k := 6) (qh := (m_at + 9)) h80 h84 (by omega) (by omega) jtp (by omega) (by omega)) (fun oc G2 h => by rcases h with ⟨h, _⟩ | ⟨h, _⟩ <;> exact ⟨_, h⟩) (by omega) m_MO_here ml_MO_297 im_MO_here se_MO_here c_MO h80.2.2 (Nat.le_of_ble_eq_true rfl) d_MO_posix_254 rfl ?_
                intro v G333 hq
                rcases hq with ⟨hv, hGe, hq334⟩ | ⟨hv, hGe, hq335, hq336⟩
                · cases hv
                  rw [hGe]
                  change ab_W _ _ _ G242 257 [some (vR 80), some (vz m_at), some (vz 1), some (vz m_taped), some (vz 8)] [vz (tpk A_tape m_taped (m_at + 9))] _
                  refine zz_bipush d_MO_posix_257 (by decide) ?_
                  refine zz_icmp_eq (tgt := 270) d_MO_posix_259 (by decide) (by omega) (by decide) (fun c337 => ?_) (fun c337 => ?_)
                  · refine ab_aload_n d_MO_posix_270 rfl ?_
                    refine ab_iload d_MO_posix_271 rfl ?_
                    refine ab_iload_n d_MO_posix_273 rfl ?_
                    refine ab_callV (d' := d - 1) (as := [vz 8, vz 1]) (st := []) (r := _) (z_MO_gatherNamed (o := o) (m_thrown := m_thrown) (m_taped := m_taped) (m_length := m_length) (m_out := m_out) (m_wide := m_wide) (m_gathered := m_gathered) (m_sets := m_sets) (m_ranges := m_ranges) (m_nodes := m_nodes) (m_at := ((m_at + 2) + 1)) (m_flags := m_flags) (m_fault := m_fault) (m_place := m_place) (m_numbered := m_numbered) (m_depth := m_depth) (m_value := m_value) (m_isNot := m_isNot) (m_least0 := m_least0) (m_most0 := m_most0) (m_slot := m_slot) (m_work := m_work) (m_got := m_got) (m_rowMany := m_rowMany) (m_charAt := m_charAt) (m_charWide := m_charWide) (m_trail := m_trail) (m_isMatch := m_isMatch) (m_matchGroups := m_matchGroups) (m_allFrom := m_allFrom) (m_allBefore := m_allBefore) (m_founds := m_founds) (m_pieces := m_pieces) (m_writtenMany := m_writtenMany) (m_templateWide := m_templateWide) (m_tooMuch := m_tooMuch) (LO := LO) (HI := HI) (MK := MK) (P := P) (x := 0) (w := 8) (nt := 1) (mm := mm) h80 h87 h88 h81 h82 (by omega) (by omega) jc jl (by omega)) (fun oc G2 h => by rcases h with ⟨_, _, _, _, h, _⟩ <;> exact ⟨_, h⟩) (by omega) m_MO_gatherNamed ml_MO_337 im_MO_gatherNamed se_MO_gatherNamed c_MO h80.2.2 (Nat.le_of_ble_eq_true rfl) d_MO_posix_274 rfl ?_
                    intro v G338 hq
                    rcases hq with ⟨g2339, LO2340, HI2341, P2342, hv, hfk, hlk, hsk, hN80, hN87, hN88, hq343, hq344, hq345, hq346, hq347⟩
                    cases hv
                    have h84 := hfk.get h84 (by decide)
                    have h81 := hfk.get h81 (by decide)
                    have h82 := hfk.get h82 (by decide)
                    have hfr := hfr.tr hfk (by decide)
                    have hlen := hlk.trans hlen
                    have hsl := hsk.trans hsl
                    have h80 := hN80
                    have h87 := hN87
                    have h88 := hN88
                    change ab_W _ _ _ G338 277 [some (vR 80), some (vz m_at), some (vz 1), some (vz m_taped), some (vz 8)] [] _
                    refine ab_aload_n d_MO_posix_277 rfl ?_
                    refine ab_dup d_MO_posix_278 rfl ?_
                    refine ab_getf (fs := mof m_thrown m_taped m_length m_out m_wide g2339 m_sets m_ranges m_nodes ((m_at + 2) + 1) m_flags m_fault m_place m_numbered m_depth m_value m_isNot m_least0 m_most0 m_slot m_work m_got m_rowMany m_charAt m_charWide m_trail m_isMatch m_matchGroups m_allFrom m_allBefore m_founds m_pieces m_writtenMany m_templateWide m_tooMuch) f_MO_279 d_MO_posix_279 h80.2.2 rfl ?_
                    refine zz_bipush d_MO_posix_282 (by decide) ?_
                    refine zz_iadd d_MO_posix_284 ?_
                    refine ab_putf (fs := mof m_thrown m_taped m_length m_out m_wide g2339 m_sets m_ranges m_nodes ((m_at + 2) + 1) m_flags m_fault m_place m_numbered m_depth m_value m_isNot m_least0 m_most0 m_slot m_work m_got m_rowMany m_charAt m_charWide m_trail m_isMatch m_matchGroups m_allFrom m_allBefore m_founds m_pieces m_writtenMany m_templateWide m_tooMuch) f_MO_279 (Or.inl rfl) d_MO_posix_285 h80.2.2 (Nat.le_of_ble_eq_true rfl) (fun _ => ⟨rfl, rfl⟩) (h80.2.1 (by decide)) ?_
                    obtain ⟨G348, eG348⟩ : ∃ z : ab_G, z = List.set G338 80 (ab_ob 12 (mof m_thrown m_taped m_length m_out m_wide g2339 m_sets m_ranges m_nodes (((m_at + 2) + 1) + 7) m_flags m_fault m_place m_numbered m_depth m_value m_isNot m_least0 m_most0 m_slot m_work m_got m_rowMany m_charAt m_charWide m_trail m_isMatch m_matchGroups m_allFrom m_allBefore m_founds m_pieces m_writtenMany m_templateWide m_tooMuch)) := ⟨_, rfl⟩
                    have h84 := h84.keep h80 eG348 (by decide)
                    have h87 := h87.keep h80 eG348 (by decide)
                    have h88 := h88.keep h80 eG348 (by decide)
                    have h81 := h81.keep h80 eG348 (by decide)
                    have h82 := h82.keep h80 eG348 (by decide)
                    have hlen := (z_len eG348).trans hlen
                    have hsl := (z_sl h80 eG348 rfl).trans hsl
                    have hfr := hfr.wr h80 eG348 (by decide)
                    have h80 := h80.kept eG348
                    change ab_W _ _ _ (List.set G338 80 (ab_ob 12 (mof m_thrown m_taped m_length m_out m_wide g2339 m_sets m_ranges m_nodes (((m_at + 2) + 1) + 7) m_flags m_fault m_place m_numbered m_depth m_value m_isNot m_least0 m_most0 m_slot m_work m_got m_rowMany m_charAt m_charWide m_trail m_isMatch m_matchGroups m_allFrom m_allBefore m_founds m_pieces m_writtenMany m_templateWide m_tooMuch))) 288 [some (vR 80), some (vz m_at), some (vz 1), some (vz m_taped), some (vz 8)] [] _
                    rw [← eG348]
                    refine ab_vret rfl d_MO_posix_288 ?_
                    rw [hQ]; exact (Or.inr ⟨_, _, _, _, _, 9, 1, rfl, hfr, hlen, hsl, h80, h87, h88, (by exact Or.inl ⟨by omega, by omega, (by rw [show m_at + 3 = ((m_at + 2) + 1) by omega]; exact (Or.inr (Or.inr (Or.inl ⟨rfl, (nm_of (by omega) hq320 (by rw [show ((m_at + 2) + 1) + 5 = m_at + 8 by omega]; omega) (by rw [show ((m_at + 2) + 1) + 6 = m_at + 9 by omega]; omega))⟩)))), by omega⟩), (by exact kor (w := 8) (by omega) (by omega) hq347), (by omega), (by exact hq345), (by exact lfc_w hq346 (by omega))⟩)
                  · refine ab_aload_n d_MO_posix_262 rfl ?_
                    refine zz_bipush d_MO_posix_263 (by decide) ?_
                    refine ab_iload_n d_MO_posix_265 rfl ?_
                    refine ab_callV (d' := d - 1) (as := [vz 7, vz m_at]) (st := []) (r := _) (z_MO_wrong (o := o) (m_thrown := m_thrown) (m_taped := m_taped) (m_length := m_length) (m_out := m_out) (m_wide := m_wide) (m_gathered := m_gathered) (m_sets := m_sets) (m_ranges := m_ranges) (m_nodes := m_nodes) (m_at := ((m_at + 2) + 1)) (m_flags := m_flags) (m_fault := m_fault) (m_place := m_place) (m_numbered := m_numbered) (m_depth := m_depth) (m_value := m_value) (m_isNot := m_isNot) (m_least0 := m_least0) (m_most0 := m_most0) (m_slot := m_slot) (m_work := m_work) (m_got := m_got) (m_rowMany := m_rowMany) (m_charAt := m_charAt) (m_charWide := m_charWide) (m_trail := m_trail) (m_isMatch := m_isMatch) (m_matchGroups := m_matchGroups) (m_allFrom := m_allFrom) (m_allBefore := m_allBefore) (m_founds := m_founds) (m_pieces := m_pieces) (m_writtenMany := m_writtenMany) (m_templateWide := m_templateWide) (m_tooMuch := m_tooMuch) (x := 7) (y := m_at) h80 (by omega) (by omega)) (fun oc G2 h => by rcases h with ⟨h, _⟩ | ⟨h, _⟩ <;> exact ⟨_, h⟩) (by omega) m_MO_wrong ml_MO_304 im_MO_wrong se_MO_wrong c_MO h80.2.2 (Nat.le_of_ble_eq_true rfl) d_MO_posix_266 rfl ?_
                    intro v G349 hq
                    rcases hq with ⟨hv, hfk, hlk, hsk, hN80, hq350⟩ | ⟨hv, hGe, hq351⟩
                    · cases hv
                      have h84 := hfk.get h84 (by decide)
                      have h87 := hfk.get h87 (by decide)
                      have h88 := hfk.get h88 (by decide)
                      have h81 := hfk.get h81 (by decide)
                      have h82 := hfk.get h82 (by decide)
                      have hfr := hfr.tr hfk (by decide)
                      have hlen := hlk.trans hlen
                      have hsl := hsk.trans hsl
                      have h80 := hN80
                      change ab_W _ _ _ G349 269 [some (vR 80), some (vz m_at), some (vz 1), some (vz m_taped), some (vz 8)] [] _
                      refine ab_vret rfl d_MO_posix_269 ?_
                      rw [hQ]; exact (Or.inl ⟨_, _, _, rfl, hfr, hlen, hsl, h80, h87, h88, (by omega), (by omega), (by exact nk_i (b0 := ((m_at + 2) + 1)) (by omega) (nk_no7 (by rw [show ((m_at + 2) + 1) + 5 = m_at + 8 by omega, show ((m_at + 2) + 1) + 6 = m_at + 9 by omega]; omega)))⟩)
                    · cases hv
                      rw [hGe]
                      change ab_W _ _ _ G242 269 [some (vR 80), some (vz m_at), some (vz 1), some (vz m_taped), some (vz 8)] [] _
                      exfalso; omega
                · cases hv
                  rw [hGe]
                  change ab_W _ _ _ G242 257 [some (vR 80), some (vz m_at), some (vz 1), some (vz m_taped), some (vz 8)] [vz (-1)] _
                  refine zz_bipush d_MO_posix_257 (by decide) ?_
                  refine zz_icmp_eq (tgt := 270) d_MO_posix_259 (by decide) (by decide) (by decide) (fun c352 => absurd c352 (by decide)) (fun c352 => ?_)
                  refine ab_aload_n d_MO_posix_262 rfl ?_
                  refine zz_bipush d_MO_posix_263 (by decide) ?_
                  refine ab_iload_n d_MO_posix_265 rfl ?_
                  refine ab_callV (d' := d - 1) (as := [vz 7, vz m_at]) (st := []) (r := _) (z_MO_wrong (o := o) (m_thrown := m_thrown) (m_taped := m_taped) (m_length := m_length) (m_out := m_out) (m_wide := m_wide) (m_gathered := m_gathered) (m_sets := m_sets) (m_ranges := m_ranges) (m_nodes := m_nodes) (m_at := ((m_at + 2) + 1)) (m_flags := m_flags) (m_fault := m_fault) (m_place := m_place) (m_numbered := m_numbered) (m_depth := m_depth) (m_value := m_value) (m_isNot := m_isNot) (m_least0 := m_least0) (m_most0 := m_most0) (m_slot := m_slot) (m_work := m_work) (m_got := m_got) (m_rowMany := m_rowMany) (m_charAt := m_charAt) (m_charWide := m_charWide) (m_trail := m_trail) (m_isMatch := m_isMatch) (m_matchGroups := m_matchGroups) (m_allFrom := m_allFrom) (m_allBefore := m_allBefore) (m_founds := m_founds) (m_pieces := m_pieces) (m_writtenMany := m_writtenMany) (m_templateWide := m_templateWide) (m_tooMuch := m_tooMuch) (x := 7) (y := m_at) h80 (by omega) (by omega)) (fun oc G2 h => by rcases h with ⟨h, _⟩ | ⟨h, _⟩ <;> exact ⟨_, h⟩) (by omega) m_MO_wrong ml_MO_304 im_MO_wrong se_MO_wrong c_MO h80.2.2 (Nat.le_of_ble_eq_true rfl) d_MO_posix_266 rfl ?_
                  intro v G353 hq
                  rcases hq with ⟨hv, hfk, hlk, hsk, hN80, hq354⟩ | ⟨hv, hGe, hq355⟩
                  · cases hv
                    have h84 := hfk.get h84 (by decide)
                    have h87 := hfk.get h87 (by decide)
                    have h88 := hfk.get h88 (by decide)
                    have h81 := hfk.get h81 (by decide)
                    have h82 := hfk.get h82 (by decide)
                    have hfr := hfr.tr hfk (by decide)
                    have hlen := hlk.trans hlen
                    have hsl := hsk.trans hsl
                    have h80 := hN80
                    change ab_W _ _ _ G353 269 [some (vR 80), some (vz m_at), some (vz 1), some (vz m_taped), some (vz 8)] [] _
                    refine ab_vret rfl d_MO_posix_269 ?_
                    rw [hQ]; exact (Or.inl ⟨_, _, _, rfl, hfr, hlen, hsl, h80, h87, h88, (by omega), (by omega), (by exact nk_i (b0 := ((m_at + 2) + 1)) (by omega) (nk_no7 (by rw [show ((m_at + 2) + 1) + 5 = m_at + 8 by omega, show ((m_at + 2) + 1) + 6 = m_at + 9 by omega]; omega)))⟩)
                  · cases hv
                    rw [hGe]
                    change ab_W _ _ _ G242 269 [some (vR 80), some (vz m_at), some (vz 1), some (vz m_taped), some (vz 8)] [] _
                    exfalso; omega
            · cases hv
              rw [hGe]
              change ab_W _ _ _ G242 246 [some (vR 80), some (vz m_at), some (vz 1), some (vz m_taped), some (vz 8)] [vz (-1)] _
              exfalso; omega
          · cases hv
            rw [hGe]
            change ab_W _ _ _ G242 135 [some (vR 80), some (vz m_at), some (vz 1), some (vz m_taped), none] [vz 0] _
            refine zz_if_eq (tgt := 143) d_MO_posix_135 (by decide) (by decide) (fun c356 => ?_) (fun c356 => absurd c356 (by decide))
            refine ab_aload_n d_MO_posix_143 rfl ?_
            refine ab_getf (fs := mof m_thrown m_taped m_length m_out m_wide m_gathered m_sets m_ranges m_nodes ((m_at + 2) + 1) m_flags m_fault m_place m_numbered m_depth m_value m_isNot m_least0 m_most0 m_slot m_work m_got m_rowMany m_charAt m_charWide m_trail m_isMatch m_matchGroups m_allFrom m_allBefore m_founds m_pieces m_writtenMany m_templateWide m_tooMuch) f_MO_19 d_MO_posix_144 h80.2.2 rfl ?_
            refine ab_aload_n d_MO_posix_147 rfl ?_
            refine ab_getf (fs := mof m_thrown m_taped m_length m_out m_wide m_gathered m_sets m_ranges m_nodes ((m_at + 2) + 1) m_flags m_fault m_place m_numbered m_depth m_value m_isNot m_least0 m_most0 m_slot m_work m_got m_rowMany m_charAt m_charWide m_trail m_isMatch m_matchGroups m_allFrom m_allBefore m_founds m_pieces m_writtenMany m_templateWide m_tooMuch) f_MO_279 d_MO_posix_148 h80.2.2 rfl ?_
            refine ab_iload_n d_MO_posix_151 rfl ?_
            refine zz_bipush d_MO_posix_152 (by decide) ?_
            refine zz_bipush d_MO_posix_154 (by decide) ?_
            refine zz_bipush d_MO_posix_156 (by decide) ?_
            refine zz_bipush d_MO_posix_158 (by decide) ?_
            refine zz_bipush d_MO_posix_160 (by decide) ?_
            refine ab_callS (d' := d - 1) (as := [vR 84, vz ((m_at + 2) + 1), vz m_taped, vz 108, vz 111, vz 119, vz 101, vz 114]) (st := []) (z_MO_spells (o := o) (ar := 84) (la := 284) (m := 2000) (f := A_tape) (p := ((m_at + 2) + 1)) (n := m_taped) (c1 := 108) (c2 := 111) (c3 := 119) (c4 := 101) (c5 := 114) h84 (by omega) (by omega) jtp (by omega)) (fun oc G2 h => by rcases h with ⟨h, _⟩ | ⟨h, _⟩ <;> exact ⟨_, h⟩) (by omega) m_MO_spells ml_MO_333 st_MO_spells (Nat.le_of_ble_eq_true rfl) d_MO_posix_162 rfl ?_
            intro v G357 hq
            rcases hq with ⟨hv, hGe, hq358, hq359⟩ | ⟨hv, hGe, hq360⟩
            · cases hv
              rw [hGe]
              change ab_W _ _ _ G242 165 [some (vR 80), some (vz m_at), some (vz 1), some (vz m_taped), none] [vz 1] _
              refine zz_if_eq (tgt := 173) d_MO_posix_165 (by decide) (by decide) (fun c361 => absurd c361 (by decide)) (fun c361 => ?_)
              refine zz_bipush d_MO_posix_168 (by decide) ?_
              refine ab_goto (tgt := 234) d_MO_posix_170 (by decide) ?_
              refine ab_istore d_MO_posix_234 (Nat.le_of_ble_eq_true rfl) (Nat.le_of_ble_eq_true rfl) rfl ?_
              change ab_W _ _ _ G242 236 [some (vR 80), some (vz m_at), some (vz 1), some (vz m_taped), some (vz 9)] [] _
              refine ab_iload d_MO_posix_236 rfl ?_
              refine zz_if_lt (tgt := 262) d_MO_posix_238 (by decide) (by decide) (fun c362 => absurd c362 (by decide)) (fun c362 => ?_)
              refine ab_aload_n d_MO_posix_241 rfl ?_
              refine zz_iconst d_MO_posix_242 ?_
              refine ab_callV (d' := d - 1) (as := [vz 5]) (st := []) (r := _) (z_MO_here (o := o) (m_thrown := m_thrown) (m_taped := m_taped) (m_length := m_length) (m_out := m_out) (m_wide := m_wide) (m_gathered := m_gathered) (m_sets := m_sets) (m_ranges := m_ranges) (m_nodes := m_nodes) (m_at := ((m_at + 2) + 1)) (m_flags := m_flags) (m_fault := m_fault) (m_place := m_place) (m_numbered := m_numbered) (m_depth := m_depth) (m_value := m_value) (m_isNot := m_isNot) (m_least0 := m_least0) (m_most0 := m_most0) (m_slot := m_slot) (m_work := m_work) (m_got := m_got) (m_rowMany := m_rowMany) (m_charAt := m_charAt) (m_charWide := m_charWide) (m_trail := m_trail) (m_isMatch := m_isMatch) (m_matchGroups := m_matchGroups) (m_allFrom := m_allFrom) (m_allBefore := m_allBefore) (m_founds := m_founds) (m_pieces := m_pieces) (m_writtenMany := m_writtenMany) (m_templateWide := m_templateWide) (m_tooMuch := m_tooMuch) (A_tape := A_tape) (k := 5) (qh := (m_at + 8)) h80 h84 (by omega) (by omega) jtp (by omega) (by omega)) (fun oc G2 h => by rcases h with ⟨h, _⟩ | ⟨h, _⟩ <;> exact ⟨_, h⟩) (by omega) m_MO_here ml_MO_297 im_MO_here se_MO_here c_MO h80.2.2 (Nat.le_of_ble_eq_true rfl) d_MO_posix_243 rfl ?_
              intro v G363 hq
              rcases hq with ⟨hv, hGe, hq364⟩ | ⟨hv, hGe, hq365, hq366⟩
              · cases hv
                rw [hGe]
                change ab_W _ _ _ G242 246 [some (vR 80), some (vz m_at), some (vz 1), some (vz m_taped), some (vz 9)] [vz (tpk A_tape m_taped (m_at + 8))] _
                refine zz_bipush d_MO_posix_246 (by decide) ?_
                refine zz_icmp_ne (tgt := 262) d_MO_posix_248 (by decide) (by omega) (by decide) (fun c367 => ?_) (fun c367 => ?_)
                · refine ab_aload_n d_MO_posix_262 rfl ?_
                  refine zz_bipush d_MO_posix_263 (by decide) ?_
                  refine ab_iload_n d_MO_posix_265 rfl ?_
                  refine ab_callV (d' := d - 1) (as := [vz 7, vz m_at]) (st := []) (r := _) (z_MO_wrong (o := o) (m_thrown := m_thrown) (m_taped := m_taped) (m_length := m_length) (m_out := m_out) (m_wide := m_wide) (m_gathered := m_gathered) (m_sets := m_sets) (m_ranges := m_ranges) (m_nodes := m_nodes) (m_at := ((m_at + 2) + 1)) (m_flags := m_flags) (m_fault := m_fault) (m_place := m_place) (m_numbered := m_numbered) (m_depth := m_depth) (m_value := m_value) (m_isNot := m_isNot) (m_least0 := m_least0) (m_most0 := m_most0) (m_slot := m_slot) (m_work := m_work) (m_got := m_got) (m_rowMany := m_rowMany) (m_charAt := m_charAt) (m_charWide := m_charWide) (m_trail := m_trail) (m_isMatch := m_isMatch) (m_matchGroups := m_matchGroups) (m_allFrom := m_allFrom) (m_allBefore := m_allBefore) (m_founds := m_founds) (m_pieces := m_pieces) (m_writtenMany := m_writtenMany) (m_templateWide := m_templateWide) (m_tooMuch := m_tooMuch) (x := 7) (y := m_at) h80 (by omega) (by omega)) (fun oc G2 h => by rcases h with ⟨h, _⟩ | ⟨h, _⟩ <;> exact ⟨_, h⟩) (by omega) m_MO_wrong ml_MO_304 im_MO_wrong se_MO_wrong c_MO h80.2.2 (Nat.le_of_ble_eq_true rfl) d_MO_posix_266 rfl ?_
                  intro v G368 hq
                  rcases hq with ⟨hv, hfk, hlk, hsk, hN80, hq369⟩ | ⟨hv, hGe, hq370⟩
                  · cases hv
                    have h84 := hfk.get h84 (by decide)
                    have h87 := hfk.get h87 (by decide)
                    have h88 := hfk.get h88 (by decide)
                    have h81 := hfk.get h81 (by decide)
                    have h82 := hfk.get h82 (by decide)
                    have hfr := hfr.tr hfk (by decide)
                    have hlen := hlk.trans hlen
                    have hsl := hsk.trans hsl
                    have h80 := hN80
                    change ab_W _ _ _ G368 269 [some (vR 80), some (vz m_at), some (vz 1), some (vz m_taped), some (vz 9)] [] _
                    refine ab_vret rfl d_MO_posix_269 ?_
                    rw [hQ]; exact (Or.inl ⟨_, _, _, rfl, hfr, hlen, hsl, h80, h87, h88, (by omega), (by omega), (by exact nk_i (b0 := ((m_at + 2) + 1)) (by omega) (nk_no7 (by rw [show ((m_at + 2) + 1) + 5 = m_at + 8 by omega, show ((m_at + 2) + 1) + 6 = m_at + 9 by omega]; omega)))⟩)
                  · cases hv
                    rw [hGe]
                    change ab_W _ _ _ G242 269 [some (vR 80), some (vz m_at), some (vz 1), some (vz m_taped), some (vz 9)] [] _
                    exfalso; omega
                · refine ab_aload_n d_MO_posix_251 rfl ?_
                  refine zz_bipush d_MO_posix_252 (by decide) ?_
                  refine ab_callV (d' := d - 1) (as := [vz 6]) (st := []) (r := _) (z_MO_here (o := o) (m_thrown := m_thrown) (m_taped := m_taped) (m_length := m_length) (m_out := m_out) (m_wide := m_wide) (m_gathered := m_gathered) (m_sets := m_sets) (m_ranges := m_ranges) (m_nodes := m_nodes) (m_at := ((m_at + 2) + 1)) (m_flags := m_flags) (m_fault := m_fault) (m_place := m_place) (m_numbered := m_numbered) (m_depth := m_depth) (m_value := m_value) (m_isNot := m_isNot) (m_least0 := m_least0) (m_most0 := m_most0) (m_slot := m_slot) (m_work := m_work) (m_got := m_got) (m_rowMany := m_rowMany) (m_charAt := m_charAt) (m_charWide := m_charWide) (m_trail := m_trail) (m_isMatch := m_isMatch) (m_matchGroups := m_matchGroups) (m_allFrom := m_allFrom) (m_allBefore := m_allBefore) (m_founds := m_founds) (m_pieces := m_pieces) (m_writtenMany := m_writtenMany) (m_templateWide := m_templateWide) (m_tooMuch := m_tooMuch) (A_tape := A_tape) (k := 6) (qh := (m_at + 9)) h80 h84 (by omega) (by omega) jtp (by omega) (by omega)) (fun oc G2 h => by rcases h with ⟨h, _⟩ | ⟨h, _⟩ <;> exact ⟨_, h⟩) (by omega) m_MO_here ml_MO_297 im_MO_here se_MO_here c_MO h80.2.2 (Nat.le_of_ble_eq_true rfl) d_MO_posix_254 rfl ?_
                  intro v G371 hq
                  rcases hq with ⟨hv, hGe, hq372⟩ | ⟨hv, hGe, hq373, hq374⟩
                  · cases hv
                    rw [hGe]
                    change ab_W _ _ _ G242 257 [some (vR 80), some (vz m_at), some (vz 1), some (vz m_taped), some (vz 9)] [vz (tpk A_tape m_taped (m_at + 9))] _
                    refine zz_bipush d_MO_posix_257 (by decide) ?_
                    refine zz_icmp_eq (tgt := 270) d_MO_posix_259 (by decide) (by omega) (by decide) (fun c375 => ?_) (fun c375 => ?_)
                    · refine ab_aload_n d_MO_posix_270 rfl ?_
                      refine ab_iload d_MO_posix_271 rfl ?_
                      refine ab_iload_n d_MO_posix_273 rfl ?_
                      refine ab_callV (d' := d - 1) (as := [vz 9, vz 1]) (st := []) (r := _) (z_MO_gatherNamed (o := o) (m_thrown := m_thrown) (m_taped := m_taped) (m_length := m_length) (m_out := m_out) (m_wide := m_wide) (m_gathered := m_gathered) (m_sets := m_sets) (m_ranges := m_ranges) (m_nodes := m_nodes) (m_at := ((m_at + 2) + 1)) (m_flags := m_flags) (m_fault := m_fault) (m_place := m_place) (m_numbered := m_numbered) (m_depth := m_depth) (m_value := m_value) (m_isNot := m_isNot) (m_least0 := m_least0) (m_most0 := m_most0) (m_slot := m_slot) (m_work := m_work) (m_got := m_got) (m_rowMany := m_rowMany) (m_charAt := m_charAt) (m_charWide := m_charWide) (m_trail := m_trail) (m_isMatch := m_isMatch) (m_matchGroups := m_matchGroups) (m_allFrom := m_allFrom) (m_allBefore := m_allBefore) (m_founds := m_founds) (m_pieces := m_pieces) (m_writtenMany := m_writtenMany) (m_templateWide := m_templateWide) (m_tooMuch := m_tooMuch) (LO := LO) (HI := HI) (MK := MK) (P := P) (x := 0) (w := 9) (nt := 1) (mm := mm) h80 h87 h88 h81 h82 (by omega) (by omega) jc jl (by omega)) (fun oc G2 h => by rcases h with ⟨_, _, _, _, h, _⟩ <;> exact ⟨_, h⟩) (by omega) m_MO_gatherNamed ml_MO_337 im_MO_gatherNamed se_MO_gatherNamed c_MO h80.2.2 (Nat.le_of_ble_eq_true rfl) d_MO_posix_274 rfl ?_
                      intro v G376 hq
                      rcases hq with ⟨g2377, LO2378, HI2379, P2380, hv, hfk, hlk, hsk, hN80, hN87, hN88, hq381, hq382, hq383, hq384, hq385⟩
                      cases hv
                      have h84 := hfk.get h84 (by decide)
                      have h81 := hfk.get h81 (by decide)
                      have h82 := hfk.get h82 (by decide)
                      have hfr := hfr.tr hfk (by decide)
                      have hlen := hlk.trans hlen
                      have hsl := hsk.trans hsl
                      have h80 := hN80
                      have h87 := hN87
                      have h88 := hN88
                      change ab_W _ _ _ G376 277 [some (vR 80), some (vz m_at), some (vz 1), some (vz m_taped), some (vz 9)] [] _
                      refine ab_aload_n d_MO_posix_277 rfl ?_
                      refine ab_dup d_MO_posix_278 rfl ?_
                      refine ab_getf (fs := mof m_thrown m_taped m_length m_out m_wide g2377 m_sets m_ranges m_nodes ((m_at + 2) + 1) m_flags m_fault m_place m_numbered m_depth m_value m_isNot m_least0 m_most0 m_slot m_work m_got m_rowMany m_charAt m_charWide m_trail m_isMatch m_matchGroups m_allFrom m_allBefore m_founds m_pieces m_writtenMany m_templateWide m_tooMuch) f_MO_279 d_MO_posix_279 h80.2.2 rfl ?_
                      refine zz_bipush d_MO_posix_282 (by decide) ?_
                      refine zz_iadd d_MO_posix_284 ?_
                      refine ab_putf (fs := mof m_thrown m_taped m_length m_out m_wide g2377 m_sets m_ranges m_nodes ((m_at + 2) + 1) m_flags m_fault m_place m_numbered m_depth m_value m_isNot m_least0 m_most0 m_slot m_work m_got m_rowMany m_charAt m_charWide m_trail m_isMatch m_matchGroups m_allFrom m_allBefore m_founds m_pieces m_writtenMany m_templateWide m_tooMuch) f_MO_279 (Or.inl rfl) d_MO_posix_285 h80.2.2 (Nat.le_of_ble_eq_true rfl) (fun _ => ⟨rfl, rfl⟩) (h80.2.1 (by decide)) ?_
                      obtain ⟨G386, eG386⟩ : ∃ z : ab_G, z = List.set G376 80 (ab_ob 12 (mof m_thrown m_taped m_length m_out m_wide g2377 m_sets m_ranges m_nodes (((m_at + 2) + 1) + 7) m_flags m_fault m_place m_numbered m_depth m_value m_isNot m_least0 m_most0 m_slot m_work m_got m_rowMany m_charAt m_charWide m_trail m_isMatch m_matchGroups m_allFrom m_allBefore m_founds m_pieces m_writtenMany m_templateWide m_tooMuch)) := ⟨_, rfl⟩
                      have h84 := h84.keep h80 eG386 (by decide)
                      have h87 := h87.keep h80 eG386 (by decide)
                      have h88 := h88.keep h80 eG386 (by decide)
                      have h81 := h81.keep h80 eG386 (by decide)
                      have h82 := h82.keep h80 eG386 (by decide)
                      have hlen := (z_len eG386).trans hlen
                      have hsl := (z_sl h80 eG386 rfl).trans hsl
                      have hfr := hfr.wr h80 eG386 (by decide)
                      have h80 := h80.kept eG386
                      change ab_W _ _ _ (List.set G376 80 (ab_ob 12 (mof m_thrown m_taped m_length m_out m_wide g2377 m_sets m_ranges m_nodes (((m_at + 2) + 1) + 7) m_flags m_fault m_place m_numbered m_depth m_value m_isNot m_least0 m_most0 m_slot m_work m_got m_rowMany m_charAt m_charWide m_trail m_isMatch m_matchGroups m_allFrom m_allBefore m_founds m_pieces m_writtenMany m_templateWide m_tooMuch))) 288 [some (vR 80), some (vz m_at), some (vz 1), some (vz m_taped), some (vz 9)] [] _
                      rw [← eG386]
                      refine ab_vret rfl d_MO_posix_288 ?_
                      rw [hQ]; exact (Or.inr ⟨_, _, _, _, _, 10, 1, rfl, hfr, hlen, hsl, h80, h87, h88, (by exact Or.inl ⟨by omega, by omega, (by rw [show m_at + 3 = ((m_at + 2) + 1) by omega]; exact (Or.inr (Or.inr (Or.inr (Or.inl ⟨rfl, (nm_of (by omega) hq358 (by rw [show ((m_at + 2) + 1) + 5 = m_at + 8 by omega]; omega) (by rw [show ((m_at + 2) + 1) + 6 = m_at + 9 by omega]; omega))⟩))))), by omega⟩), (by exact kor (w := 9) (by omega) (by omega) hq385), (by omega), (by exact hq383), (by exact lfc_w hq384 (by omega))⟩)
                    · refine ab_aload_n d_MO_posix_262 rfl ?_
                      refine zz_bipush d_MO_posix_263 (by decide) ?_
                      refine ab_iload_n d_MO_posix_265 rfl ?_
                      refine ab_callV (d' := d - 1) (as := [vz 7, vz m_at]) (st := []) (r := _) (z_MO_wrong (o := o) (m_thrown := m_thrown) (m_taped := m_taped) (m_length := m_length) (m_out := m_out) (m_wide := m_wide) (m_gathered := m_gathered) (m_sets := m_sets) (m_ranges := m_ranges) (m_nodes := m_nodes) (m_at := ((m_at + 2) + 1)) (m_flags := m_flags) (m_fault := m_fault) (m_place := m_place) (m_numbered := m_numbered) (m_depth := m_depth) (m_value := m_value) (m_isNot := m_isNot) (m_least0 := m_least0) (m_most0 := m_most0) (m_slot := m_slot) (m_work := m_work) (m_got := m_got) (m_rowMany := m_rowMany) (m_charAt := m_charAt) (m_charWide := m_charWide) (m_trail := m_trail) (m_isMatch := m_isMatch) (m_matchGroups := m_matchGroups) (m_allFrom := m_allFrom) (m_allBefore := m_allBefore) (m_founds := m_founds) (m_pieces := m_pieces) (m_writtenMany := m_writtenMany) (m_templateWide := m_templateWide) (m_tooMuch := m_tooMuch) (x := 7) (y := m_at) h80 (by omega) (by omega)) (fun oc G2 h => by rcases h with ⟨h, _⟩ | ⟨h, _⟩ <;> exact ⟨_, h⟩) (by omega) m_MO_wrong ml_MO_304 im_MO_wrong se_MO_wrong c_MO h80.2.2 (Nat.le_of_ble_eq_true rfl) d_MO_posix_266 rfl ?_
                      intro v G387 hq
                      rcases hq with ⟨hv, hfk, hlk, hsk, hN80, hq388⟩ | ⟨hv, hGe, hq389⟩
                      · cases hv
                        have h84 := hfk.get h84 (by decide)
                        have h87 := hfk.get h87 (by decide)
                        have h88 := hfk.get h88 (by decide)
                        have h81 := hfk.get h81 (by decide)
                        have h82 := hfk.get h82 (by decide)
                        have hfr := hfr.tr hfk (by decide)
                        have hlen := hlk.trans hlen
                        have hsl := hsk.trans hsl
                        have h80 := hN80
                        change ab_W _ _ _ G387 269 [some (vR 80), some (vz m_at), some (vz 1), some (vz m_taped), some (vz 9)] [] _
                        refine ab_vret rfl d_MO_posix_269 ?_
                        rw [hQ]; exact (Or.inl ⟨_, _, _, rfl, hfr, hlen, hsl, h80, h87, h88, (by omega), (by omega), (by exact nk_i (b0 := ((m_at + 2) + 1)) (by omega) (nk_no7 (by rw [show ((m_at + 2) + 1) + 5 = m_at + 8 by omega, show ((m_at + 2) + 1) + 6 = m_at + 9 by omega]; omega)))⟩)
                      · cases hv
                        rw [hGe]
                        change ab_W _ _ _ G242 269 [some (vR 80), some (vz m_at), some (vz 1), some (vz m_taped), some (vz 9)] [] _
                        exfalso; omega
                  · cases hv
                    rw [hGe]
                    change ab_W _ _ _ G242 257 [some (vR 80), some (vz m_at), some (vz 1), some (vz m_taped), some (vz 9)] [vz (-1)] _
                    refine zz_bipush d_MO_posix_257 (by decide) ?_
                    refine zz_icmp_eq (tgt := 270) d_MO_posix_259 (by decide) (by decide) (by decide) (fun c390 => absurd c390 (by decide)) (fun c390 => ?_)
                    refine ab_aload_n d_MO_posix_262 rfl ?_
                    refine zz_bipush d_MO_posix_263 (by decide) ?_
                    refine ab_iload_n d_MO_posix_265 rfl ?_
                    refine ab_callV (d' := d - 1) (as := [vz 7, vz m_at]) (st := []) (r := _) (z_MO_wrong (o := o) (m_thrown := m_thrown) (m_taped := m_taped) (m_length := m_length) (m_out := m_out) (m_wide := m_wide) (m_gathered := m_gathered) (m_sets := m_sets) (m_ranges := m_ranges) (m_nodes := m_nodes) (m_at := ((m_at + 2) + 1)) (m_flags := m_flags) (m_fault := m_fault) (m_place := m_place) (m_numbered := m_numbered) (m_depth := m_depth) (m_value := m_value) (m_isNot := m_isNot) (m_least0 := m_least0) (m_most0 := m_most0) (m_slot := m_slot) (m_work := m_work) (m_got := m_got) (m_rowMany := m_rowMany) (m_charAt := m_charAt) (m_charWide := m_charWide) (m_trail := m_trail) (m_isMatch := m_isMatch) (m_matchGroups := m_matchGroups) (m_allFrom := m_allFrom) (m_allBefore := m_allBefore) (m_founds := m_founds) (m_pieces := m_pieces) (m_writtenMany := m_writtenMany) (m_templateWide := m_templateWide) (m_tooMuch := m_tooMuch) (x := 7) (y := m_at) h80 (by omega) (by omega)) (fun oc G2 h => by rcases h with ⟨h, _⟩ | ⟨h, _⟩ <;> exact ⟨_, h⟩) (by omega) m_MO_wrong ml_MO_304 im_MO_wrong se_MO_wrong c_MO h80.2.2 (Nat.le_of_ble_eq_true rfl) d_MO_posix_266 rfl ?_
                    intro v G391 hq
                    rcases hq with ⟨hv, hfk, hlk, hsk, hN80, hq392⟩ | ⟨hv, hGe, hq393⟩
                    · cases hv
                      have h84 := hfk.get h84 (by decide)
                      have h87 := hfk.get h87 (by decide)
                      have h88 := hfk.get h88 (by decide)
                      have h81 := hfk.get h81 (by decide)
                      have h82 := hfk.get h82 (by decide)
                      have hfr := hfr.tr hfk (by decide)
                      have hlen := hlk.trans hlen
                      have hsl := hsk.trans hsl
                      have h80 := hN80
                      change ab_W _ _ _ G391 269 [some (vR 80), some (vz m_at), some (vz 1), some (vz m_taped), some (vz 9)] [] _
                      refine ab_vret rfl d_MO_posix_269 ?_
                      rw [hQ]; exact (Or.inl ⟨_, _, _, rfl, hfr, hlen, hsl, h80, h87, h88, (by omega), (by omega), (by exact nk_i (b0 := ((m_at + 2) + 1)) (by omega) (nk_no7 (by rw [show ((m_at + 2) + 1) + 5 = m_at + 8 by omega, show ((m_at + 2) + 1) + 6 = m_at + 9 by omega]; omega)))⟩)
                    · cases hv
                      rw [hGe]
                      change ab_W _ _ _ G242 269 [some (vR 80), some (vz m_at), some (vz 1), some (vz m_taped), some (vz 9)] [] _
                      exfalso; omega
              · cases hv
                rw [hGe]
                change ab_W _ _ _ G242 246 [some (vR 80), some (vz m_at), some (vz 1), some (vz m_taped), some (vz 9)] [vz (-1)] _
                exfalso; omega
            · cases hv
              rw [hGe]
              change ab_W _ _ _ G242 165 [some (vR 80), some (vz m_at), some (vz 1), some (vz m_taped), none] [vz 0] _
              refine zz_if_eq (tgt := 173) d_MO_posix_165 (by decide) (by decide) (fun c394 => ?_) (fun c394 => absurd c394 (by decide))
              refine ab_aload_n d_MO_posix_173 rfl ?_
              refine ab_getf (fs := mof m_thrown m_taped m_length m_out m_wide m_gathered m_sets m_ranges m_nodes ((m_at + 2) + 1) m_flags m_fault m_place m_numbered m_depth m_value m_isNot m_least0 m_most0 m_slot m_work m_got m_rowMany m_charAt m_charWide m_trail m_isMatch m_matchGroups m_allFrom m_allBefore m_founds m_pieces m_writtenMany m_templateWide m_tooMuch) f_MO_19 d_MO_posix_174 h80.2.2 rfl ?_
              refine ab_aload_n d_MO_posix_177 rfl ?_
              refine ab_getf (fs := mof m_thrown m_taped m_length m_out m_wide m_gathered m_sets m_ranges m_nodes ((m_at + 2) + 1) m_flags m_fault m_place m_numbered m_depth m_value m_isNot m_least0 m_most0 m_slot m_work m_got m_rowMany m_charAt m_charWide m_trail m_isMatch m_matchGroups m_allFrom m_allBefore m_founds m_pieces m_writtenMany m_templateWide m_tooMuch) f_MO_279 d_MO_posix_178 h80.2.2 rfl ?_
              refine ab_iload_n d_MO_posix_181 rfl ?_
              refine zz_bipush d_MO_posix_182 (by decide) ?_
              refine zz_bipush d_MO_posix_184 (by decide) ?_
              refine zz_bipush d_MO_posix_186 (by decide) ?_
              refine zz_bipush d_MO_posix_188 (by decide) ?_
              refine zz_bipush d_MO_posix_190 (by decide) ?_
              refine ab_callS (d' := d - 1) (as := [vR 84, vz ((m_at + 2) + 1), vz m_taped, vz 112, vz 117, vz 110, vz 99, vz 116]) (st := []) (z_MO_spells (o := o) (ar := 84) (la := 284) (m := 2000) (f := A_tape) (p := ((m_at + 2) + 1)) (n := m_taped) (c1 := 112) (c2 := 117) (c3 := 110) (c4 := 99) (c5 := 116) h84 (by omega) (by omega) jtp (by omega)) (fun oc G2 h => by rcases h with ⟨h, _⟩ | ⟨h, _⟩ <;> exact ⟨_, h⟩) (by omega) m_MO_spells ml_MO_333 st_MO_spells (Nat.le_of_ble_eq_true rfl) d_MO_posix_192 rfl ?_
              intro v G395 hq
              rcases hq with ⟨hv, hGe, hq396, hq397⟩ | ⟨hv, hGe, hq398⟩
              · cases hv
                rw [hGe]
                change ab_W _ _ _ G242 195 [some (vR 80), some (vz m_at), some (vz 1), some (vz m_taped), none] [vz 1] _
                refine zz_if_eq (tgt := 203) d_MO_posix_195 (by decide) (by decide) (fun c399 => absurd c399 (by decide)) (fun c399 => ?_)
                refine zz_bipush d_MO_posix_198 (by decide) ?_
                refine ab_goto (tgt := 234) d_MO_posix_200 (by decide) ?_
                refine ab_istore d_MO_posix_234 (Nat.le_of_ble_eq_true rfl) (Nat.le_of_ble_eq_true rfl) rfl ?_
                change ab_W _ _ _ G242 236 [some (vR 80), some (vz m_at), some (vz 1), some (vz m_taped), some (vz 10)] [] _
                refine ab_iload d_MO_posix_236 rfl ?_
                refine zz_if_lt (tgt := 262) d_MO_posix_238 (by decide) (by decide) (fun c400 => absurd c400 (by decide)) (fun c400 => ?_)
                refine ab_aload_n d_MO_posix_241 rfl ?_
                refine zz_iconst d_MO_posix_242 ?_
                refine ab_callV (d' := d - 1) (as := [vz 5]) (st := []) (r := _) (z_MO_here (o := o) (m_thrown := m_thrown) (m_taped := m_taped) (m_length := m_length) (m_out := m_out) (m_wide := m_wide) (m_gathered := m_gathered) (m_sets := m_sets) (m_ranges := m_ranges) (m_nodes := m_nodes) (m_at := ((m_at + 2) + 1)) (m_flags := m_flags) (m_fault := m_fault) (m_place := m_place) (m_numbered := m_numbered) (m_depth := m_depth) (m_value := m_value) (m_isNot := m_isNot) (m_least0 := m_least0) (m_most0 := m_most0) (m_slot := m_slot) (m_work := m_work) (m_got := m_got) (m_rowMany := m_rowMany) (m_charAt := m_charAt) (m_charWide := m_charWide) (m_trail := m_trail) (m_isMatch := m_isMatch) (m_matchGroups := m_matchGroups) (m_allFrom := m_allFrom) (m_allBefore := m_allBefore) (m_founds := m_founds) (m_pieces := m_pieces) (m_writtenMany := m_writtenMany) (m_templateWide := m_templateWide) (m_tooMuch := m_tooMuch) (A_tape := A_tape) (k := 5) (qh := (m_at + 8)) h80 h84 (by omega) (by omega) jtp (by omega) (by omega)) (fun oc G2 h => by rcases h with ⟨h, _⟩ | ⟨h, _⟩ <;> exact ⟨_, h⟩) (by omega) m_MO_here ml_MO_297 im_MO_here se_MO_here c_MO h80.2.2 (Nat.le_of_ble_eq_true rfl) d_MO_posix_243 rfl ?_
                intro v G401 hq
                rcases hq with ⟨hv, hGe, hq402⟩ | ⟨hv, hGe, hq403, hq404⟩
                · cases hv
                  rw [hGe]
                  change ab_W _ _ _ G242 246 [some (vR 80), some (vz m_at), some (vz 1), some (vz m_taped), some (vz 10)] [vz (tpk A_tape m_taped (m_at + 8))] _
                  refine zz_bipush d_MO_posix_246 (by decide) ?_
                  refine zz_icmp_ne (tgt := 262) d_MO_posix_248 (by decide) (by omega) (by decide) (fun c405 => ?_) (fun c405 => ?_)
                  · refine ab_aload_n d_MO_posix_262 rfl ?_
                    refine zz_bipush d_MO_posix_263 (by decide) ?_
                    refine ab_iload_n d_MO_posix_265 rfl ?_
                    refine ab_callV (d' := d - 1) (as := [vz 7, vz m_at]) (st := []) (r := _) (z_MO_wrong (o := o) (m_thrown := m_thrown) (m_taped := m_taped) (m_length := m_length) (m_out := m_out) (m_wide := m_wide) (m_gathered := m_gathered) (m_sets := m_sets) (m_ranges := m_ranges) (m_nodes := m_nodes) (m_at := ((m_at + 2) + 1)) (m_flags := m_flags) (m_fault := m_fault) (m_place := m_place) (m_numbered := m_numbered) (m_depth := m_depth) (m_value := m_value) (m_isNot := m_isNot) (m_least0 := m_least0) (m_most0 := m_most0) (m_slot := m_slot) (m_work := m_work) (m_got := m_got) (m_rowMany := m_rowMany) (m_charAt := m_charAt) (m_charWide := m_charWide) (m_trail := m_trail) (m_isMatch := m_isMatch) (m_matchGroups := m_matchGroups) (m_allFrom := m_allFrom) (m_allBefore := m_allBefore) (m_founds := m_founds) (m_pieces := m_pieces) (m_writtenMany := m_writtenMany) (m_templateWide := m_templateWide) (m_tooMuch := m_tooMuch) (x := 7) (y := m_at) h80 (by omega) (by omega)) (fun oc G2 h => by rcases h with ⟨h, _⟩ | ⟨h, _⟩ <;> exact ⟨_, h⟩) (by omega) m_MO_wrong ml_MO_304 im_MO_wrong se_MO_wrong c_MO h80.2.2 (Nat.le_of_ble_eq_true rfl) d_MO_posix_266 rfl ?_
                    intro v G406 hq
                    rcases hq with ⟨hv, hfk, hlk, hsk, hN80, hq407⟩ | ⟨hv, hGe, hq408⟩
                    · cases hv
                      have h84 := hfk.get h84 (by decide)
                      have h87 := hfk.get h87 (by decide)
                      have h88 := hfk.get h88 (by decide)
                      have h81 := hfk.get h81 (by decide)
                      have h82 := hfk.get h82 (by decide)
                      have hfr := hfr.tr hfk (by decide)
                      have hlen := hlk.trans hlen
                      have hsl := hsk.trans hsl
                      have h80 := hN80
                      change ab_W _ _ _ G406 269 [some (vR 80), some (vz m_at), some (vz 1), some (vz m_taped), some (vz 10)] [] _
                      refine ab_vret rfl d_MO_posix_269 ?_
                      rw [hQ]; exact (Or.inl ⟨_, _, _, rfl, hfr, hlen, hsl, h80, h87, h88, (by omega), (by omega), (by exact nk_i (b0 := ((m_at + 2) + 1)) (by omega) (nk_no7 (by rw [show ((m_at + 2) + 1) + 5 = m_at + 8 by omega, show ((m_at + 2) + 1) + 6 = m_at + 9 by omega]; omega)))⟩)
                    · cases hv
                      rw [hGe]
                      change ab_W _ _ _ G242 269 [some (vR 80), some (vz m_at), some (vz 1), some (vz m_taped), some (vz 10)] [] _
                      exfalso; omega
                  · refine ab_aload_n d_MO_posix_251 rfl ?_
                    refine zz_bipush d_MO_posix_252 (by decide) ?_
                    refine ab_callV (d' := d - 1) (as := [vz 6]) (st := []) (r := _) (z_MO_here (o := o) (m_thrown := m_thrown) (m_taped := m_taped) (m_length := m_length) (m_out := m_out) (m_wide := m_wide) (m_gathered := m_gathered) (m_sets := m_sets) (m_ranges := m_ranges) (m_nodes := m_nodes) (m_at := ((m_at + 2) + 1)) (m_flags := m_flags) (m_fault := m_fault) (m_place := m_place) (m_numbered := m_numbered) (m_depth := m_depth) (m_value := m_value) (m_isNot := m_isNot) (m_least0 := m_least0) (m_most0 := m_most0) (m_slot := m_slot) (m_work := m_work) (m_got := m_got) (m_rowMany := m_rowMany) (m_charAt := m_charAt) (m_charWide := m_charWide) (m_trail := m_trail) (m_isMatch := m_isMatch) (m_matchGroups := m_matchGroups) (m_allFrom := m_allFrom) (m_allBefore := m_allBefore) (m_founds := m_founds) (m_pieces := m_pieces) (m_writtenMany := m_writtenMany) (m_templateWide := m_templateWide) (m_tooMuch := m_tooMuch) (A_tape := A_tape) (k := 6) (qh := (m_at + 9)) h80 h84 (by omega) (by omega) jtp (by omega) (by omega)) (fun oc G2 h => by rcases h with ⟨h, _⟩ | ⟨h, _⟩ <;> exact ⟨_, h⟩) (by omega) m_MO_here ml_MO_297 im_MO_here se_MO_here c_MO h80.2.2 (Nat.le_of_ble_eq_true rfl) d_MO_posix_254 rfl ?_
                    intro v G409 hq
                    rcases hq with ⟨hv, hGe, hq410⟩ | ⟨hv, hGe, hq411, hq412⟩
                    · cases hv
                      rw [hGe]
                      change ab_W _ _ _ G242 257 [some (vR 80), some (vz m_at), some (vz 1), some (vz m_taped), some (vz 10)] [vz (tpk A_tape m_taped (m_at + 9))] _
                      refine zz_bipush d_MO_posix_257 (by decide) ?_
                      refine zz_icmp_eq (tgt := 270) d_MO_posix_259 (by decide) (by omega) (by decide) (fun c413 => ?_) (fun c413 => ?_)
                      · refine ab_aload_n d_MO_posix_270 rfl ?_
                        refine ab_iload d_MO_posix_271 rfl ?_
                        refine ab_iload_n d_MO_posix_273 rfl ?_
                        refine ab_callV (d' := d - 1) (as := [vz 10, vz 1]) (st := []) (r := _) (z_MO_gatherNamed (o := o) (m_thrown := m_thrown) (m_taped := m_taped) (m_length := m_length) (m_out := m_out) (m_wide := m_wide) (m_gathered := m_gathered) (m_sets := m_sets) (m_ranges := m_ranges) (m_nodes := m_nodes) (m_at := ((m_at + 2) + 1)) (m_flags := m_flags) (m_fault := m_fault) (m_place := m_place) (m_numbered := m_numbered) (m_depth := m_depth) (m_value := m_value) (m_isNot := m_isNot) (m_least0 := m_least0) (m_most0 := m_most0) (m_slot := m_slot) (m_work := m_work) (m_got := m_got) (m_rowMany := m_rowMany) (m_charAt := m_charAt) (m_charWide := m_charWide) (m_trail := m_trail) (m_isMatch := m_isMatch) (m_matchGroups := m_matchGroups) (m_allFrom := m_allFrom) (m_allBefore := m_allBefore) (m_founds := m_founds) (m_pieces := m_pieces) (m_writtenMany := m_writtenMany) (m_templateWide := m_templateWide) (m_tooMuch := m_tooMuch) (LO := LO) (HI := HI) (MK := MK) (P := P) (x := 0) (w := 10) (nt := 1) (mm := mm) h80 h87 h88 h81 h82 (by omega) (by omega) jc jl (by omega)) (fun oc G2 h => by rcases h with ⟨_, _, _, _, h, _⟩ <;> exact ⟨_, h⟩) (by omega) m_MO_gatherNamed ml_MO_337 im_MO_gatherNamed se_MO_gatherNamed c_MO h80.2.2 (Nat.le_of_ble_eq_true rfl) d_MO_posix_274 rfl ?_
                        intro v G414 hq
                        rcases hq with ⟨g2415, LO2416, HI2417, P2418, hv, hfk, hlk, hsk, hN80, hN87, hN88, hq419, hq420, hq421, hq422, hq423⟩
                        cases hv
                        have h84 := hfk.get h84 (by decide)
                        have h81 := hfk.get h81 (by decide)
                        have h82 := hfk.get h82 (by decide)
                        have hfr := hfr.tr hfk (by decide)
                        have hlen := hlk.trans hlen
                        have hsl := hsk.trans hsl
                        have h80 := hN80
                        have h87 := hN87
                        have h88 := hN88
                        change ab_W _ _ _ G414 277 [some (vR 80), some (vz m_at), some (vz 1), some (vz m_taped), some (vz 10)] [] _
                        refine ab_aload_n d_MO_posix_277 rfl ?_
                        refine ab_dup d_MO_posix_278 rfl ?_
                        refine ab_getf (fs := mof m_thrown m_taped m_length m_out m_wide g2415 m_sets m_ranges m_nodes ((m_at + 2) + 1) m_flags m_fault m_place m_numbered m_depth m_value m_isNot m_least0 m_most0 m_slot m_work m_got m_rowMany m_charAt m_charWide m_trail m_isMatch m_matchGroups m_allFrom m_allBefore m_founds m_pieces m_writtenMany m_templateWide m_tooMuch) f_MO_279 d_MO_posix_279 h80.2.2 rfl ?_
                        refine zz_bipush d_MO_posix_282 (by decide) ?_
                        refine zz_iadd d_MO_posix_284 ?_
                        refine ab_putf (fs := mof m_thrown m_taped m_length m_out m_wide g2415 m_sets m_ranges m_nodes ((m_at + 2) + 1) m_flags m_fault m_place m_numbered m_depth m_value m_isNot m_least0 m_most0 m_slot m_work m_got m_rowMany m_charAt m_charWide m_trail m_isMatch m_matchGroups m_allFrom m_allBefore m_founds m_pieces m_writtenMany m_templateWide m_tooMuch) f_MO_279 (Or.inl rfl) d_MO_posix_285 h80.2.2 (Nat.le_of_ble_eq_true rfl) (fun _ => ⟨rfl, rfl⟩) (h80.2.1 (by decide)) ?_
                        obtain ⟨G424, eG424⟩ : ∃ z : ab_G, z = List.set G414 80 (ab_ob 12 (mof m_thrown m_taped m_length m_out m_wide g2415 m_sets m_ranges m_nodes (((m_at + 2) + 1) + 7) m_flags m_fault m_place m_numbered m_depth m_value m_isNot m_least0 m_most0 m_slot m_work m_got m_rowMany m_charAt m_charWide m_trail m_isMatch m_matchGroups m_allFrom m_allBefore m_founds m_pieces m_writtenMany m_templateWide m_tooMuch)) := ⟨_, rfl⟩
                        have h84 := h84.keep h80 eG424 (by decide)
                        have h87 := h87.keep h80 eG424 (by decide)
                        have h88 := h88.keep h80 eG424 (by decide)
                        have h81 := h81.keep h80 eG424 (by decide)
                        have h82 := h82.keep h80 eG424 (by decide)
                        have hlen := (z_len eG424).trans hlen
                        have hsl := (z_sl h80 eG424 rfl).trans hsl
                        have hfr := hfr.wr h80 eG424 (by decide)
                        have h80 := h80.kept eG424
                        change ab_W _ _ _ (List.set G414 80 (ab_ob 12 (mof m_thrown m_taped m_length m_out m_wide g2415 m_sets m_ranges m_nodes (((m_at + 2) + 1) + 7) m_flags m_fault m_place m_numbered m_depth m_value m_isNot m_least0 m_most0 m_slot m_work m_got m_rowMany m_charAt m_charWide m_trail m_isMatch m_matchGroups m_allFrom m_allBefore m_founds m_pieces m_writtenMany m_templateWide m_tooMuch))) 288 [some (vR 80), some (vz m_at), some (vz 1), some (vz m_taped), some (vz 10)] [] _
                        rw [← eG424]
                        refine ab_vret rfl d_MO_posix_288 ?_
                        rw [hQ]; exact (Or.inr ⟨_, _, _, _, _, 11, 1, rfl, hfr, hlen, hsl, h80, h87, h88, (by exact Or.inl ⟨by omega, by omega, (by rw [show m_at + 3 = ((m_at + 2) + 1) by omega]; exact (Or.inr (Or.inr (Or.inr (Or.inr (Or.inl ⟨rfl, (nm_of (by omega) hq396 (by rw [show ((m_at + 2) + 1) + 5 = m_at + 8 by omega]; omega) (by rw [show ((m_at + 2) + 1) + 6 = m_at + 9 by omega]; omega))⟩)))))), by omega⟩), (by exact kor (w := 10) (by omega) (by omega) hq423), (by omega), (by exact hq421), (by exact lfc_w hq422 (by omega))⟩)
                      · refine ab_aload_n d_MO_posix_262 rfl ?_
                        refine zz_bipush d_MO_posix_263 (by decide) ?_
                        refine ab_iload_n d_MO_posix_265 rfl ?_
                        refine ab_callV (d' := d - 1) (as := [vz 7, vz m_at]) (st := []) (r := _) (z_MO_wrong (o := o) (m_thrown := m_thrown) (m_taped := m_taped) (m_length := m_length) (m_out := m_out) (m_wide := m_wide) (m_gathered := m_gathered) (m_sets := m_sets) (m_ranges := m_ranges) (m_nodes := m_nodes) (m_at := ((m_at + 2) + 1)) (m_flags := m_flags) (m_fault := m_fault) (m_place := m_place) (m_numbered := m_numbered) (m_depth := m_depth) (m_value := m_value) (m_isNot := m_isNot) (m_least0 := m_least0) (m_most0 := m_most0) (m_slot := m_slot) (m_work := m_work) (m_got := m_got) (m_rowMany := m_rowMany) (m_charAt := m_charAt) (m_charWide := m_charWide) (m_trail := m_trail) (m_isMatch := m_isMatch) (m_matchGroups := m_matchGroups) (m_allFrom := m_allFrom) (m_allBefore := m_allBefore) (m_founds := m_founds) (m_pieces := m_pieces) (m_writtenMany := m_writtenMany) (m_templateWide := m_templateWide) (m_tooMuch := m_tooMuch) (x := 7) (y := m_at) h80 (by omega) (by omega)) (fun oc G2 h => by rcases h with ⟨h, _⟩ | ⟨h, _⟩ <;> exact ⟨_, h⟩) (by omega) m_MO_wrong ml_MO_304 im_MO_wrong se_MO_wrong c_MO h80.2.2 (Nat.le_of_ble_eq_true rfl) d_MO_posix_266 rfl ?_
                        intro v G425 hq
                        rcases hq with ⟨hv, hfk, hlk, hsk, hN80, hq426⟩ | ⟨hv, hGe, hq427⟩
                        · cases hv
                          have h84 := hfk.get h84 (by decide)
                          have h87 := hfk.get h87 (by decide)
                          have h88 := hfk.get h88 (by decide)
                          have h81 := hfk.get h81 (by decide)
                          have h82 := hfk.get h82 (by decide)
                          have hfr := hfr.tr hfk (by decide)
                          have hlen := hlk.trans hlen
                          have hsl := hsk.trans hsl
                          have h80 := hN80
                          change ab_W _ _ _ G425 269 [some (vR 80), some (vz m_at), some (vz 1), some (vz m_taped), some (vz 10)] [] _
                          refine ab_vret rfl d_MO_posix_269 ?_
                          rw [hQ]; exact (Or.inl ⟨_, _, _, rfl, hfr, hlen, hsl, h80, h87, h88, (by omega), (by omega), (by exact nk_i (b0 := ((m_at + 2) + 1)) (by omega) (nk_no7 (by rw [show ((m_at + 2) + 1) + 5 = m_at + 8 by omega, show ((m_at + 2) + 1) + 6 = m_at + 9 by omega]; omega)))⟩)
                        · cases hv
                          rw [hGe]
                          change ab_W _ _ _ G242 269 [some (vR 80), some (vz m_at), some (vz 1), some (vz m_taped), some (vz 10)] [] _
                          exfalso; omega
                    · cases hv
                      rw [hGe]
                      change ab_W _ _ _ G242 257 [some (vR 80), some (vz m_at), some (vz 1), some (vz m_taped), some (vz 10)] [vz (-1)] _
                      refine zz_bipush d_MO_posix_257 (by decide) ?_
                      refine zz_icmp_eq (tgt := 270) d_MO_posix_259 (by decide) (by decide) (by decide) (fun c428 => absurd c428 (by decide)) (fun c428 => ?_)
                      refine ab_aload_n d_MO_posix_262 rfl ?_
                      refine zz_bipush d_MO_posix_263 (by decide) ?_
                      refine ab_iload_n d_MO_posix_265 rfl ?_
                      refine ab_callV (d' := d - 1) (as := [vz 7, vz m_at]) (st := []) (r := _) (z_MO_wrong (o := o) (m_thrown := m_thrown) (m_taped := m_taped) (m_length := m_length) (m_out := m_out) (m_wide := m_wide) (m_gathered := m_gathered) (m_sets := m_sets) (m_ranges := m_ranges) (m_nodes := m_nodes) (m_at := ((m_at + 2) + 1)) (m_flags := m_flags) (m_fault := m_fault) (m_place := m_place) (m_numbered := m_numbered) (m_depth := m_depth) (m_value := m_value) (m_isNot := m_isNot) (m_least0 := m_least0) (m_most0 := m_most0) (m_slot := m_slot) (m_work := m_work) (m_got := m_got) (m_rowMany := m_rowMany) (m_charAt := m_charAt) (m_charWide := m_charWide) (m_trail := m_trail) (m_isMatch := m_isMatch) (m_matchGroups := m_matchGroups) (m_allFrom := m_allFrom) (m_allBefore := m_allBefore) (m_founds := m_founds) (m_pieces := m_pieces) (m_writtenMany := m_writtenMany) (m_templateWide := m_templateWide) (m_tooMuch := m_tooMuch) (x := 7) (y := m_at) h80 (by omega) (by omega)) (fun oc G2 h => by rcases h with ⟨h, _⟩ | ⟨h, _⟩ <;> exact ⟨_, h⟩) (by omega) m_MO_wrong ml_MO_304 im_MO_wrong se_MO_wrong c_MO h80.2.2 (Nat.le_of_ble_eq_true rfl) d_MO_posix_266 rfl ?_
                      intro v G429 hq
                      rcases hq with ⟨hv, hfk, hlk, hsk, hN80, hq430⟩ | ⟨hv, hGe, hq431⟩
                      · cases hv
                        have h84 := hfk.get h84 (by decide)
                        have h87 := hfk.get h87 (by decide)
                        have h88 := hfk.get h88 (by decide)
                        have h81 := hfk.get h81 (by decide)
                        have h82 := hfk.get h82 (by decide)
                        have hfr := hfr.tr hfk (by decide)
                        have hlen := hlk.trans hlen
                        have hsl := hsk.trans hsl
                        have h80 := hN80
                        change ab_W _ _ _ G429 269 [some (vR 80), some (vz m_at), some (vz 1), some (vz m_taped), some (vz 10)] [] _
                        refine ab_vret rfl d_MO_posix_269 ?_
                        rw [hQ]; exact (Or.inl ⟨_, _, _, rfl, hfr, hlen, hsl, h80, h87, h88, (by omega), (by omega), (by exact nk_i (b0 := ((m_at + 2) + 1)) (by omega) (nk_no7 (by rw [show ((m_at + 2) + 1) + 5 = m_at + 8 by omega, show ((m_at + 2) + 1) + 6 = m_at + 9 by omega]; omega)))⟩)
                      · cases hv
                        rw [hGe]
                        change ab_W _ _ _ G242 269 [some (vR 80), some (vz m_at), some (vz 1), some (vz m_taped), some (vz 10)] [] _
                        exfalso; omega
                · cases hv
                  rw [hGe]
                  change ab_W _ _ _ G242 246 [some (vR 80), some (vz m_at), some (vz 1), some (vz m_taped), some (vz 10)] [vz (-1)] _
                  exfalso; omega
              · cases hv
                rw [hGe]
                change ab_W _ _ _ G242 195 [some (vR 80), some (vz m_at), some (vz 1), some (vz m_taped), none] [vz 0] _
                refine zz_if_eq (tgt := 203) d_MO_posix_195 (by decide) (by decide) (fun c432 => ?_) (fun c432 => absurd c432 (by decide))
                refine ab_aload_n d_MO_posix_203 rfl ?_
                refine ab_getf (fs := mof m_thrown m_taped m_length m_out m_wide m_gathered m_sets m_ranges m_nodes ((m_at + 2) + 1) m_flags m_fault m_place m_numbered m_depth m_value m_isNot m_least0 m_most0 m_slot m_work m_got m_rowMany m_charAt m_charWide m_trail m_isMatch m_matchGroups m_allFrom m_allBefore m_founds m_pieces m_writtenMany m_templateWide m_tooMuch) f_MO_19 d_MO_posix_204 h80.2.2 rfl ?_
                refine ab_aload_n d_MO_posix_207 rfl ?_
                refine ab_getf (fs := mof m_thrown m_taped m_length m_out m_wide m_gathered m_sets m_ranges m_nodes ((m_at + 2) + 1) m_flags m_fault m_place m_numbered m_depth m_value m_isNot m_least0 m_most0 m_slot m_work m_got m_rowMany m_charAt m_charWide m_trail m_isMatch m_matchGroups m_allFrom m_allBefore m_founds m_pieces m_writtenMany m_templateWide m_tooMuch) f_MO_279 d_MO_posix_208 h80.2.2 rfl ?_
                refine ab_iload_n d_MO_posix_211 rfl ?_
                refine zz_bipush d_MO_posix_212 (by decide) ?_
                refine zz_bipush d_MO_posix_214 (by decide) ?_
                refine zz_bipush d_MO_posix_216 (by decide) ?_
                refine zz_bipush d_MO_posix_218 (by decide) ?_
                refine zz_bipush d_MO_posix_220 (by decide) ?_
                refine ab_callS (d' := d - 1) (as := [vR 84, vz ((m_at + 2) + 1), vz m_taped, vz 115, vz 112, vz 97, vz 99, vz 101]) (st := []) (z_MO_spells (o := o) (ar := 84) (la := 284) (m := 2000) (f := A_tape) (p := ((m_at + 2) + 1)) (n := m_taped) (c1 := 115) (c2 := 112) (c3 := 97) (c4 := 99) (c5 := 101) h84 (by omega) (by omega) jtp (by omega)) (fun oc G2 h => by rcases h with ⟨h, _⟩ | ⟨h, _⟩ <;> exact ⟨_, h⟩) (by omega) m_MO_spells ml_MO_333 st_MO_spells (Nat.le_of_ble_eq_true rfl) d_MO_posix_222 rfl ?_
                intro v G433 hq
                rcases hq with ⟨hv, hGe, hq434, hq435⟩ | ⟨hv, hGe, hq436⟩
                · cases hv
                  rw [hGe]
                  change ab_W _ _ _ G242 225 [some (vR 80), some (vz m_at), some (vz 1), some (vz m_taped), none] [vz 1] _
                  refine zz_if_eq (tgt := 233) d_MO_posix_225 (by decide) (by decide) (fun c437 => absurd c437 (by decide)) (fun c437 => ?_)
                  refine zz_bipush d_MO_posix_228 (by decide) ?_
                  refine ab_goto (tgt := 234) d_MO_posix_230 (by decide) ?_
                  refine ab_istore d_MO_posix_234 (Nat.le_of_ble_eq_true rfl) (Nat.le_of_ble_eq_true rfl) rfl ?_
                  change ab_W _ _ _ G242 236 [some (vR 80), some (vz m_at), some (vz 1), some (vz m_taped), some (vz 11)] [] _
                  refine ab_iload d_MO_posix_236 rfl ?_
                  refine zz_if_lt (tgt := 262) d_MO_posix_238 (by decide) (by decide) (fun c438 => absurd c438 (by decide)) (fun c438 => ?_)
                  refine ab_aload_n d_MO_posix_241 rfl ?_
                  refine zz_iconst d_MO_posix_242 ?_
                  refine ab_callV (d' := d - 1) (as := [vz 5]) (st := []) (r := _) (z_MO_here (o := o) (m_thrown := m_thrown) (m_taped := m_taped) (m_length := m_length) (m_out := m_out) (m_wide := m_wide) (m_gathered := m_gathered) (m_sets := m_sets) (m_ranges := m_ranges) (m_nodes := m_nodes) (m_at := ((m_at + 2) + 1)) (m_flags := m_flags) (m_fault := m_fault) (m_place := m_place) (m_numbered := m_numbered) (m_depth := m_depth) (m_value := m_value) (m_isNot := m_isNot) (m_least0 := m_least0) (m_most0 := m_most0) (m_slot := m_slot) (m_work := m_work) (m_got := m_got) (m_rowMany := m_rowMany) (m_charAt := m_charAt) (m_charWide := m_charWide) (m_trail := m_trail) (m_isMatch := m_isMatch) (m_matchGroups := m_matchGroups) (m_allFrom := m_allFrom) (m_allBefore := m_allBefore) (m_founds := m_founds) (m_pieces := m_pieces) (m_writtenMany := m_writtenMany) (m_templateWide := m_templateWide) (m_tooMuch := m_tooMuch) (A_tape := A_tape) (k := 5) (qh := (m_at + 8)) h80 h84 (by omega) (by omega) jtp (by omega) (by omega)) (fun oc G2 h => by rcases h with ⟨h, _⟩ | ⟨h, _⟩ <;> exact ⟨_, h⟩) (by omega) m_MO_here ml_MO_297 im_MO_here se_MO_here c_MO h80.2.2 (Nat.le_of_ble_eq_true rfl) d_MO_posix_243 rfl ?_
                  intro v G439 hq
                  rcases hq with ⟨hv, hGe, hq440⟩ | ⟨hv, hGe, hq441, hq442⟩
                  · cases hv
                    rw [hGe]
                    change ab_W _ _ _ G242 246 [some (vR 80), some (vz m_at), some (vz 1), some (vz m_taped), some (vz 11)] [vz (tpk A_tape m_taped (m_at + 8))] _
                    refine zz_bipush d_MO_posix_246 (by decide) ?_
                    refine zz_icmp_ne (tgt := 262) d_MO_posix_248 (by decide) (by omega) (by decide) (fun c443 => ?_) (fun c443 => ?_)
                    · refine ab_aload_n d_MO_posix_262 rfl ?_
                      refine zz_bipush d_MO_posix_263 (by decide) ?_
                      refine ab_iload_n d_MO_posix_265 rfl ?_
                      refine ab_callV (d' := d - 1) (as := [vz 7, vz m_at]) (st := []) (r := _) (z_MO_wrong (o := o) (m_thrown := m_thrown) (m_taped := m_taped) (m_length := m_length) (m_out := m_out) (m_wide := m_wide) (m_gathered := m_gathered) (m_sets := m_sets) (m_ranges := m_ranges) (m_nodes := m_nodes) (m_at := ((m_at + 2) + 1)) (m_flags := m_flags) (m_fault := m_fault) (m_place := m_place) (m_numbered := m_numbered) (m_depth := m_depth) (m_value := m_value) (m_isNot := m_isNot) (m_least0 := m_least0) (m_most0 := m_most0) (m_slot := m_slot) (m_work := m_work) (m_got := m_got) (m_rowMany := m_rowMany) (m_charAt := m_charAt) (m_charWide := m_charWide) (m_trail := m_trail) (m_isMatch := m_isMatch) (m_matchGroups := m_matchGroups) (m_allFrom := m_allFrom) (m_allBefore := m_allBefore) (m_founds := m_founds) (m_pieces := m_pieces) (m_writtenMany := m_writtenMany) (m_templateWide := m_templateWide) (m_tooMuch := m_tooMuch) (x := 7) (y := m_at) h80 (by omega) (by omega)) (fun oc G2 h => by rcases h with ⟨h, _⟩ | ⟨h, _⟩ <;> exact ⟨_, h⟩) (by omega) m_MO_wrong ml_MO_304 im_MO_wrong se_MO_wrong c_MO h80.2.2 (Nat.le_of_ble_eq_true rfl) d_MO_posix_266 rfl ?_
                      intro v G444 hq
                      rcases hq with ⟨hv, hfk, hlk, hsk, hN80, hq445⟩ | ⟨hv, hGe, hq446⟩
                      · cases hv
                        have h84 := hfk.get h84 (by decide)
                        have h87 := hfk.get h87 (by decide)
                        have h88 := hfk.get h88 (by decide)
                        have h81 := hfk.get h81 (by decide)
                        have h82 := hfk.get h82 (by decide)
                        have hfr := hfr.tr hfk (by decide)
                        have hlen := hlk.trans hlen
                        have hsl := hsk.trans hsl
                        have h80 := hN80
                        change ab_W _ _ _ G444 269 [some (vR 80), some (vz m_at), some (vz 1), some (vz m_taped), some (vz 11)] [] _
                        refine ab_vret rfl d_MO_posix_269 ?_
                        rw [hQ]; exact (Or.inl ⟨_, _, _, rfl, hfr, hlen, hsl, h80, h87, h88, (by omega), (by omega), (by exact nk_i (b0 := ((m_at + 2) + 1)) (by omega) (nk_no7 (by rw [show ((m_at + 2) + 1) + 5 = m_at + 8 by omega, show ((m_at + 2) + 1) + 6 = m_at + 9 by omega]; omega)))⟩)
                      · cases hv
                        rw [hGe]
                        change ab_W _ _ _ G242 269 [some (vR 80), some (vz m_at), some (vz 1), some (vz m_taped), some (vz 11)] [] _
                        exfalso; omega
                    · refine ab_aload_n d_MO_posix_251 rfl ?_
                      refine zz_bipush d_MO_posix_252 (by decide) ?_
                      refine ab_callV (d' := d - 1) (as := [vz 6]) (st := []) (r := _) (z_MO_here (o := o) (m_thrown := m_thrown) (m_taped := m_taped) (m_length := m_length) (m_out := m_out) (m_wide := m_wide) (m_gathered := m_gathered) (m_sets := m_sets) (m_ranges := m_ranges) (m_nodes := m_nodes) (m_at := ((m_at + 2) + 1)) (m_flags := m_flags) (m_fault := m_fault) (m_place := m_place) (m_numbered := m_numbered) (m_depth := m_depth) (m_value := m_value) (m_isNot := m_isNot) (m_least0 := m_least0) (m_most0 := m_most0) (m_slot := m_slot) (m_work := m_work) (m_got := m_got) (m_rowMany := m_rowMany) (m_charAt := m_charAt) (m_charWide := m_charWide) (m_trail := m_trail) (m_isMatch := m_isMatch) (m_matchGroups := m_matchGroups) (m_allFrom := m_allFrom) (m_allBefore := m_allBefore) (m_founds := m_founds) (m_pieces := m_pieces) (m_writtenMany := m_writtenMany) (m_templateWide := m_templateWide) (m_tooMuch := m_tooMuch) (A_tape := A_tape) (k := 6) (qh := (m_at + 9)) h80 h84 (by omega) (by omega) jtp (by omega) (by omega)) (fun oc G2 h => by rcases h with ⟨h, _⟩ | ⟨h, _⟩ <;> exact ⟨_, h⟩) (by omega) m_MO_here ml_MO_297 im_MO_here se_MO_here c_MO h80.2.2 (Nat.le_of_ble_eq_true rfl) d_MO_posix_254 rfl ?_
                      intro v G447 hq
                      rcases hq with ⟨hv, hGe, hq448⟩ | ⟨hv, hGe, hq449, hq450⟩
                      · cases hv
                        rw [hGe]
                        change ab_W _ _ _ G242 257 [some (vR 80), some (vz m_at), some (vz 1), some (vz m_taped), some (vz 11)] [vz (tpk A_tape m_taped (m_at + 9))] _
                        refine zz_bipush d_MO_posix_257 (by decide) ?_
                        refine zz_icmp_eq (tgt := 270) d_MO_posix_259 (by decide) (by omega) (by decide) (fun c451 => ?_) (fun c451 => ?_)
                        · refine ab_aload_n d_MO_posix_270 rfl ?_
                          refine ab_iload d_MO_posix_271 rfl ?_
                          refine ab_iload_n d_MO_posix_273 rfl ?_
                          refine ab_callV (d' := d - 1) (as := [vz 11, vz 1]) (st := []) (r := _) (z_MO_gatherNamed (o := o) (m_thrown := m_thrown) (m_taped := m_taped) (m_length := m_length) (m_out := m_out) (m_wide := m_wide) (m_gathered := m_gathered) (m_sets := m_sets) (m_ranges := m_ranges) (m_nodes := m_nodes) (m_at := ((m_at + 2) + 1)) (m_flags := m_flags) (m_fault := m_fault) (m_place := m_place) (m_numbered := m_numbered) (m_depth := m_depth) (m_value := m_value) (m_isNot := m_isNot) (m_least0 := m_least0) (m_most0 := m_most0) (m_slot := m_slot) (m_work := m_work) (m_got := m_got) (m_rowMany := m_rowMany) (m_charAt := m_charAt) (m_charWide := m_charWide) (m_trail := m_trail) (m_isMatch := m_isMatch) (m_matchGroups := m_matchGroups) (m_allFrom := m_allFrom) (m_allBefore := m_allBefore) (m_founds := m_founds) (m_pieces := m_pieces) (m_writtenMany := m_writtenMany) (m_templateWide := m_templateWide) (m_tooMuch := m_tooMuch) (LO := LO) (HI := HI) (MK := MK) (P := P) (x := 0) (w := 11) (nt := 1) (mm := mm) h80 h87 h88 h81 h82 (by omega) (by omega) jc jl (by omega)) (fun oc G2 h => by rcases h with ⟨_, _, _, _, h, _⟩ <;> exact ⟨_, h⟩) (by omega) m_MO_gatherNamed ml_MO_337 im_MO_gatherNamed se_MO_gatherNamed c_MO h80.2.2 (Nat.le_of_ble_eq_true rfl) d_MO_posix_274 rfl ?_
                          intro v G452 hq
                          rcases hq with ⟨g2453, LO2454, HI2455, P2456, hv, hfk, hlk, hsk, hN80, hN87, hN88, hq457, hq458, hq459, hq460, hq461⟩
                          cases hv
                          have h84 := hfk.get h84 (by decide)
                          have h81 := hfk.get h81 (by decide)
                          have h82 := hfk.get h82 (by decide)
                          have hfr := hfr.tr hfk (by decide)
                          have hlen := hlk.trans hlen
                          have hsl := hsk.trans hsl
                          have h80 := hN80
                          have h87 := hN87
                          have h88 := hN88
                          change ab_W _ _ _ G452 277 [some (vR 80), some (vz m_at), some (vz 1), some (vz m_taped), some (vz 11)] [] _
                          refine ab_aload_n d_MO_posix_277 rfl ?_
                          refine ab_dup d_MO_posix_278 rfl ?_
                          refine ab_getf (fs := mof m_thrown m_taped m_length m_out m_wide g2453 m_sets m_ranges m_nodes ((m_at + 2) + 1) m_flags m_fault m_place m_numbered m_depth m_value m_isNot m_least0 m_most0 m_slot m_work m_got m_rowMany m_charAt m_charWide m_trail m_isMatch m_matchGroups m_allFrom m_allBefore m_founds m_pieces m_writtenMany m_templateWide m_tooMuch) f_MO_279 d_MO_posix_279 h80.2.2 rfl ?_
                          refine zz_bipush d_MO_posix_282 (by decide) ?_
                          refine zz_iadd d_MO_posix_284 ?_
                          refine ab_putf (fs := mof m_thrown m_taped m_length m_out m_wide g2453 m_sets m_ranges m_nodes ((m_at + 2) + 1) m_flags m_fault m_place m_numbered m_depth m_value m_isNot m_least0 m_most0 m_slot m_work m_got m_rowMany m_charAt m_charWide m_trail m_isMatch m_matchGroups m_allFrom m_allBefore m_founds m_pieces m_writtenMany m_templateWide m_tooMuch) f_MO_279 (Or.inl rfl) d_MO_posix_285 h80.2.2 (Nat.le_of_ble_eq_true rfl) (fun _ => ⟨rfl, rfl⟩) (h80.2.1 (by decide)) ?_
                          obtain ⟨G462, eG462⟩ : ∃ z : ab_G, z = List.set G452 80 (ab_ob 12 (mof m_thrown m_taped m_length m_out m_wide g2453 m_sets m_ranges m_nodes (((m_at + 2) + 1) + 7) m_flags m_fault m_place m_numbered m_depth m_value m_isNot m_least0 m_most0 m_slot m_work m_got m_rowMany m_charAt m_charWide m_trail m_isMatch m_matchGroups m_allFrom m_allBefore m_founds m_pieces m_writtenMany m_templateWide m_tooMuch)) := ⟨_, rfl⟩
                          have h84 := h84.keep h80 eG462 (by decide)
                          have h87 := h87.keep h80 eG462 (by decide)
                          have h88 := h88.keep h80 eG462 (by decide)
                          have h81 := h81.keep h80 eG462 (by decide)
                          have h82 := h82.keep h80 eG462 (by decide)
                          have hlen := (z_len eG462).trans hlen
                          have hsl := (z_sl h80 eG462 rfl).trans hsl
                          have hfr := hfr.wr h80 eG462 (by decide)
                          have h80 := h80.kept eG462
                          change ab_W _ _ _ (List.set G452 80 (ab_ob 12 (mof m_thrown m_taped m_length m_out m_wide g2453 m_sets m_ranges m_nodes (((m_at + 2) + 1) + 7) m_flags m_fault m_place m_numbered m_depth m_value m_isNot m_least0 m_most0 m_slot m_work m_got m_rowMany m_charAt m_charWide m_trail m_isMatch m_matchGroups m_allFrom m_allBefore m_founds m_pieces m_writtenMany m_templateWide m_tooMuch))) 288 [some (vR 80), some (vz m_at), some (vz 1), some (vz m_taped), some (vz 11)] [] _
                          rw [← eG462]
                          refine ab_vret rfl d_MO_posix_288 ?_
                          rw [hQ]; exact (Or.inr ⟨_, _, _, _, _, 12, 1, rfl, hfr, hlen, hsl, h80, h87, h88, (by exact Or.inl ⟨by omega, by omega, (by rw [show m_at + 3 = ((m_at + 2) + 1) by omega]; exact (Or.inr (Or.inr (Or.inr (Or.inr (Or.inr ⟨rfl, (nm_of (by omega) hq434 (by rw [show ((m_at + 2) + 1) + 5 = m_at + 8 by omega]; omega) (by rw [show ((m_at + 2) + 1) + 6 = m_at + 9 by omega]; omega))⟩)))))), by omega⟩), (by exact kor (w := 11) (by omega) (by omega) hq461), (by omega), (by exact hq459), (by exact lfc_w hq460 (by omega))⟩)
                        · refine ab_aload_n d_MO_posix_262 rfl ?_
                          refine zz_bipush d_MO_posix_263 (by decide) ?_
                          refine ab_iload_n d_MO_posix_265 rfl ?_
                          refine ab_callV (d' := d - 1) (as := [vz 7, vz m_at]) (st := []) (r := _) (z_MO_wrong (o := o) (m_thrown := m_thrown) (m_taped := m_taped) (m_length := m_length) (m_out := m_out) (m_wide := m_wide) (m_gathered := m_gathered) (m_sets := m_sets) (m_ranges := m_ranges) (m_nodes := m_nodes) (m_at := ((m_at + 2) + 1)) (m_flags := m_flags) (m_fault := m_fault) (m_place := m_place) (m_numbered := m_numbered) (m_depth := m_depth) (m_value := m_value) (m_isNot := m_isNot) (m_least0 := m_least0) (m_most0 := m_most0) (m_slot := m_slot) (m_work := m_work) (m_got := m_got) (m_rowMany := m_rowMany) (m_charAt := m_charAt) (m_charWide := m_charWide) (m_trail := m_trail) (m_isMatch := m_isMatch) (m_matchGroups := m_matchGroups) (m_allFrom := m_allFrom) (m_allBefore := m_allBefore) (m_founds := m_founds) (m_pieces := m_pieces) (m_writtenMany := m_writtenMany) (m_templateWide := m_templateWide) (m_tooMuch := m_tooMuch) (x := 7) (y := m_at) h80 (by omega) (by omega)) (fun oc G2 h => by rcases h with ⟨h, _⟩ | ⟨h, _⟩ <;> exact ⟨_, h⟩) (by omega) m_MO_wrong ml_MO_304 im_MO_wrong se_MO_wrong c_MO h80.2.2 (Nat.le_of_ble_eq_true rfl) d_MO_posix_266 rfl ?_
                          intro v G463 hq
                          rcases hq with ⟨hv, hfk, hlk, hsk, hN80, hq464⟩ | ⟨hv, hGe, hq465⟩
                          · cases hv
                            have h84 := hfk.get h84 (by decide)
                            have h87 := hfk.get h87 (by decide)
                            have h88 := hfk.get h88 (by decide)
                            have h81 := hfk.get h81 (by decide)
                            have h82 := hfk.get h82 (by decide)
                            have hfr := hfr.tr hfk (by decide)
                            have hlen := hlk.trans hlen
                            have hsl := hsk.trans hsl
                            have h80 := hN80
                            change ab_W _ _ _ G463 269 [some (vR 80), some (vz m_at), some (vz 1), some (vz m_taped), some (vz 11)] [] _
                            refine ab_vret rfl d_MO_posix_269 ?_
                            rw [hQ]; exact (Or.inl ⟨_, _, _, rfl, hfr, hlen, hsl, h80, h87, h88, (by omega), (by omega), (by exact nk_i (b0 := ((m_at + 2) + 1)) (by omega) (nk_no7 (by rw [show ((m_at + 2) + 1) + 5 = m_at + 8 by omega, show ((m_at + 2) + 1) + 6 = m_at + 9 by omega]; omega)))⟩)
                          · cases hv
                            rw [hGe]
                            change ab_W _ _ _ G242 269 [some (vR 80), some (vz m_at), some (vz 1), some (vz m_taped), some (vz 11)] [] _
                            exfalso; omega
                      · cases hv
                        rw [hGe]
                        change ab_W _ _ _ G242 257 [some (vR 80), some (vz m_at), some (vz 1), some (vz m_taped), some (vz 11)] [vz (-1)] _
                        refine zz_bipush d_MO_posix_257 (by decide) ?_
                        refine zz_icmp_eq (tgt := 270) d_MO_posix_259 (by decide) (by decide) (by decide) (fun c466 => absurd c466 (by decide)) (fun c466 => ?_)
                        refine ab_aload_n d_MO_posix_262 rfl ?_
                        refine zz_bipush d_MO_posix_263 (by decide) ?_
                        refine ab_iload_n d_MO_posix_265 rfl ?_
                        refine ab_callV (d' := d - 1) (as := [vz 7, vz m_at]) (st := []) (r := _) (z_MO_wrong (o := o) (m_thrown := m_thrown) (m_taped := m_taped) (m_length := m_length) (m_out := m_out) (m_wide := m_wide) (m_gathered := m_gathered) (m_sets := m_sets) (m_ranges := m_ranges) (m_nodes := m_nodes) (m_at := ((m_at + 2) + 1)) (m_flags := m_flags) (m_fault := m_fault) (m_place := m_place) (m_numbered := m_numbered) (m_depth := m_depth) (m_value := m_value) (m_isNot := m_isNot) (m_least0 := m_least0) (m_most0 := m_most0) (m_slot := m_slot) (m_work := m_work) (m_got := m_got) (m_rowMany := m_rowMany) (m_charAt := m_charAt) (m_charWide := m_charWide) (m_trail := m_trail) (m_isMatch := m_isMatch) (m_matchGroups := m_matchGroups) (m_allFrom := m_allFrom) (m_allBefore := m_allBefore) (m_founds := m_founds) (m_pieces := m_pieces) (m_writtenMany := m_writtenMany) (m_templateWide := m_templateWide) (m_tooMuch := m_tooMuch) (x := 7) (y := m_at) h80 (by omega) (by omega)) (fun oc G2 h => by rcases h with ⟨h, _⟩ | ⟨h, _⟩ <;> exact ⟨_, h⟩) (by omega) m_MO_wrong ml_MO_304 im_MO_wrong se_MO_wrong c_MO h80.2.2 (Nat.le_of_ble_eq_true rfl) d_MO_posix_266 rfl ?_
                        intro v G467 hq
                        rcases hq with ⟨hv, hfk, hlk, hsk, hN80, hq468⟩ | ⟨hv, hGe, hq469⟩
                        · cases hv
                          have h84 := hfk.get h84 (by decide)
                          have h87 := hfk.get h87 (by decide)
                          have h88 := hfk.get h88 (by decide)
                          have h81 := hfk.get h81 (by decide)
                          have h82 := hfk.get h82 (by decide)
                          have hfr := hfr.tr hfk (by decide)
                          have hlen := hlk.trans hlen
                          have hsl := hsk.trans hsl
                          have h80 := hN80
                          change ab_W _ _ _ G467 269 [some (vR 80), some (vz m_at), some (vz 1), some (vz m_taped), some (vz 11)] [] _
                          refine ab_vret rfl d_MO_posix_269 ?_
                          rw [hQ]; exact (Or.inl ⟨_, _, _, rfl, hfr, hlen, hsl, h80, h87, h88, (by omega), (by omega), (by exact nk_i (b0 := ((m_at + 2) + 1)) (by omega) (nk_no7 (by rw [show ((m_at + 2) + 1) + 5 = m_at + 8 by omega, show ((m_at + 2) + 1) + 6 = m_at + 9 by omega]; omega)))⟩)
                        · cases hv
                          rw [hGe]
                          change ab_W _ _ _ G242 269 [some (vR 80), some (vz m_at), some (vz 1), some (vz m_taped), some (vz 11)] [] _
                          exfalso; omega
                  · cases hv
                    rw [hGe]
                    change ab_W _ _ _ G242 246 [some (vR 80), some (vz m_at), some (vz 1), some (vz m_taped), some (vz 11)] [vz (-1)] _
                    exfalso; omega
                · cases hv
                  rw [hGe]
                  change ab_W _ _ _ G242 225 [some (vR 80), some (vz m_at), some (vz 1), some (vz m_taped), none] [vz 0] _
                  refine zz_if_eq (tgt := 233) d_MO_posix_225 (by decide) (by decide) (fun c470 => ?_) (fun c470 => absurd c470 (by decide))
                  refine zz_iconst d_MO_posix_233 ?_
                  refine ab_istore d_MO_posix_234 (Nat.le_of_ble_eq_true rfl) (Nat.le_of_ble_eq_true rfl) rfl ?_
                  change ab_W _ _ _ G242 236 [some (vR 80), some (vz m_at), some (vz 1), some (vz m_taped), some (vz (-1))] [] _
                  refine ab_iload d_MO_posix_236 rfl ?_
                  refine zz_if_lt (tgt := 262) d_MO_posix_238 (by decide) (by decide) (fun c471 => ?_) (fun c471 => absurd c471 (by decide))
                  refine ab_aload_n d_MO_posix_262 rfl ?_
                  refine zz_bipush d_MO_posix_263 (by decide) ?_
                  refine ab_iload_n d_MO_posix_265 rfl ?_
                  refine ab_callV (d' := d - 1) (as := [vz 7, vz m_at]) (st := []) (r := _) (z_MO_wrong (o := o) (m_thrown := m_thrown) (m_taped := m_taped) (m_length := m_length) (m_out := m_out) (m_wide := m_wide) (m_gathered := m_gathered) (m_sets := m_sets) (m_ranges := m_ranges) (m_nodes := m_nodes) (m_at := ((m_at + 2) + 1)) (m_flags := m_flags) (m_fault := m_fault) (m_place := m_place) (m_numbered := m_numbered) (m_depth := m_depth) (m_value := m_value) (m_isNot := m_isNot) (m_least0 := m_least0) (m_most0 := m_most0) (m_slot := m_slot) (m_work := m_work) (m_got := m_got) (m_rowMany := m_rowMany) (m_charAt := m_charAt) (m_charWide := m_charWide) (m_trail := m_trail) (m_isMatch := m_isMatch) (m_matchGroups := m_matchGroups) (m_allFrom := m_allFrom) (m_allBefore := m_allBefore) (m_founds := m_founds) (m_pieces := m_pieces) (m_writtenMany := m_writtenMany) (m_templateWide := m_templateWide) (m_tooMuch := m_tooMuch) (x := 7) (y := m_at) h80 (by omega) (by omega)) (fun oc G2 h => by rcases h with ⟨h, _⟩ | ⟨h, _⟩ <;> exact ⟨_, h⟩) (by omega) m_MO_wrong ml_MO_304 im_MO_wrong se_MO_wrong c_MO h80.2.2 (Nat.le_of_ble_eq_true rfl) d_MO_posix_266 rfl ?_
                  intro v G472 hq
                  rcases hq with ⟨hv, hfk, hlk, hsk, hN80, hq473⟩ | ⟨hv, hGe, hq474⟩
                  · cases hv
                    have h84 := hfk.get h84 (by decide)
                    have h87 := hfk.get h87 (by decide)
                    have h88 := hfk.get h88 (by decide)
                    have h81 := hfk.get h81 (by decide)
                    have h82 := hfk.get h82 (by decide)
                    have hfr := hfr.tr hfk (by decide)
                    have hlen := hlk.trans hlen
                    have hsl := hsk.trans hsl
                    have h80 := hN80
                    change ab_W _ _ _ G472 269 [some (vR 80), some (vz m_at), some (vz 1), some (vz m_taped), some (vz (-1))] [] _
                    refine ab_vret rfl d_MO_posix_269 ?_
                    rw [hQ]; exact (Or.inl ⟨_, _, _, rfl, hfr, hlen, hsl, h80, h87, h88, (by omega), (by omega), (by exact nk_i (b0 := ((m_at + 2) + 1)) (by omega) (nk_no6 hq246 hq284 hq322 hq360 hq398 hq436))⟩)
                  · cases hv
                    rw [hGe]
                    change ab_W _ _ _ G242 269 [some (vR 80), some (vz m_at), some (vz 1), some (vz m_taped), some (vz (-1))] [] _
                    exfalso; omega
  · cases hv
    rw [hGe]
    change ab_W _ _ _ G1 20 [some (vR 80), some (vz m_at), none, none, none] [vz (-1)] _
    refine zz_bipush d_MO_posix_20 (by decide) ?_
    refine zz_icmp_ne (tgt := 29) d_MO_posix_22 (by decide) (by decide) (by decide) (fun c475 => ?_) (fun c475 => absurd c475 (by decide))
    refine zz_iconst d_MO_posix_29 ?_
    refine ab_istore_n d_MO_posix_30 (Nat.le_of_ble_eq_true rfl) (Nat.le_of_ble_eq_true rfl) rfl ?_
    change ab_W _ _ _ G1 31 [some (vR 80), some (vz m_at), some (vz 0), none, none] [] _
    refine ab_aload_n d_MO_posix_31 rfl ?_
    refine ab_dup d_MO_posix_32 rfl ?_
    refine ab_getf (fs := mof m_thrown m_taped m_length m_out m_wide m_gathered m_sets m_ranges m_nodes (m_at + 2) m_flags m_fault m_place m_numbered m_depth m_value m_isNot m_least0 m_most0 m_slot m_work m_got m_rowMany m_charAt m_charWide m_trail m_isMatch m_matchGroups m_allFrom m_allBefore m_founds m_pieces m_writtenMany m_templateWide m_tooMuch) f_MO_279 d_MO_posix_33 h80.2.2 rfl ?_
    refine ab_iload_n d_MO_posix_36 rfl ?_
    refine zz_if_eq (tgt := 44) d_MO_posix_37 (by decide) (by decide) (fun c476 => ?_) (fun c476 => absurd c476 (by decide))
    refine zz_iconst d_MO_posix_44 ?_
    refine zz_iadd d_MO_posix_45 ?_
    refine ab_putf (fs := mof m_thrown m_taped m_length m_out m_wide m_gathered m_sets m_ranges m_nodes (m_at + 2) m_flags m_fault m_place m_numbered m_depth m_value m_isNot m_least0 m_most0 m_slot m_work m_got m_rowMany m_charAt m_charWide m_trail m_isMatch m_matchGroups m_allFrom m_allBefore m_founds m_pieces m_writtenMany m_templateWide m_tooMuch) f_MO_279 (Or.inl rfl) d_MO_posix_46 h80.2.2 (Nat.le_of_ble_eq_true rfl) (fun _ => ⟨rfl, rfl⟩) (h80.2.1 (by decide)) ?_
    obtain ⟨G477, eG477⟩ : ∃ z : ab_G, z = List.set G1 80 (ab_ob 12 (mof m_thrown m_taped m_length m_out m_wide m_gathered m_sets m_ranges m_nodes ((m_at + 2) + 0) m_flags m_fault m_place m_numbered m_depth m_value m_isNot m_least0 m_most0 m_slot m_work m_got m_rowMany m_charAt m_charWide m_trail m_isMatch m_matchGroups m_allFrom m_allBefore m_founds m_pieces m_writtenMany m_templateWide m_tooMuch)) := ⟨_, rfl⟩
    have h84 := h84.keep h80 eG477 (by decide)
    have h87 := h87.keep h80 eG477 (by decide)
    have h88 := h88.keep h80 eG477 (by decide)
    have h81 := h81.keep h80 eG477 (by decide)
    have h82 := h82.keep h80 eG477 (by decide)
    have hlen := (z_len eG477).trans hlen
    have hsl := (z_sl h80 eG477 rfl).trans hsl
    have hfr := hfr.wr h80 eG477 (by decide)
    have h80 := h80.kept eG477
    change ab_W _ _ _ (List.set G1 80 (ab_ob 12 (mof m_thrown m_taped m_length m_out m_wide m_gathered m_sets m_ranges m_nodes ((m_at + 2) + 0) m_flags m_fault m_place m_numbered m_depth m_value m_isNot m_least0 m_most0 m_slot m_work m_got m_rowMany m_charAt m_charWide m_trail m_isMatch m_matchGroups m_allFrom m_allBefore m_founds m_pieces m_writtenMany m_templateWide m_tooMuch))) 49 [some (vR 80), some (vz m_at), some (vz 0), none, none] [] _
    rw [← eG477]
    refine ab_aload_n d_MO_posix_49 rfl ?_
    refine ab_getf (fs := mof m_thrown m_taped m_length m_out m_wide m_gathered m_sets m_ranges m_nodes ((m_at + 2) + 0) m_flags m_fault m_place m_numbered m_depth m_value m_isNot m_least0 m_most0 m_slot m_work m_got m_rowMany m_charAt m_charWide m_trail m_isMatch m_matchGroups m_allFrom m_allBefore m_founds m_pieces m_writtenMany m_templateWide m_tooMuch) f_MO_223 d_MO_posix_50 h80.2.2 rfl ?_
    refine ab_istore_n d_MO_posix_53 (Nat.le_of_ble_eq_true rfl) (Nat.le_of_ble_eq_true rfl) rfl ?_
    change ab_W _ _ _ G477 54 [some (vR 80), some (vz m_at), some (vz 0), some (vz m_taped), none] [] _
    refine ab_aload_n d_MO_posix_54 rfl ?_
    refine ab_getf (fs := mof m_thrown m_taped m_length m_out m_wide m_gathered m_sets m_ranges m_nodes ((m_at + 2) + 0) m_flags m_fault m_place m_numbered m_depth m_value m_isNot m_least0 m_most0 m_slot m_work m_got m_rowMany m_charAt m_charWide m_trail m_isMatch m_matchGroups m_allFrom m_allBefore m_founds m_pieces m_writtenMany m_templateWide m_tooMuch) f_MO_19 d_MO_posix_55 h80.2.2 rfl ?_
    refine ab_aload_n d_MO_posix_58 rfl ?_
    refine ab_getf (fs := mof m_thrown m_taped m_length m_out m_wide m_gathered m_sets m_ranges m_nodes ((m_at + 2) + 0) m_flags m_fault m_place m_numbered m_depth m_value m_isNot m_least0 m_most0 m_slot m_work m_got m_rowMany m_charAt m_charWide m_trail m_isMatch m_matchGroups m_allFrom m_allBefore m_founds m_pieces m_writtenMany m_templateWide m_tooMuch) f_MO_279 d_MO_posix_59 h80.2.2 rfl ?_
    refine ab_iload_n d_MO_posix_62 rfl ?_
    refine zz_bipush d_MO_posix_63 (by decide) ?_
    refine zz_bipush d_MO_posix_65 (by decide) ?_
    refine zz_bipush d_MO_posix_67 (by decide) ?_
    refine zz_bipush d_MO_posix_69 (by decide) ?_
    refine zz_bipush d_MO_posix_71 (by decide) ?_
    refine ab_callS (d' := d - 1) (as := [vR 84, vz ((m_at + 2) + 0), vz m_taped, vz 100, vz 105, vz 103, vz 105, vz 116]) (st := []) (z_MO_spells (o := o) (ar := 84) (la := 284) (m := 2000) (f := A_tape) (p := ((m_at + 2) + 0)) (n := m_taped) (c1 := 100) (c2 := 105) (c3 := 103) (c4 := 105) (c5 := 116) h84 (by omega) (by omega) jtp (by omega)) (fun oc G2 h => by rcases h with ⟨h, _⟩ | ⟨h, _⟩ <;> exact ⟨_, h⟩) (by omega) m_MO_spells ml_MO_333 st_MO_spells (Nat.le_of_ble_eq_true rfl) d_MO_posix_73 rfl ?_
    intro v G478 hq
    rcases hq with ⟨hv, hGe, hq479, hq480⟩ | ⟨hv, hGe, hq481⟩
    · cases hv
      rw [hGe]
      change ab_W _ _ _ G477 76 [some (vR 80), some (vz m_at), some (vz 0), some (vz m_taped), none] [vz 1] _
      exfalso; omega
    · cases hv
      rw [hGe]
      change ab_W _ _ _ G477 76 [some (vR 80), some (vz m_at), some (vz 0), some (vz m_taped), none] [vz 0] _
      refine zz_if_eq (tgt := 83) d_MO_posix_76 (by decide) (by decide) (fun c482 => ?_) (fun c482 => absurd c482 (by decide))
      refine ab_aload_n d_MO_posix_83 rfl ?_
      refine ab_getf (fs := mof m_thrown m_taped m_length m_out m_wide m_gathered m_sets m_ranges m_nodes ((m_at + 2) + 0) m_flags m_fault m_place m_numbered m_depth m_value m_isNot m_least0 m_most0 m_slot m_work m_got m_rowMany m_charAt m_charWide m_trail m_isMatch m_matchGroups m_allFrom m_allBefore m_founds m_pieces m_writtenMany m_templateWide m_tooMuch) f_MO_19 d_MO_posix_84 h80.2.2 rfl ?_
      refine ab_aload_n d_MO_posix_87 rfl ?_
      refine ab_getf (fs := mof m_thrown m_taped m_length m_out m_wide m_gathered m_sets m_ranges m_nodes ((m_at + 2) + 0) m_flags m_fault m_place m_numbered m_depth m_value m_isNot m_least0 m_most0 m_slot m_work m_got m_rowMany m_charAt m_charWide m_trail m_isMatch m_matchGroups m_allFrom m_allBefore m_founds m_pieces m_writtenMany m_templateWide m_tooMuch) f_MO_279 d_MO_posix_88 h80.2.2 rfl ?_
      refine ab_iload_n d_MO_posix_91 rfl ?_
      refine zz_bipush d_MO_posix_92 (by decide) ?_
      refine zz_bipush d_MO_posix_94 (by decide) ?_
      refine zz_bipush d_MO_posix_96 (by decide) ?_
      refine zz_bipush d_MO_posix_98 (by decide) ?_
      refine zz_bipush d_MO_posix_100 (by decide) ?_
      refine ab_callS (d' := d - 1) (as := [vR 84, vz ((m_at + 2) + 0), vz m_taped, vz 97, vz 108, vz 112, vz 104, vz 97]) (st := []) (z_MO_spells (o := o) (ar := 84) (la := 284) (m := 2000) (f := A_tape) (p := ((m_at + 2) + 0)) (n := m_taped) (c1 := 97) (c2 := 108) (c3 := 112) (c4 := 104) (c5 := 97) h84 (by omega) (by omega) jtp (by omega)) (fun oc G2 h => by rcases h with ⟨h, _⟩ | ⟨h, _⟩ <;> exact ⟨_, h⟩) (by omega) m_MO_spells ml_MO_333 st_MO_spells (Nat.le_of_ble_eq_true rfl) d_MO_posix_102 rfl ?_
      intro v G483 hq
      rcases hq with ⟨hv, hGe, hq484, hq485⟩ | ⟨hv, hGe, hq486⟩
      · cases hv
        rw [hGe]
        change ab_W _ _ _ G477 105 [some (vR 80), some (vz m_at), some (vz 0), some (vz m_taped), none] [vz 1] _
        exfalso; omega
      · cases hv
        rw [hGe]
        change ab_W _ _ _ G477 105 [some (vR 80), some (vz m_at), some (vz 0), some (vz m_taped), none] [vz 0] _
        refine zz_if_eq (tgt := 113) d_MO_posix_105 (by decide) (by decide) (fun c487 => ?_) (fun c487 => absurd c487 (by decide))
        refine ab_aload_n d_MO_posix_113 rfl ?_
        refine ab_getf (fs := mof m_thrown m_taped m_length m_out m_wide m_gathered m_sets m_ranges m_nodes ((m_at + 2) + 0) m_flags m_fault m_place m_numbered m_depth m_value m_isNot m_least0 m_most0 m_slot m_work m_got m_rowMany m_charAt m_charWide m_trail m_isMatch m_matchGroups m_allFrom m_allBefore m_founds m_pieces m_writtenMany m_templateWide m_tooMuch) f_MO_19 d_MO_posix_114 h80.2.2 rfl ?_
        refine ab_aload_n d_MO_posix_117 rfl ?_
        refine ab_getf (fs := mof m_thrown m_taped m_length m_out m_wide m_gathered m_sets m_ranges m_nodes ((m_at + 2) + 0) m_flags m_fault m_place m_numbered m_depth m_value m_isNot m_least0 m_most0 m_slot m_work m_got m_rowMany m_charAt m_charWide m_trail m_isMatch m_matchGroups m_allFrom m_allBefore m_founds m_pieces m_writtenMany m_templateWide m_tooMuch) f_MO_279 d_MO_posix_118 h80.2.2 rfl ?_
        refine ab_iload_n d_MO_posix_121 rfl ?_
        refine zz_bipush d_MO_posix_122 (by decide) ?_
        refine zz_bipush d_MO_posix_124 (by decide) ?_
        refine zz_bipush d_MO_posix_126 (by decide) ?_
        refine zz_bipush d_MO_posix_128 (by decide) ?_
        refine zz_bipush d_MO_posix_130 (by decide) ?_
        refine ab_callS (d' := d - 1) (as := [vR 84, vz ((m_at + 2) + 0), vz m_taped, vz 117, vz 112, vz 112, vz 101, vz 114]) (st := []) (z_MO_spells (o := o) (ar := 84) (la := 284) (m := 2000) (f := A_tape) (p := ((m_at + 2) + 0)) (n := m_taped) (c1 := 117) (c2 := 112) (c3 := 112) (c4 := 101) (c5 := 114) h84 (by omega) (by omega) jtp (by omega)) (fun oc G2 h => by rcases h with ⟨h, _⟩ | ⟨h, _⟩ <;> exact ⟨_, h⟩) (by omega) m_MO_spells ml_MO_333 st_MO_spells (Nat.le_of_ble_eq_true rfl) d_MO_posix_132 rfl ?_
        intro v G488 hq
        rcases hq with ⟨hv, hGe, hq489, hq490⟩ | ⟨hv, hGe, hq491⟩
        · cases hv
          rw [hGe]
          change ab_W _ _ _ G477 135 [some (vR 80), some (vz m_at), some (vz 0), some (vz m_taped), none] [vz 1] _
          exfalso; omega
        · cases hv
          rw [hGe]
          change ab_W _ _ _ G477 135 [some (vR 80), some (vz m_at), some (vz 0), some (vz m_taped), none] [vz 0] _
          refine zz_if_eq (tgt := 143) d_MO_posix_135 (by decide) (by decide) (fun c492 => ?_) (fun c492 => absurd c492 (by decide))
          refine ab_aload_n d_MO_posix_143 rfl ?_
          refine ab_getf (fs := mof m_thrown m_taped m_length m_out m_wide m_gathered m_sets m_ranges m_nodes ((m_at + 2) + 0) m_flags m_fault m_place m_numbered m_depth m_value m_isNot m_least0 m_most0 m_slot m_work m_got m_rowMany m_charAt m_charWide m_trail m_isMatch m_matchGroups m_allFrom m_allBefore m_founds m_pieces m_writtenMany m_templateWide m_tooMuch) f_MO_19 d_MO_posix_144 h80.2.2 rfl ?_
          refine ab_aload_n d_MO_posix_147 rfl ?_
          refine ab_getf (fs := mof m_thrown m_taped m_length m_out m_wide m_gathered m_sets m_ranges m_nodes ((m_at + 2) + 0) m_flags m_fault m_place m_numbered m_depth m_value m_isNot m_least0 m_most0 m_slot m_work m_got m_rowMany m_charAt m_charWide m_trail m_isMatch m_matchGroups m_allFrom m_allBefore m_founds m_pieces m_writtenMany m_templateWide m_tooMuch) f_MO_279 d_MO_posix_148 h80.2.2 rfl ?_
          refine ab_iload_n d_MO_posix_151 rfl ?_
          refine zz_bipush d_MO_posix_152 (by decide) ?_
          refine zz_bipush d_MO_posix_154 (by decide) ?_
          refine zz_bipush d_MO_posix_156 (by decide) ?_
          refine zz_bipush d_MO_posix_158 (by decide) ?_
          refine zz_bipush d_MO_posix_160 (by decide) ?_
          refine ab_callS (d' := d - 1) (as := [vR 84, vz ((m_at + 2) + 0), vz m_taped, vz 108, vz 111, vz 119, vz 101, vz 114]) (st := []) (z_MO_spells (o := o) (ar := 84) (la := 284) (m := 2000) (f := A_tape) (p := ((m_at + 2) + 0)) (n := m_taped) (c1 := 108) (c2 := 111) (c3 := 119) (c4 := 101) (c5 := 114) h84 (by omega) (by omega) jtp (by omega)) (fun oc G2 h => by rcases h with ⟨h, _⟩ | ⟨h, _⟩ <;> exact ⟨_, h⟩) (by omega) m_MO_spells ml_MO_333 st_MO_spells (Nat.le_of_ble_eq_true rfl) d_MO_posix_162 rfl ?_
          intro v G493 hq
          rcases hq with ⟨hv, hGe, hq494, hq495⟩ | ⟨hv, hGe, hq496⟩
          · cases hv
            rw [hGe]
            change ab_W _ _ _ G477 165 [some (vR 80), some (vz m_at), some (vz 0), some (vz m_taped), none] [vz 1] _
            exfalso; omega
          · cases hv
            rw [hGe]
            change ab_W _ _ _ G477 165 [some (vR 80), some (vz m_at), some (vz 0), some (vz m_taped), none] [vz 0] _
            refine zz_if_eq (tgt := 173) d_MO_posix_165 (by decide) (by decide) (fun c497 => ?_) (fun c497 => absurd c497 (by decide))
            refine ab_aload_n d_MO_posix_173 rfl ?_
            refine ab_getf (fs := mof m_thrown m_taped m_length m_out m_wide m_gathered m_sets m_ranges m_nodes ((m_at + 2) + 0) m_flags m_fault m_place m_numbered m_depth m_value m_isNot m_least0 m_most0 m_slot m_work m_got m_rowMany m_charAt m_charWide m_trail m_isMatch m_matchGroups m_allFrom m_allBefore m_founds m_pieces m_writtenMany m_templateWide m_tooMuch) f_MO_19 d_MO_posix_174 h80.2.2 rfl ?_
            refine ab_aload_n d_MO_posix_177 rfl ?_
            refine ab_getf (fs := mof m_thrown m_taped m_length m_out m_wide m_gathered m_sets m_ranges m_nodes ((m_at + 2) + 0) m_flags m_fault m_place m_numbered m_depth m_value m_isNot m_least0 m_most0 m_slot m_work m_got m_rowMany m_charAt m_charWide m_trail m_isMatch m_matchGroups m_allFrom m_allBefore m_founds m_pieces m_writtenMany m_templateWide m_tooMuch) f_MO_279 d_MO_posix_178 h80.2.2 rfl ?_
            refine ab_iload_n d_MO_posix_181 rfl ?_
            refine zz_bipush d_MO_posix_182 (by decide) ?_
            refine zz_bipush d_MO_posix_184 (by decide) ?_
            refine zz_bipush d_MO_posix_186 (by decide) ?_
            refine zz_bipush d_MO_posix_188 (by decide) ?_
            refine zz_bipush d_MO_posix_190 (by decide) ?_
            refine ab_callS (d' := d - 1) (as := [vR 84, vz ((m_at + 2) + 0), vz m_taped, vz 112, vz 117, vz 110, vz 99, vz 116]) (st := []) (z_MO_spells (o := o) (ar := 84) (la := 284) (m := 2000) (f := A_tape) (p := ((m_at + 2) + 0)) (n := m_taped) (c1 := 112) (c2 := 117) (c3 := 110) (c4 := 99) (c5 := 116) h84 (by omega) (by omega) jtp (by omega)) (fun oc G2 h => by rcases h with ⟨h, _⟩ | ⟨h, _⟩ <;> exact ⟨_, h⟩) (by omega) m_MO_spells ml_MO_333 st_MO_spells (Nat.le_of_ble_eq_true rfl) d_MO_posix_192 rfl ?_
            intro v G498 hq
            rcases hq with ⟨hv, hGe, hq499, hq500⟩ | ⟨hv, hGe, hq501⟩
            · cases hv
              rw [hGe]
              change ab_W _ _ _ G477 195 [some (vR 80), some (vz m_at), some (vz 0), some (vz m_taped), none] [vz 1] _
              exfalso; omega
            · cases hv
              rw [hGe]
              change ab_W _ _ _ G477 195 [some (vR 80), some (vz m_at), some (vz 0), some (vz m_taped), none] [vz 0] _
              refine zz_if_eq (tgt := 203) d_MO_posix_195 (by decide) (by decide) (fun c502 => ?_) (fun c502 => absurd c502 (by decide))
              refine ab_aload_n d_MO_posix_203 rfl ?_
              refine ab_getf (fs := mof m_thrown m_taped m_length m_out m_wide m_gathered m_sets m_ranges m_nodes ((m_at + 2) + 0) m_flags m_fault m_place m_numbered m_depth m_value m_isNot m_least0 m_most0 m_slot m_work m_got m_rowMany m_charAt m_charWide m_trail m_isMatch m_matchGroups m_allFrom m_allBefore m_founds m_pieces m_writtenMany m_templateWide m_tooMuch) f_MO_19 d_MO_posix_204 h80.2.2 rfl ?_
              refine ab_aload_n d_MO_posix_207 rfl ?_
              refine ab_getf (fs := mof m_thrown m_taped m_length m_out m_wide m_gathered m_sets m_ranges m_nodes ((m_at + 2) + 0) m_flags m_fault m_place m_numbered m_depth m_value m_isNot m_least0 m_most0 m_slot m_work m_got m_rowMany m_charAt m_charWide m_trail m_isMatch m_matchGroups m_allFrom m_allBefore m_founds m_pieces m_writtenMany m_templateWide m_tooMuch) f_MO_279 d_MO_posix_208 h80.2.2 rfl ?_
              refine ab_iload_n d_MO_posix_211 rfl ?_
              refine zz_bipush d_MO_posix_212 (by decide) ?_
              refine zz_bipush d_MO_posix_214 (by decide) ?_
              refine zz_bipush d_MO_posix_216 (by decide) ?_
              refine zz_bipush d_MO_posix_218 (by decide) ?_
              refine zz_bipush d_MO_posix_220 (by decide) ?_
              refine ab_callS (d' := d - 1) (as := [vR 84, vz ((m_at + 2) + 0), vz m_taped, vz 115, vz 112, vz 97, vz 99, vz 101]) (st := []) (z_MO_spells (o := o) (ar := 84) (la := 284) (m := 2000) (f := A_tape) (p := ((m_at + 2) + 0)) (n := m_taped) (c1 := 115) (c2 := 112) (c3 := 97) (c4 := 99) (c5 := 101) h84 (by omega) (by omega) jtp (by omega)) (fun oc G2 h => by rcases h with ⟨h, _⟩ | ⟨h, _⟩ <;> exact ⟨_, h⟩) (by omega) m_MO_spells ml_MO_333 st_MO_spells (Nat.le_of_ble_eq_true rfl) d_MO_posix_222 rfl ?_
              intro v G503 hq
              rcases hq with ⟨hv, hGe, hq504, hq505⟩ | ⟨hv, hGe, hq506⟩
              · cases hv
                rw [hGe]
                change ab_W _ _ _ G477 225 [some (vR 80), some (vz m_at), some (vz 0), some (vz m_taped), none] [vz 1] _
                exfalso; omega
              · cases hv
                rw [hGe]
                change ab_W _ _ _ G477 225 [some (vR 80), some (vz m_at), some (vz 0), some (vz m_taped), none] [vz 0] _
                refine zz_if_eq (tgt := 233) d_MO_posix_225 (by decide) (by decide) (fun c507 => ?_) (fun c507 => absurd c507 (by decide))
                refine zz_iconst d_MO_posix_233 ?_
                refine ab_istore d_MO_posix_234 (Nat.le_of_ble_eq_true rfl) (Nat.le_of_ble_eq_true rfl) rfl ?_
                change ab_W _ _ _ G477 236 [some (vR 80), some (vz m_at), some (vz 0), some (vz m_taped), some (vz (-1))] [] _
                refine ab_iload d_MO_posix_236 rfl ?_
                refine zz_if_lt (tgt := 262) d_MO_posix_238 (by decide) (by decide) (fun c508 => ?_) (fun c508 => absurd c508 (by decide))
                refine ab_aload_n d_MO_posix_262 rfl ?_
                refine zz_bipush d_MO_posix_263 (by decide) ?_
                refine ab_iload_n d_MO_posix_265 rfl ?_
                refine ab_callV (d' := d - 1) (as := [vz 7, vz m_at]) (st := []) (r := _) (z_MO_wrong (o := o) (m_thrown := m_thrown) (m_taped := m_taped) (m_length := m_length) (m_out := m_out) (m_wide := m_wide) (m_gathered := m_gathered) (m_sets := m_sets) (m_ranges := m_ranges) (m_nodes := m_nodes) (m_at := ((m_at + 2) + 0)) (m_flags := m_flags) (m_fault := m_fault) (m_place := m_place) (m_numbered := m_numbered) (m_depth := m_depth) (m_value := m_value) (m_isNot := m_isNot) (m_least0 := m_least0) (m_most0 := m_most0) (m_slot := m_slot) (m_work := m_work) (m_got := m_got) (m_rowMany := m_rowMany) (m_charAt := m_charAt) (m_charWide := m_charWide) (m_trail := m_trail) (m_isMatch := m_isMatch) (m_matchGroups := m_matchGroups) (m_allFrom := m_allFrom) (m_allBefore := m_allBefore) (m_founds := m_founds) (m_pieces := m_pieces) (m_writtenMany := m_writtenMany) (m_templateWide := m_templateWide) (m_tooMuch := m_tooMuch) (x := 7) (y := m_at) h80 (by omega) (by omega)) (fun oc G2 h => by rcases h with ⟨h, _⟩ | ⟨h, _⟩ <;> exact ⟨_, h⟩) (by omega) m_MO_wrong ml_MO_304 im_MO_wrong se_MO_wrong c_MO h80.2.2 (Nat.le_of_ble_eq_true rfl) d_MO_posix_266 rfl ?_
                intro v G509 hq
                rcases hq with ⟨hv, hfk, hlk, hsk, hN80, hq510⟩ | ⟨hv, hGe, hq511⟩
                · cases hv
                  have h84 := hfk.get h84 (by decide)
                  have h87 := hfk.get h87 (by decide)
                  have h88 := hfk.get h88 (by decide)
                  have h81 := hfk.get h81 (by decide)
                  have h82 := hfk.get h82 (by decide)
                  have hfr := hfr.tr hfk (by decide)
                  have hlen := hlk.trans hlen
                  have hsl := hsk.trans hsl
                  have h80 := hN80
                  change ab_W _ _ _ G509 269 [some (vR 80), some (vz m_at), some (vz 0), some (vz m_taped), some (vz (-1))] [] _
                  refine ab_vret rfl d_MO_posix_269 ?_
                  rw [hQ]; exact (Or.inl ⟨_, _, _, rfl, hfr, hlen, hsl, h80, h87, h88, (by omega), (by omega), (by exact nk_i (b0 := ((m_at + 2) + 0)) (by omega) (nk_no6 hq481 hq486 hq491 hq496 hq501 hq506))⟩)
                · cases hv
                  rw [hGe]
                  change ab_W _ _ _ G477 269 [some (vR 80), some (vz m_at), some (vz 0), some (vz m_taped), some (vz (-1))] [] _
                  exfalso; omega
set_option maxRecDepth 100000 in
set_option maxHeartbeats 4000000 in
theorem z_MO_rangeEnd {X : ab_X} {d : Nat} {o : Nat → Nat} {G : ab_G} {m_thrown : Int} {m_taped : Int} {m_length : Int} {m_out : Int} {m_wide : Int} {m_gathered : Int} {m_sets : Int} {m_ranges : Int} {m_nodes : Int} {m_at : Int} {m_flags : Int} {m_fault : Int} {m_place : Int} {m_numbered : Int} {m_depth : Int} {m_value : Int} {m_isNot : Int} {m_least0 : Int} {m_most0 : Int} {m_slot : Int} {m_work : Int} {m_got : Int} {m_rowMany : Int} {m_charAt : Int} {m_charWide : Int} {m_trail : Int} {m_isMatch : Int} {m_matchGroups : Int} {m_allFrom : Int} {m_allBefore : Int} {m_founds : Int} {m_pieces : Int} {m_writtenMany : Int} {m_templateWide : Int} {m_tooMuch : Int} {A_tape : Int → Int} {wh : Int} (h80 : cc o G 80 280 (ab_ob 12 (mof m_thrown m_taped m_length m_out m_wide m_gathered m_sets m_ranges m_nodes m_at m_flags m_fault m_place m_numbered m_depth m_value m_isNot m_least0 m_most0 m_slot m_work m_got m_rowMany m_charAt m_charWide m_trail m_isMatch m_matchGroups m_allFrom m_allBefore m_founds m_pieces m_writtenMany m_templateWide m_tooMuch))) (h84 : cc o G 84 284 (za 2000 A_tape)) (n18 : ab_n0 = 18) (cta : 0 ≤ m_taped ∧ m_taped ≤ 2000) (jtp : rgs A_tape 2000 0 255) (cat : 0 ≤ m_at ∧ m_at < m_taped) (cf : m_fault = 0) (cval : -2147483648 ≤ m_value ∧ m_value ≤ 2147483647) (hd : 4 ≤ d) : ab_F X d y_MO_rangeEnd (.code y_MO_rangeEnd b_MO_rangeEnd 3 (some (.int))) [vR 80, vz wh] G (fun oc G2 => (∃ v : Int, ∃ a2 : Int, ∃ f2 : Int, ∃ p2 : Int, ∃ v2 : Int, ∃ nt2 : Int, ∃ w2 : Int, oc = .returned (some (vz v)) ∧ fx o o [280] G G2 ∧ G2.length = G.length ∧ ab_slots G2 = ab_slots G ∧ cc o G2 80 280 (ab_ob 12 (mof m_thrown m_taped m_length m_out w2 m_gathered m_sets m_ranges m_nodes a2 m_flags f2 p2 m_numbered m_depth v2 nt2 m_least0 m_most0 m_slot m_work m_got m_rowMany m_charAt m_charWide m_trail m_isMatch m_matchGroups m_allFrom m_allBefore m_founds m_pieces m_writtenMany m_templateWide m_tooMuch)) ∧ (1 ≤ f2 ∧ f2 ≤ 14 ∧ 0 ≤ a2 ∧ a2 ≤ 4000 ∧ -2147483648 ≤ v ∧ v ≤ 2147483647 ∧ -2147483648 ≤ v2 ∧ v2 ≤ 2147483647) ∧ ((nkd A_tape m_taped m_at ∧ f2 = 6 ∧ p2 = wh) ∨ (¬ nkd A_tape m_taped m_at ∧ ((f2 = 6 ∧ p2 = wh ∧ ∃ (q9 : Int) (k9 : Nat) (b9 : Int), tpk A_tape m_taped m_at = 92 ∧ esc2 A_tape m_taped m_at q9 k9 b9) ∨ ∀ op : Int, mem3 A_tape m_taped m_at op f2 p2)))) ∨ (∃ v : Int, ∃ a2 : Int, ∃ v2 : Int, ∃ w2 : Int, oc = .returned (some (vz v)) ∧ fx o o [280] G G2 ∧ G2.length = G.length ∧ ab_slots G2 = ab_slots G ∧ cc o G2 80 280 (ab_ob 12 (mof m_thrown m_taped m_length m_out w2 m_gathered m_sets m_ranges m_nodes a2 m_flags m_fault m_place m_numbered m_depth v2 m_isNot m_least0 m_most0 m_slot m_work m_got m_rowMany m_charAt m_charWide m_trail m_isMatch m_matchGroups m_allFrom m_allBefore m_founds m_pieces m_writtenMany m_templateWide m_tooMuch)) ∧ (0 ≤ v ∧ v ≤ 1114111 ∧ m_at + 1 ≤ a2 ∧ a2 ≤ m_taped ∧ -2147483648 ≤ v2 ∧ v2 ≤ 2147483647) ∧ (¬ nkd A_tape m_taped m_at) ∧ (mem1 A_tape m_taped m_at v a2))) := by
  refine ab_F_of (by decide +kernel) (Nat.le_of_ble_eq_true rfl) ?_
  obtain ⟨Q, hQ⟩ : ∃ z : Outcome → ab_G → Prop, z = (fun oc G2 => (∃ v : Int, ∃ a2 : Int, ∃ f2 : Int, ∃ p2 : Int, ∃ v2 : Int, ∃ nt2 : Int, ∃ w2 : Int, oc = .returned (some (vz v)) ∧ fx o o [280] G G2 ∧ G2.length = G.length ∧ ab_slots G2 = ab_slots G ∧ cc o G2 80 280 (ab_ob 12 (mof m_thrown m_taped m_length m_out w2 m_gathered m_sets m_ranges m_nodes a2 m_flags f2 p2 m_numbered m_depth v2 nt2 m_least0 m_most0 m_slot m_work m_got m_rowMany m_charAt m_charWide m_trail m_isMatch m_matchGroups m_allFrom m_allBefore m_founds m_pieces m_writtenMany m_templateWide m_tooMuch)) ∧ (1 ≤ f2 ∧ f2 ≤ 14 ∧ 0 ≤ a2 ∧ a2 ≤ 4000 ∧ -2147483648 ≤ v ∧ v ≤ 2147483647 ∧ -2147483648 ≤ v2 ∧ v2 ≤ 2147483647) ∧ ((nkd A_tape m_taped m_at ∧ f2 = 6 ∧ p2 = wh) ∨ (¬ nkd A_tape m_taped m_at ∧ ((f2 = 6 ∧ p2 = wh ∧ ∃ (q9 : Int) (k9 : Nat) (b9 : Int), tpk A_tape m_taped m_at = 92 ∧ esc2 A_tape m_taped m_at q9 k9 b9) ∨ ∀ op : Int, mem3 A_tape m_taped m_at op f2 p2)))) ∨ (∃ v : Int, ∃ a2 : Int, ∃ v2 : Int, ∃ w2 : Int, oc = .returned (some (vz v)) ∧ fx o o [280] G G2 ∧ G2.length = G.length ∧ ab_slots G2 = ab_slots G ∧ cc o G2 80 280 (ab_ob 12 (mof m_thrown m_taped m_length m_out w2 m_gathered m_sets m_ranges m_nodes a2 m_flags m_fault m_place m_numbered m_depth v2 m_isNot m_least0 m_most0 m_slot m_work m_got m_rowMany m_charAt m_charWide m_trail m_isMatch m_matchGroups m_allFrom m_allBefore m_founds m_pieces m_writtenMany m_templateWide m_tooMuch)) ∧ (0 ≤ v ∧ v ≤ 1114111 ∧ m_at + 1 ≤ a2 ∧ a2 ≤ m_taped ∧ -2147483648 ≤ v2 ∧ v2 ≤ 2147483647) ∧ (¬ nkd A_tape m_taped m_at) ∧ (mem1 A_tape m_taped m_at v a2))) := ⟨_, rfl⟩
  rw [← hQ]
  change ab_W X (ab_pl y_MO_rangeEnd b_MO_rangeEnd 3 (some (.int))) d G 0 [some (vR 80), some (vz wh), none] [] Q
  have hfr : fx o o [280] G G := fx.rf
  have hlen : G.length = G.length := rfl
  have hsl : ab_slots G = ab_slots G := rfl
  refine ab_aload_n d_MO_rangeEnd_0 rfl ?_
  refine zz_iconst d_MO_rangeEnd_1 ?_
  refine ab_callV (d' := d - 1) (as := [vz 0]) (st := []) (r := _) (z_MO_here (o := o) (m_thrown := m_thrown) (m_taped := m_taped) (m_length := m_length) (m_out := m_out) (m_wide := m_wide) (m_gathered := m_gathered) (m_sets := m_sets) (m_ranges := m_ranges) (m_nodes := m_nodes) (m_at := m_at) (m_flags := m_flags) (m_fault := m_fault) (m_place := m_place) (m_numbered := m_numbered) (m_depth := m_depth) (m_value := m_value) (m_isNot := m_isNot) (m_least0 := m_least0) (m_most0 := m_most0) (m_slot := m_slot) (m_work := m_work) (m_got := m_got) (m_rowMany := m_rowMany) (m_charAt := m_charAt) (m_charWide := m_charWide) (m_trail := m_trail) (m_isMatch := m_isMatch) (m_matchGroups := m_matchGroups) (m_allFrom := m_allFrom) (m_allBefore := m_allBefore) (m_founds := m_founds) (m_pieces := m_pieces) (m_writtenMany := m_writtenMany) (m_templateWide := m_templateWide) (m_tooMuch := m_tooMuch) (A_tape := A_tape) (k := 0) (qh := m_at) h80 h84 (by omega) (by omega) jtp (by omega) (by omega)) (fun oc G2 h => by rcases h with ⟨h, _⟩ | ⟨h, _⟩ <;> exact ⟨_, h⟩) (by omega) m_MO_here ml_MO_297 im_MO_here se_MO_here c_MO h80.2.2 (Nat.le_of_ble_eq_true rfl) d_MO_rangeEnd_2 rfl ?_
  intro v G1 hq
  rcases hq with ⟨hv, hGe, hq2⟩ | ⟨hv, hGe, hq3, hq4⟩
  · cases hv
    rw [hGe]
    change ab_W _ _ _ G 5 [some (vR 80), some (vz wh), none] [vz (tpk A_tape m_taped m_at)] _
    refine zz_bipush d_MO_rangeEnd_5 (by decide) ?_
    refine zz_icmp_ne (tgt := 29) d_MO_rangeEnd_7 (by decide) (by omega) (by decide) (fun c5 => ?_) (fun c5 => ?_)
    · refine ab_aload_n d_MO_rangeEnd_29 rfl ?_
      refine zz_iconst d_MO_rangeEnd_30 ?_
      refine ab_callV (d' := d - 1) (as := [vz 0]) (st := []) (r := _) (z_MO_here (o := o) (m_thrown := m_thrown) (m_taped := m_taped) (m_length := m_length) (m_out := m_out) (m_wide := m_wide) (m_gathered := m_gathered) (m_sets := m_sets) (m_ranges := m_ranges) (m_nodes := m_nodes) (m_at := m_at) (m_flags := m_flags) (m_fault := m_fault) (m_place := m_place) (m_numbered := m_numbered) (m_depth := m_depth) (m_value := m_value) (m_isNot := m_isNot) (m_least0 := m_least0) (m_most0 := m_most0) (m_slot := m_slot) (m_work := m_work) (m_got := m_got) (m_rowMany := m_rowMany) (m_charAt := m_charAt) (m_charWide := m_charWide) (m_trail := m_trail) (m_isMatch := m_isMatch) (m_matchGroups := m_matchGroups) (m_allFrom := m_allFrom) (m_allBefore := m_allBefore) (m_founds := m_founds) (m_pieces := m_pieces) (m_writtenMany := m_writtenMany) (m_templateWide := m_templateWide) (m_tooMuch := m_tooMuch) (A_tape := A_tape) (k := 0) (qh := m_at) h80 h84 (by omega) (by omega) jtp (by omega) (by omega)) (fun oc G2 h => by rcases h with ⟨h, _⟩ | ⟨h, _⟩ <;> exact ⟨_, h⟩) (by omega) m_MO_here ml_MO_297 im_MO_here se_MO_here c_MO h80.2.2 (Nat.le_of_ble_eq_true rfl) d_MO_rangeEnd_31 rfl ?_
      intro v G6 hq
      rcases hq with ⟨hv, hGe, hq7⟩ | ⟨hv, hGe, hq8, hq9⟩
      · cases hv
        rw [hGe]
        change ab_W _ _ _ G 34 [some (vR 80), some (vz wh), none] [vz (tpk A_tape m_taped m_at)] _
        refine zz_bipush d_MO_rangeEnd_34 (by decide) ?_
        refine zz_icmp_eq (tgt := 44) d_MO_rangeEnd_36 (by decide) (by omega) (by decide) (fun c10 => ?_) (fun c10 => ?_)
        · refine ab_aload_n d_MO_rangeEnd_44 rfl ?_
          refine zz_iconst d_MO_rangeEnd_45 ?_
          refine ab_callV (d' := d - 1) (as := [vz 1]) (st := []) (r := _) (z_MO_escape (o := o) (m_thrown := m_thrown) (m_taped := m_taped) (m_length := m_length) (m_out := m_out) (m_wide := m_wide) (m_gathered := m_gathered) (m_sets := m_sets) (m_ranges := m_ranges) (m_nodes := m_nodes) (m_at := m_at) (m_flags := m_flags) (m_fault := m_fault) (m_place := m_place) (m_numbered := m_numbered) (m_depth := m_depth) (m_value := m_value) (m_isNot := m_isNot) (m_least0 := m_least0) (m_most0 := m_most0) (m_slot := m_slot) (m_work := m_work) (m_got := m_got) (m_rowMany := m_rowMany) (m_charAt := m_charAt) (m_charWide := m_charWide) (m_trail := m_trail) (m_isMatch := m_isMatch) (m_matchGroups := m_matchGroups) (m_allFrom := m_allFrom) (m_allBefore := m_allBefore) (m_founds := m_founds) (m_pieces := m_pieces) (m_writtenMany := m_writtenMany) (m_templateWide := m_templateWide) (m_tooMuch := m_tooMuch) (A_tape := A_tape) (ic := 1) h80 h84 (by omega) (by omega) jtp (by omega) (by omega) (by omega) (by omega)) (fun oc G2 h => by rcases h with ⟨_, _, _, h, _⟩ | ⟨_, _, h, _⟩ | ⟨_, _, _, _, h, _⟩ | ⟨_, h, _⟩ | ⟨h, _⟩ <;> exact ⟨_, h⟩) (by omega) m_MO_escape ml_MO_344 im_MO_escape se_MO_escape c_MO h80.2.2 (Nat.le_of_ble_eq_true rfl) d_MO_rangeEnd_46 rfl ?_
          intro v G11 hq
          rcases hq with ⟨a212, f213, p214, hv, hfk, hlk, hsk, hN80, hq15, hq16, hq17⟩ | ⟨a218, v219, hv, hfk, hlk, hsk, hN80, hq20, hq21⟩ | ⟨a222, v223, nt224, k225, hv, hfk, hlk, hsk, hN80, hq26, hq27, hq28⟩ | ⟨v229, hv, hfk, hlk, hsk, hN80, hq30, hq31⟩ | ⟨hv, hfk, hlk, hsk, hN80, hq32, hq33⟩
          · cases hv
            have h84 := hfk.get h84 (by decide)
            have hfr := hfr.tr hfk (by decide)
            have hlen := hlk.trans hlen
            have hsl := hsk.trans hsl
            have h80 := hN80
            change ab_W _ _ _ G11 49 [some (vR 80), some (vz wh), none] [vz (-1)] _
            refine ab_istore_n d_MO_rangeEnd_49 (Nat.le_of_ble_eq_true rfl) (Nat.le_of_ble_eq_true rfl) rfl ?_
            change ab_W _ _ _ G11 50 [some (vR 80), some (vz wh), some (vz (-1))] [] _
            refine ab_iload_n d_MO_rangeEnd_50 rfl ?_
            refine zz_iconst d_MO_rangeEnd_51 ?_
            refine zz_icmp_ne (tgt := 62) d_MO_rangeEnd_52 (by decide) (by decide) (by decide) (fun c34 => ?_) (fun c34 => absurd c34 (by decide))
            refine ab_aload_n d_MO_rangeEnd_62 rfl ?_
            refine ab_getf (fs := mof m_thrown m_taped m_length m_out m_wide m_gathered m_sets m_ranges m_nodes a212 m_flags f213 p214 m_numbered m_depth m_value m_isNot m_least0 m_most0 m_slot m_work m_got m_rowMany m_charAt m_charWide m_trail m_isMatch m_matchGroups m_allFrom m_allBefore m_founds m_pieces m_writtenMany m_templateWide m_tooMuch) f_MO_307 d_MO_rangeEnd_63 h80.2.2 rfl ?_
            refine zz_iret rfl d_MO_rangeEnd_66 ?_
            rw [hQ]; exact (Or.inl ⟨_, _, _, _, _, _, _, rfl, hfr, hlen, hsl, h80, (by omega), (by exact Or.inr ⟨(fun z => by have z1 := z.1; have z2 := z.2; omega), Or.inr (fun op => by have t := escB_m (op := op) (by omega) hq17; rw [show p214 = m_at by omega]; exact t)⟩)⟩)
          · cases hv
            have h84 := hfk.get h84 (by decide)
            have hfr := hfr.tr hfk (by decide)
            have hlen := hlk.trans hlen
            have hsl := hsk.trans hsl
            have h80 := hN80
            change ab_W _ _ _ G11 49 [some (vR 80), some (vz wh), none] [vz 0] _
            refine ab_istore_n d_MO_rangeEnd_49 (Nat.le_of_ble_eq_true rfl) (Nat.le_of_ble_eq_true rfl) rfl ?_
            change ab_W _ _ _ G11 50 [some (vR 80), some (vz wh), some (vz 0)] [] _
            refine ab_iload_n d_MO_rangeEnd_50 rfl ?_
            refine zz_iconst d_MO_rangeEnd_51 ?_
            refine zz_icmp_ne (tgt := 62) d_MO_rangeEnd_52 (by decide) (by decide) (by decide) (fun c35 => ?_) (fun c35 => absurd c35 (by decide))
            refine ab_aload_n d_MO_rangeEnd_62 rfl ?_
            refine ab_getf (fs := mof m_thrown m_taped m_length m_out m_wide m_gathered m_sets m_ranges m_nodes a218 m_flags m_fault m_place m_numbered m_depth v219 m_isNot m_least0 m_most0 m_slot m_work m_got m_rowMany m_charAt m_charWide m_trail m_isMatch m_matchGroups m_allFrom m_allBefore m_founds m_pieces m_writtenMany m_templateWide m_tooMuch) f_MO_307 d_MO_rangeEnd_63 h80.2.2 rfl ?_
            refine zz_iret rfl d_MO_rangeEnd_66 ?_
            rw [hQ]; exact (Or.inr ⟨_, _, _, _, rfl, hfr, hlen, hsl, h80, (by omega), (by exact (fun z => by have z1 := z.1; have z2 := z.2; omega)), (by exact Or.inr ⟨by omega, hq21, by omega⟩)⟩)
          · cases hv
            have h84 := hfk.get h84 (by decide)
            have hfr := hfr.tr hfk (by decide)
            have hlen := hlk.trans hlen
            have hsl := hsk.trans hsl
            have h80 := hN80
            change ab_W _ _ _ G11 49 [some (vR 80), some (vz wh), none] [vz 1] _
            refine ab_istore_n d_MO_rangeEnd_49 (Nat.le_of_ble_eq_true rfl) (Nat.le_of_ble_eq_true rfl) rfl ?_
            change ab_W _ _ _ G11 50 [some (vR 80), some (vz wh), some (vz 1)] [] _
            refine ab_iload_n d_MO_rangeEnd_50 rfl ?_
            refine zz_iconst d_MO_rangeEnd_51 ?_
            refine zz_icmp_ne (tgt := 62) d_MO_rangeEnd_52 (by decide) (by decide) (by decide) (fun c36 => absurd c36 (by decide)) (fun c36 => ?_)
            refine ab_aload_n d_MO_rangeEnd_55 rfl ?_
            refine zz_bipush d_MO_rangeEnd_56 (by decide) ?_
            refine ab_iload_n d_MO_rangeEnd_58 rfl ?_
            refine ab_callV (d' := d - 1) (as := [vz 6, vz wh]) (st := []) (r := _) (z_MO_wrong (o := o) (m_thrown := m_thrown) (m_taped := m_taped) (m_length := m_length) (m_out := m_out) (m_wide := m_wide) (m_gathered := m_gathered) (m_sets := m_sets) (m_ranges := m_ranges) (m_nodes := m_nodes) (m_at := a222) (m_flags := m_flags) (m_fault := m_fault) (m_place := m_place) (m_numbered := m_numbered) (m_depth := m_depth) (m_value := v223) (m_isNot := nt224) (m_least0 := m_least0) (m_most0 := m_most0) (m_slot := m_slot) (m_work := m_work) (m_got := m_got) (m_rowMany := m_rowMany) (m_charAt := m_charAt) (m_charWide := m_charWide) (m_trail := m_trail) (m_isMatch := m_isMatch) (m_matchGroups := m_matchGroups) (m_allFrom := m_allFrom) (m_allBefore := m_allBefore) (m_founds := m_founds) (m_pieces := m_pieces) (m_writtenMany := m_writtenMany) (m_templateWide := m_templateWide) (m_tooMuch := m_tooMuch) (x := 6) (y := wh) h80 (by omega) (by omega)) (fun oc G2 h => by rcases h with ⟨h, _⟩ | ⟨h, _⟩ <;> exact ⟨_, h⟩) (by omega) m_MO_wrong ml_MO_304 im_MO_wrong se_MO_wrong c_MO h80.2.2 (Nat.le_of_ble_eq_true rfl) d_MO_rangeEnd_59 rfl ?_
            intro v G37 hq
            rcases hq with ⟨hv, hfk, hlk, hsk, hN80, hq38⟩ | ⟨hv, hGe, hq39⟩
            · cases hv
              have h84 := hfk.get h84 (by decide)
              have hfr := hfr.tr hfk (by decide)
              have hlen := hlk.trans hlen
              have hsl := hsk.trans hsl
              have h80 := hN80
              change ab_W _ _ _ G37 62 [some (vR 80), some (vz wh), some (vz 1)] [] _
              refine ab_aload_n d_MO_rangeEnd_62 rfl ?_
              refine ab_getf (fs := mof m_thrown m_taped m_length m_out m_wide m_gathered m_sets m_ranges m_nodes a222 m_flags 6 wh m_numbered m_depth v223 nt224 m_least0 m_most0 m_slot m_work m_got m_rowMany m_charAt m_charWide m_trail m_isMatch m_matchGroups m_allFrom m_allBefore m_founds m_pieces m_writtenMany m_templateWide m_tooMuch) f_MO_307 d_MO_rangeEnd_63 h80.2.2 rfl ?_
              refine zz_iret rfl d_MO_rangeEnd_66 ?_
              rw [hQ]; exact (Or.inl ⟨_, _, _, _, _, _, _, rfl, hfr, hlen, hsl, h80, (by omega), (by exact Or.inr ⟨(fun z => by have z1 := z.1; have z2 := z.2; omega), Or.inl ⟨by omega, by omega, _, _, _, by omega, hq28⟩⟩)⟩)
            · cases hv
              rw [hGe]
              change ab_W _ _ _ G11 62 [some (vR 80), some (vz wh), some (vz 1)] [] _
              exfalso; omega
          · cases hv
            have h84 := hfk.get h84 (by decide)
            have hfr := hfr.tr hfk (by decide)
            have hlen := hlk.trans hlen
            have hsl := hsk.trans hsl
            have h80 := hN80
            change ab_W _ _ _ G11 49 [some (vR 80), some (vz wh), none] [vz 2] _
            exfalso; omega
          · cases hv
            have h84 := hfk.get h84 (by decide)
            have hfr := hfr.tr hfk (by decide)
            have hlen := hlk.trans hlen
            have hsl := hsk.trans hsl
            have h80 := hN80
            change ab_W _ _ _ G11 49 [some (vR 80), some (vz wh), none] [vz 3] _
            exfalso; omega
        · refine ab_aload_n d_MO_rangeEnd_39 rfl ?_
          refine ab_callV (d' := d - 1) (as := []) (st := []) (r := _) (z_MO_plain (o := o) (m_thrown := m_thrown) (m_taped := m_taped) (m_length := m_length) (m_out := m_out) (m_wide := m_wide) (m_gathered := m_gathered) (m_sets := m_sets) (m_ranges := m_ranges) (m_nodes := m_nodes) (m_at := m_at) (m_flags := m_flags) (m_fault := m_fault) (m_place := m_place) (m_numbered := m_numbered) (m_depth := m_depth) (m_value := m_value) (m_isNot := m_isNot) (m_least0 := m_least0) (m_most0 := m_most0) (m_slot := m_slot) (m_work := m_work) (m_got := m_got) (m_rowMany := m_rowMany) (m_charAt := m_charAt) (m_charWide := m_charWide) (m_trail := m_trail) (m_isMatch := m_isMatch) (m_matchGroups := m_matchGroups) (m_allFrom := m_allFrom) (m_allBefore := m_allBefore) (m_founds := m_founds) (m_pieces := m_pieces) (m_writtenMany := m_writtenMany) (m_templateWide := m_templateWide) (m_tooMuch := m_tooMuch) (A_tape := A_tape) h80 h84 (by omega) (by omega) jtp (by omega) (by omega) (by omega)) (fun oc G2 h => by rcases h with ⟨_, _, _, h, _⟩ | ⟨_, _, _, h, _⟩ <;> exact ⟨_, h⟩) (by omega) m_MO_plain ml_MO_348 im_MO_plain se_MO_plain c_MO h80.2.2 (Nat.le_of_ble_eq_true rfl) d_MO_rangeEnd_40 rfl ?_
          intro v G40 hq
          rcases hq with ⟨w241, f242, p243, hv, hfk, hlk, hsk, hN80, hq44, hq45, hq46⟩ | ⟨v47, w248, a249, hv, hfk, hlk, hsk, hN80, hq50, hq51, hq52⟩
          · cases hv
            have h84 := hfk.get h84 (by decide)
            have hfr := hfr.tr hfk (by decide)
            have hlen := hlk.trans hlen
            have hsl := hsk.trans hsl
            have h80 := hN80
            change ab_W _ _ _ G40 43 [some (vR 80), some (vz wh), none] [vz (-1)] _
            refine zz_iret rfl d_MO_rangeEnd_43 ?_
            rw [hQ]; exact (Or.inl ⟨_, _, _, _, _, _, _, rfl, hfr, hlen, hsl, h80, (by omega), (by exact Or.inr ⟨(fun z => by have z1 := z.1; have z2 := z.2; omega), Or.inr (fun op => Or.inr (Or.inl ⟨by omega, by omega, hq46, by omega, by omega⟩))⟩)⟩)
          · cases hv
            have h84 := hfk.get h84 (by decide)
            have hfr := hfr.tr hfk (by decide)
            have hlen := hlk.trans hlen
            have hsl := hsk.trans hsl
            have h80 := hN80
            change ab_W _ _ _ G40 43 [some (vR 80), some (vz wh), none] [vz v47] _
            refine zz_iret rfl d_MO_rangeEnd_43 ?_
            rw [hQ]; exact (Or.inr ⟨_, _, _, _, rfl, hfr, hlen, hsl, h80, (by omega), (by exact (fun z => by have z1 := z.1; have z2 := z.2; omega)), (by exact Or.inl ⟨by omega, by omega, hq51, hq52⟩)⟩)
      · cases hv
        rw [hGe]
        change ab_W _ _ _ G 34 [some (vR 80), some (vz wh), none] [vz (-1)] _
        exfalso; omega
    · refine ab_aload_n d_MO_rangeEnd_10 rfl ?_
      refine zz_iconst d_MO_rangeEnd_11 ?_
      refine ab_callV (d' := d - 1) (as := [vz 1]) (st := []) (r := _) (z_MO_here (o := o) (m_thrown := m_thrown) (m_taped := m_taped) (m_length := m_length) (m_out := m_out) (m_wide := m_wide) (m_gathered := m_gathered) (m_sets := m_sets) (m_ranges := m_ranges) (m_nodes := m_nodes) (m_at := m_at) (m_flags := m_flags) (m_fault := m_fault) (m_place := m_place) (m_numbered := m_numbered) (m_depth := m_depth) (m_value := m_value) (m_isNot := m_isNot) (m_least0 := m_least0) (m_most0 := m_most0) (m_slot := m_slot) (m_work := m_work) (m_got := m_got) (m_rowMany := m_rowMany) (m_charAt := m_charAt) (m_charWide := m_charWide) (m_trail := m_trail) (m_isMatch := m_isMatch) (m_matchGroups := m_matchGroups) (m_allFrom := m_allFrom) (m_allBefore := m_allBefore) (m_founds := m_founds) (m_pieces := m_pieces) (m_writtenMany := m_writtenMany) (m_templateWide := m_templateWide) (m_tooMuch := m_tooMuch) (A_tape := A_tape) (k := 1) (qh := (m_at + 1)) h80 h84 (by omega) (by omega) jtp (by omega) (by omega)) (fun oc G2 h => by rcases h with ⟨h, _⟩ | ⟨h, _⟩ <;> exact ⟨_, h⟩) (by omega) m_MO_here ml_MO_297 im_MO_here se_MO_here c_MO h80.2.2 (Nat.le_of_ble_eq_true rfl) d_MO_rangeEnd_12 rfl ?_
      intro v G53 hq
      rcases hq with ⟨hv, hGe, hq54⟩ | ⟨hv, hGe, hq55, hq56⟩
      · cases hv
        rw [hGe]
        change ab_W _ _ _ G 15 [some (vR 80), some (vz wh), none] [vz (tpk A_tape m_taped (m_at + 1))] _
        refine zz_bipush d_MO_rangeEnd_15 (by decide) ?_
        refine zz_icmp_ne (tgt := 29) d_MO_rangeEnd_17 (by decide) (by omega) (by decide) (fun c57 => ?_) (fun c57 => ?_)
        · refine ab_aload_n d_MO_rangeEnd_29 rfl ?_
          refine zz_iconst d_MO_rangeEnd_30 ?_
          refine ab_callV (d' := d - 1) (as := [vz 0]) (st := []) (r := _) (z_MO_here (o := o) (m_thrown := m_thrown) (m_taped := m_taped) (m_length := m_length) (m_out := m_out) (m_wide := m_wide) (m_gathered := m_gathered) (m_sets := m_sets) (m_ranges := m_ranges) (m_nodes := m_nodes) (m_at := m_at) (m_flags := m_flags) (m_fault := m_fault) (m_place := m_place) (m_numbered := m_numbered) (m_depth := m_depth) (m_value := m_value) (m_isNot := m_isNot) (m_least0 := m_least0) (m_most0 := m_most0) (m_slot := m_slot) (m_work := m_work) (m_got := m_got) (m_rowMany := m_rowMany) (m_charAt := m_charAt) (m_charWide := m_charWide) (m_trail := m_trail) (m_isMatch := m_isMatch) (m_matchGroups := m_matchGroups) (m_allFrom := m_allFrom) (m_allBefore := m_allBefore) (m_founds := m_founds) (m_pieces := m_pieces) (m_writtenMany := m_writtenMany) (m_templateWide := m_templateWide) (m_tooMuch := m_tooMuch) (A_tape := A_tape) (k := 0) (qh := m_at) h80 h84 (by omega) (by omega) jtp (by omega) (by omega)) (fun oc G2 h => by rcases h with ⟨h, _⟩ | ⟨h, _⟩ <;> exact ⟨_, h⟩) (by omega) m_MO_here ml_MO_297 im_MO_here se_MO_here c_MO h80.2.2 (Nat.le_of_ble_eq_true rfl) d_MO_rangeEnd_31 rfl ?_
          intro v G58 hq
          rcases hq with ⟨hv, hGe, hq59⟩ | ⟨hv, hGe, hq60, hq61⟩
          · cases hv
            rw [hGe]
            change ab_W _ _ _ G 34 [some (vR 80), some (vz wh), none] [vz (tpk A_tape m_taped m_at)] _
            refine zz_bipush d_MO_rangeEnd_34 (by decide) ?_
            refine zz_icmp_eq (tgt := 44) d_MO_rangeEnd_36 (by decide) (by omega) (by decide) (fun c62 => absurd c62 (by omega)) (fun c62 => ?_)
            refine ab_aload_n d_MO_rangeEnd_39 rfl ?_
            refine ab_callV (d' := d - 1) (as := []) (st := []) (r := _) (z_MO_plain (o := o) (m_thrown := m_thrown) (m_taped := m_taped) (m_length := m_length) (m_out := m_out) (m_wide := m_wide) (m_gathered := m_gathered) (m_sets := m_sets) (m_ranges := m_ranges) (m_nodes := m_nodes) (m_at := m_at) (m_flags := m_flags) (m_fault := m_fault) (m_place := m_place) (m_numbered := m_numbered) (m_depth := m_depth) (m_value := m_value) (m_isNot := m_isNot) (m_least0 := m_least0) (m_most0 := m_most0) (m_slot := m_slot) (m_work := m_work) (m_got := m_got) (m_rowMany := m_rowMany) (m_charAt := m_charAt) (m_charWide := m_charWide) (m_trail := m_trail) (m_isMatch := m_isMatch) (m_matchGroups := m_matchGroups) (m_allFrom := m_allFrom) (m_allBefore := m_allBefore) (m_founds := m_founds) (m_pieces := m_pieces) (m_writtenMany := m_writtenMany) (m_templateWide := m_templateWide) (m_tooMuch := m_tooMuch) (A_tape := A_tape) h80 h84 (by omega) (by omega) jtp (by omega) (by omega) (by omega)) (fun oc G2 h => by rcases h with ⟨_, _, _, h, _⟩ | ⟨_, _, _, h, _⟩ <;> exact ⟨_, h⟩) (by omega) m_MO_plain ml_MO_348 im_MO_plain se_MO_plain c_MO h80.2.2 (Nat.le_of_ble_eq_true rfl) d_MO_rangeEnd_40 rfl ?_
            intro v G63 hq
            rcases hq with ⟨w264, f265, p266, hv, hfk, hlk, hsk, hN80, hq67, hq68, hq69⟩ | ⟨v70, w271, a272, hv, hfk, hlk, hsk, hN80, hq73, hq74, hq75⟩
            · cases hv
              have h84 := hfk.get h84 (by decide)
              have hfr := hfr.tr hfk (by decide)
              have hlen := hlk.trans hlen
              have hsl := hsk.trans hsl
              have h80 := hN80
              change ab_W _ _ _ G63 43 [some (vR 80), some (vz wh), none] [vz (-1)] _
              refine zz_iret rfl d_MO_rangeEnd_43 ?_
              rw [hQ]; exact (Or.inl ⟨_, _, _, _, _, _, _, rfl, hfr, hlen, hsl, h80, (by omega), (by exact Or.inr ⟨(fun z => by have z1 := z.1; have z2 := z.2; omega), Or.inr (fun op => Or.inr (Or.inl ⟨by omega, by omega, hq69, by omega, by omega⟩))⟩)⟩)
            · cases hv
              have h84 := hfk.get h84 (by decide)
              have hfr := hfr.tr hfk (by decide)
              have hlen := hlk.trans hlen
              have hsl := hsk.trans hsl
              have h80 := hN80
              change ab_W _ _ _ G63 43 [some (vR 80), some (vz wh), none] [vz v70] _
              refine zz_iret rfl d_MO_rangeEnd_43 ?_
              rw [hQ]; exact (Or.inr ⟨_, _, _, _, rfl, hfr, hlen, hsl, h80, (by omega), (by exact (fun z => by have z1 := z.1; have z2 := z.2; omega)), (by exact Or.inl ⟨by omega, by omega, hq74, hq75⟩)⟩)
          · cases hv
            rw [hGe]
            change ab_W _ _ _ G 34 [some (vR 80), some (vz wh), none] [vz (-1)] _
            exfalso; omega
        · refine ab_aload_n d_MO_rangeEnd_20 rfl ?_
          refine zz_bipush d_MO_rangeEnd_21 (by decide) ?_
          refine ab_iload_n d_MO_rangeEnd_23 rfl ?_
          refine ab_callV (d' := d - 1) (as := [vz 6, vz wh]) (st := []) (r := _) (z_MO_wrong (o := o) (m_thrown := m_thrown) (m_taped := m_taped) (m_length := m_length) (m_out := m_out) (m_wide := m_wide) (m_gathered := m_gathered) (m_sets := m_sets) (m_ranges := m_ranges) (m_nodes := m_nodes) (m_at := m_at) (m_flags := m_flags) (m_fault := m_fault) (m_place := m_place) (m_numbered := m_numbered) (m_depth := m_depth) (m_value := m_value) (m_isNot := m_isNot) (m_least0 := m_least0) (m_most0 := m_most0) (m_slot := m_slot) (m_work := m_work) (m_got := m_got) (m_rowMany := m_rowMany) (m_charAt := m_charAt) (m_charWide := m_charWide) (m_trail := m_trail) (m_isMatch := m_isMatch) (m_matchGroups := m_matchGroups) (m_allFrom := m_allFrom) (m_allBefore := m_allBefore) (m_founds := m_founds) (m_pieces := m_pieces) (m_writtenMany := m_writtenMany) (m_templateWide := m_templateWide) (m_tooMuch := m_tooMuch) (x := 6) (y := wh) h80 (by omega) (by omega)) (fun oc G2 h => by rcases h with ⟨h, _⟩ | ⟨h, _⟩ <;> exact ⟨_, h⟩) (by omega) m_MO_wrong ml_MO_304 im_MO_wrong se_MO_wrong c_MO h80.2.2 (Nat.le_of_ble_eq_true rfl) d_MO_rangeEnd_24 rfl ?_
          intro v G76 hq
          rcases hq with ⟨hv, hfk, hlk, hsk, hN80, hq77⟩ | ⟨hv, hGe, hq78⟩
          · cases hv
            have h84 := hfk.get h84 (by decide)
            have hfr := hfr.tr hfk (by decide)
            have hlen := hlk.trans hlen
            have hsl := hsk.trans hsl
            have h80 := hN80
            change ab_W _ _ _ G76 27 [some (vR 80), some (vz wh), none] [] _
            refine zz_iconst d_MO_rangeEnd_27 ?_
            refine zz_iret rfl d_MO_rangeEnd_28 ?_
            rw [hQ]; exact (Or.inl ⟨_, _, _, _, _, _, _, rfl, hfr, hlen, hsl, h80, (by omega), (by exact Or.inl ⟨⟨by omega, by omega⟩, by omega, by omega⟩)⟩)
          · cases hv
            rw [hGe]
            change ab_W _ _ _ G 27 [some (vR 80), some (vz wh), none] [] _
            exfalso; omega
      · cases hv
        rw [hGe]
        change ab_W _ _ _ G 15 [some (vR 80), some (vz wh), none] [vz (-1)] _
        refine zz_bipush d_MO_rangeEnd_15 (by decide) ?_
        refine zz_icmp_ne (tgt := 29) d_MO_rangeEnd_17 (by decide) (by decide) (by decide) (fun c79 => ?_) (fun c79 => absurd c79 (by decide))
        refine ab_aload_n d_MO_rangeEnd_29 rfl ?_
        refine zz_iconst d_MO_rangeEnd_30 ?_
        refine ab_callV (d' := d - 1) (as := [vz 0]) (st := []) (r := _) (z_MO_here (o := o) (m_thrown := m_thrown) (m_taped := m_taped) (m_length := m_length) (m_out := m_out) (m_wide := m_wide) (m_gathered := m_gathered) (m_sets := m_sets) (m_ranges := m_ranges) (m_nodes := m_nodes) (m_at := m_at) (m_flags := m_flags) (m_fault := m_fault) (m_place := m_place) (m_numbered := m_numbered) (m_depth := m_depth) (m_value := m_value) (m_isNot := m_isNot) (m_least0 := m_least0) (m_most0 := m_most0) (m_slot := m_slot) (m_work := m_work) (m_got := m_got) (m_rowMany := m_rowMany) (m_charAt := m_charAt) (m_charWide := m_charWide) (m_trail := m_trail) (m_isMatch := m_isMatch) (m_matchGroups := m_matchGroups) (m_allFrom := m_allFrom) (m_allBefore := m_allBefore) (m_founds := m_founds) (m_pieces := m_pieces) (m_writtenMany := m_writtenMany) (m_templateWide := m_templateWide) (m_tooMuch := m_tooMuch) (A_tape := A_tape) (k := 0) (qh := m_at) h80 h84 (by omega) (by omega) jtp (by omega) (by omega)) (fun oc G2 h => by rcases h with ⟨h, _⟩ | ⟨h, _⟩ <;> exact ⟨_, h⟩) (by omega) m_MO_here ml_MO_297 im_MO_here se_MO_here c_MO h80.2.2 (Nat.le_of_ble_eq_true rfl) d_MO_rangeEnd_31 rfl ?_
        intro v G80 hq
        rcases hq with ⟨hv, hGe, hq81⟩ | ⟨hv, hGe, hq82, hq83⟩
        · cases hv
          rw [hGe]
          change ab_W _ _ _ G 34 [some (vR 80), some (vz wh), none] [vz (tpk A_tape m_taped m_at)] _
          refine zz_bipush d_MO_rangeEnd_34 (by decide) ?_
          refine zz_icmp_eq (tgt := 44) d_MO_rangeEnd_36 (by decide) (by omega) (by decide) (fun c84 => absurd c84 (by omega)) (fun c84 => ?_)
          refine ab_aload_n d_MO_rangeEnd_39 rfl ?_
          refine ab_callV (d' := d - 1) (as := []) (st := []) (r := _) (z_MO_plain (o := o) (m_thrown := m_thrown) (m_taped := m_taped) (m_length := m_length) (m_out := m_out) (m_wide := m_wide) (m_gathered := m_gathered) (m_sets := m_sets) (m_ranges := m_ranges) (m_nodes := m_nodes) (m_at := m_at) (m_flags := m_flags) (m_fault := m_fault) (m_place := m_place) (m_numbered := m_numbered) (m_depth := m_depth) (m_value := m_value) (m_isNot := m_isNot) (m_least0 := m_least0) (m_most0 := m_most0) (m_slot := m_slot) (m_work := m_work) (m_got := m_got) (m_rowMany := m_rowMany) (m_charAt := m_charAt) (m_charWide := m_charWide) (m_trail := m_trail) (m_isMatch := m_isMatch) (m_matchGroups := m_matchGroups) (m_allFrom := m_allFrom) (m_allBefore := m_allBefore) (m_founds := m_founds) (m_pieces := m_pieces) (m_writtenMany := m_writtenMany) (m_templateWide := m_templateWide) (m_tooMuch := m_tooMuch) (A_tape := A_tape) h80 h84 (by omega) (by omega) jtp (by omega) (by omega) (by omega)) (fun oc G2 h => by rcases h with ⟨_, _, _, h, _⟩ | ⟨_, _, _, h, _⟩ <;> exact ⟨_, h⟩) (by omega) m_MO_plain ml_MO_348 im_MO_plain se_MO_plain c_MO h80.2.2 (Nat.le_of_ble_eq_true rfl) d_MO_rangeEnd_40 rfl ?_
          intro v G85 hq
          rcases hq with ⟨w286, f287, p288, hv, hfk, hlk, hsk, hN80, hq89, hq90, hq91⟩ | ⟨v92, w293, a294, hv, hfk, hlk, hsk, hN80, hq95, hq96, hq97⟩
          · cases hv
            have h84 := hfk.get h84 (by decide)
            have hfr := hfr.tr hfk (by decide)
            have hlen := hlk.trans hlen
            have hsl := hsk.trans hsl
            have h80 := hN80
            change ab_W _ _ _ G85 43 [some (vR 80), some (vz wh), none] [vz (-1)] _
            refine zz_iret rfl d_MO_rangeEnd_43 ?_
            rw [hQ]; exact (Or.inl ⟨_, _, _, _, _, _, _, rfl, hfr, hlen, hsl, h80, (by omega), (by exact Or.inr ⟨(fun z => by have z1 := z.1; have z2 := z.2; omega), Or.inr (fun op => Or.inr (Or.inl ⟨by omega, by omega, hq91, by omega, by omega⟩))⟩)⟩)
          · cases hv
            have h84 := hfk.get h84 (by decide)
            have hfr := hfr.tr hfk (by decide)
            have hlen := hlk.trans hlen
            have hsl := hsk.trans hsl
            have h80 := hN80
            change ab_W _ _ _ G85 43 [some (vR 80), some (vz wh), none] [vz v92] _
            refine zz_iret rfl d_MO_rangeEnd_43 ?_
            rw [hQ]; exact (Or.inr ⟨_, _, _, _, rfl, hfr, hlen, hsl, h80, (by omega), (by exact (fun z => by have z1 := z.1; have z2 := z.2; omega)), (by exact Or.inl ⟨by omega, by omega, hq96, hq97⟩)⟩)
        · cases hv
          rw [hGe]
          change ab_W _ _ _ G 34 [some (vR 80), some (vz wh), none] [vz (-1)] _
          exfalso; omega
  · cases hv
    rw [hGe]
    change ab_W _ _ _ G 5 [some (vR 80), some (vz wh), none] [vz (-1)] _
    exfalso; omega
set_option maxRecDepth 100000 in
set_option maxHeartbeats 4000000 in
theorem z_MO_item {X : ab_X} {d : Nat} {o : Nat → Nat} {G : ab_G} {m_thrown : Int} {m_taped : Int} {m_length : Int} {m_out : Int} {m_wide : Int} {m_gathered : Int} {m_sets : Int} {m_ranges : Int} {m_nodes : Int} {m_at : Int} {m_flags : Int} {m_fault : Int} {m_place : Int} {m_numbered : Int} {m_depth : Int} {m_value : Int} {m_isNot : Int} {m_least0 : Int} {m_most0 : Int} {m_slot : Int} {m_work : Int} {m_got : Int} {m_rowMany : Int} {m_charAt : Int} {m_charWide : Int} {m_trail : Int} {m_isMatch : Int} {m_matchGroups : Int} {m_allFrom : Int} {m_allBefore : Int} {m_founds : Int} {m_pieces : Int} {m_writtenMany : Int} {m_templateWide : Int} {m_tooMuch : Int} {A_tape : Int → Int} {LO : Int → Int} {HI : Int → Int} {MK : Int → Int} {P : Int → Prop} {mm : Int} (h80 : cc o G 80 280 (ab_ob 12 (mof m_thrown m_taped m_length m_out m_wide m_gathered m_sets m_ranges m_nodes m_at m_flags m_fault m_place m_numbered m_depth m_value m_isNot m_least0 m_most0 m_slot m_work m_got m_rowMany m_charAt m_charWide m_trail m_isMatch m_matchGroups m_allFrom m_allBefore m_founds m_pieces m_writtenMany m_templateWide m_tooMuch))) (h84 : cc o G 84 284 (za 2000 A_tape)) (h93 : cc o G 93 293 (zb 1200 MK)) (h87 : cc o G 87 287 (za 9000 LO)) (h88 : cc o G 88 288 (za 9000 HI)) (h81 : cc o G 81 281 (za 13 tbA)) (h82 : cc o G 82 282 (za 66 tbT)) (n18 : ab_n0 = 18) (cta : 0 ≤ m_taped ∧ m_taped ≤ 2000) (jtp : rgs A_tape 2000 0 255) (cat : 0 ≤ m_at ∧ m_at < m_taped) (cf : m_fault = 0) (cval : -2147483648 ≤ m_value ∧ m_value ≤ 2147483647) (cga : 0 ≤ m_gathered ∧ m_gathered ≤ 6700) (jmk : rgs MK 1200 0 1) (jc : clsI LO HI m_gathered MK P) (jl : lfc P mm) (cfl : 0 ≤ m_flags ∧ m_flags ≤ 31) (hd : 5 ≤ d) : ab_F X d y_MO_item (.code y_MO_item b_MO_item 4 none) [vR 80] G (fun oc G2 => (∃ a2 : Int, ∃ f2 : Int, ∃ p2 : Int, ∃ v2 : Int, ∃ nt2 : Int, ∃ w2 : Int, ∃ g2 : Int, ∃ LO2 : Int → Int, ∃ HI2 : Int → Int, ∃ MK2 : Int → Int, oc = .returned none ∧ fx o o [280, 287, 288, 293] G G2 ∧ G2.length = G.length ∧ ab_slots G2 = ab_slots G ∧ cc o G2 80 280 (ab_ob 12 (mof m_thrown m_taped m_length m_out w2 g2 m_sets m_ranges m_nodes a2 m_flags f2 p2 m_numbered m_depth v2 nt2 m_least0 m_most0 m_slot m_work m_got m_rowMany m_charAt m_charWide m_trail m_isMatch m_matchGroups m_allFrom m_allBefore m_founds m_pieces m_writtenMany m_templateWide m_tooMuch)) ∧ cc o G2 87 287 (za 9000 LO2) ∧ cc o G2 88 288 (za 9000 HI2) ∧ cc o G2 93 293 (zb 1200 MK2) ∧ (1 ≤ f2 ∧ f2 ≤ 14 ∧ 0 ≤ a2 ∧ a2 ≤ 4000 ∧ -2147483648 ≤ v2 ∧ v2 ≤ 2147483647 ∧ 0 ≤ g2 ∧ g2 ≤ 6710) ∧ (rgs MK2 1200 0 1) ∧ (∀ op : Int, clF A_tape m_taped op m_at f2 p2)) ∨ (∃ a2 : Int, ∃ v2 : Int, ∃ nt2 : Int, ∃ w2 : Int, ∃ g2 : Int, ∃ m2 : Int, ∃ LO2 : Int → Int, ∃ HI2 : Int → Int, ∃ MK2 : Int → Int, ∃ P2 : Int → Prop, oc = .returned none ∧ fx o o [280, 287, 288, 293] G G2 ∧ G2.length = G.length ∧ ab_slots G2 = ab_slots G ∧ cc o G2 80 280 (ab_ob 12 (mof m_thrown m_taped m_length m_out w2 g2 m_sets m_ranges m_nodes a2 m_flags m_fault m_place m_numbered m_depth v2 nt2 m_least0 m_most0 m_slot m_work m_got m_rowMany m_charAt m_charWide m_trail m_isMatch m_matchGroups m_allFrom m_allBefore m_founds m_pieces m_writtenMany m_templateWide m_tooMuch)) ∧ cc o G2 87 287 (za 9000 LO2) ∧ cc o G2 88 288 (za 9000 HI2) ∧ cc o G2 93 293 (zb 1200 MK2) ∧ (m_at + 1 ≤ a2 ∧ a2 ≤ m_taped ∧ -2147483648 ≤ v2 ∧ v2 ≤ 2147483647 ∧ m_gathered ≤ g2 ∧ 3 * g2 ≤ 3 * m_gathered + 10 * (a2 - m_at) ∧ mm ≤ m2 ∧ m2 ≤ mm + 11 * (a2 - m_at)) ∧ (rgs MK2 1200 0 1) ∧ (clsI LO2 HI2 g2 MK2 P2) ∧ (lfc P2 m2) ∧ (clS A_tape m_taped (m_flags % 2) m_at P a2 P2))) := by
  refine ab_F_of (by decide +kernel) (Nat.le_of_ble_eq_true rfl) ?_
  obtain ⟨Q, hQ⟩ : ∃ z : Outcome → ab_G → Prop, z = (fun oc G2 => (∃ a2 : Int, ∃ f2 : Int, ∃ p2 : Int, ∃ v2 : Int, ∃ nt2 : Int, ∃ w2 : Int, ∃ g2 : Int, ∃ LO2 : Int → Int, ∃ HI2 : Int → Int, ∃ MK2 : Int → Int, oc = .returned none ∧ fx o o [280, 287, 288, 293] G G2 ∧ G2.length = G.length ∧ ab_slots G2 = ab_slots G ∧ cc o G2 80 280 (ab_ob 12 (mof m_thrown m_taped m_length m_out w2 g2 m_sets m_ranges m_nodes a2 m_flags f2 p2 m_numbered m_depth v2 nt2 m_least0 m_most0 m_slot m_work m_got m_rowMany m_charAt m_charWide m_trail m_isMatch m_matchGroups m_allFrom m_allBefore m_founds m_pieces m_writtenMany m_templateWide m_tooMuch)) ∧ cc o G2 87 287 (za 9000 LO2) ∧ cc o G2 88 288 (za 9000 HI2) ∧ cc o G2 93 293 (zb 1200 MK2) ∧ (1 ≤ f2 ∧ f2 ≤ 14 ∧ 0 ≤ a2 ∧ a2 ≤ 4000 ∧ -2147483648 ≤ v2 ∧ v2 ≤ 2147483647 ∧ 0 ≤ g2 ∧ g2 ≤ 6710) ∧ (rgs MK2 1200 0 1) ∧ (∀ op : Int, clF A_tape m_taped op m_at f2 p2)) ∨ (∃ a2 : Int, ∃ v2 : Int, ∃ nt2 : Int, ∃ w2 : Int, ∃ g2 : Int, ∃ m2 : Int, ∃ LO2 : Int → Int, ∃ HI2 : Int → Int, ∃ MK2 : Int → Int, ∃ P2 : Int → Prop, oc = .returned none ∧ fx o o [280, 287, 288, 293] G G2 ∧ G2.length = G.length ∧ ab_slots G2 = ab_slots G ∧ cc o G2 80 280 (ab_ob 12 (mof m_thrown m_taped m_length m_out w2 g2 m_sets m_ranges m_nodes a2 m_flags m_fault m_place m_numbered m_depth v2 nt2 m_least0 m_most0 m_slot m_work m_got m_rowMany m_charAt m_charWide m_trail m_isMatch m_matchGroups m_allFrom m_allBefore m_founds m_pieces m_writtenMany m_templateWide m_tooMuch)) ∧ cc o G2 87 287 (za 9000 LO2) ∧ cc o G2 88 288 (za 9000 HI2) ∧ cc o G2 93 293 (zb 1200 MK2) ∧ (m_at + 1 ≤ a2 ∧ a2 ≤ m_taped ∧ -2147483648 ≤ v2 ∧ v2 ≤ 2147483647 ∧ m_gathered ≤ g2 ∧ 3 * g2 ≤ 3 * m_gathered + 10 * (a2 - m_at) ∧ mm ≤ m2 ∧ m2 ≤ mm + 11 * (a2 - m_at)) ∧ (rgs MK2 1200 0 1) ∧ (clsI LO2 HI2 g2 MK2 P2) ∧ (lfc P2 m2) ∧ (clS A_tape m_taped (m_flags % 2) m_at P a2 P2))) := ⟨_, rfl⟩
  rw [← hQ]
  change ab_W X (ab_pl y_MO_item b_MO_item 4 none) d G 0 [some (vR 80), none, none, none] [] Q
  have hfr : fx o o [280, 287, 288, 293] G G := fx.rf
  have hlen : G.length = G.length := rfl
  have hsl : ab_slots G = ab_slots G := rfl
  refine ab_aload_n d_MO_item_0 rfl ?_
  refine ab_getf (fs := mof m_thrown m_taped m_length m_out m_wide m_gathered m_sets m_ranges m_nodes m_at m_flags m_fault m_place m_numbered m_depth m_value m_isNot m_least0 m_most0 m_slot m_work m_got m_rowMany m_charAt m_charWide m_trail m_isMatch m_matchGroups m_allFrom m_allBefore m_founds m_pieces m_writtenMany m_templateWide m_tooMuch) f_MO_279 d_MO_item_1 h80.2.2 rfl ?_
  refine ab_istore_n d_MO_item_4 (Nat.le_of_ble_eq_true rfl) (Nat.le_of_ble_eq_true rfl) rfl ?_
  change ab_W _ _ _ G 5 [some (vR 80), some (vz m_at), none, none] [] _
  refine ab_aload_n d_MO_item_5 rfl ?_
  refine zz_iconst d_MO_item_6 ?_
  refine ab_callV (d' := d - 1) (as := [vz 0]) (st := []) (r := _) (z_MO_here (o := o) (m_thrown := m_thrown) (m_taped := m_taped) (m_length := m_length) (m_out := m_out) (m_wide := m_wide) (m_gathered := m_gathered) (m_sets := m_sets) (m_ranges := m_ranges) (m_nodes := m_nodes) (m_at := m_at) (m_flags := m_flags) (m_fault := m_fault) (m_place := m_place) (m_numbered := m_numbered) (m_depth := m_depth) (m_value := m_value) (m_isNot := m_isNot) (m_least0 := m_least0) (m_most0 := m_most0) (m_slot := m_slot) (m_work := m_work) (m_got := m_got) (m_rowMany := m_rowMany) (m_charAt := m_charAt) (m_charWide := m_charWide) (m_trail := m_trail) (m_isMatch := m_isMatch) (m_matchGroups := m_matchGroups) (m_allFrom := m_allFrom) (m_allBefore := m_allBefore) (m_founds := m_founds) (m_pieces := m_pieces) (m_writtenMany := m_writtenMany) (m_templateWide := m_templateWide) (m_tooMuch := m_tooMuch) (A_tape := A_tape) (k := 0) (qh := m_at) h80 h84 (by omega) (by omega) jtp (by omega) (by omega)) (fun oc G2 h => by rcases h with ⟨h, _⟩ | ⟨h, _⟩ <;> exact ⟨_, h⟩) (by omega) m_MO_here ml_MO_297 im_MO_here se_MO_here c_MO h80.2.2 (Nat.le_of_ble_eq_true rfl) d_MO_item_7 rfl ?_
  intro v G1 hq
  rcases hq with ⟨hv, hGe, hq2⟩ | ⟨hv, hGe, hq3, hq4⟩
  · cases hv
    rw [hGe]
    change ab_W _ _ _ G 10 [some (vR 80), some (vz m_at), none, none] [vz (tpk A_tape m_taped m_at)] _
    refine zz_bipush d_MO_item_10 (by decide) ?_
    refine zz_icmp_ne (tgt := 30) d_MO_item_12 (by decide) (by omega) (by decide) (fun c5 => ?_) (fun c5 => ?_)
    · refine ab_aload_n d_MO_item_30 rfl ?_
      refine zz_iconst d_MO_item_31 ?_
      refine ab_callV (d' := d - 1) (as := [vz 0]) (st := []) (r := _) (z_MO_here (o := o) (m_thrown := m_thrown) (m_taped := m_taped) (m_length := m_length) (m_out := m_out) (m_wide := m_wide) (m_gathered := m_gathered) (m_sets := m_sets) (m_ranges := m_ranges) (m_nodes := m_nodes) (m_at := m_at) (m_flags := m_flags) (m_fault := m_fault) (m_place := m_place) (m_numbered := m_numbered) (m_depth := m_depth) (m_value := m_value) (m_isNot := m_isNot) (m_least0 := m_least0) (m_most0 := m_most0) (m_slot := m_slot) (m_work := m_work) (m_got := m_got) (m_rowMany := m_rowMany) (m_charAt := m_charAt) (m_charWide := m_charWide) (m_trail := m_trail) (m_isMatch := m_isMatch) (m_matchGroups := m_matchGroups) (m_allFrom := m_allFrom) (m_allBefore := m_allBefore) (m_founds := m_founds) (m_pieces := m_pieces) (m_writtenMany := m_writtenMany) (m_templateWide := m_templateWide) (m_tooMuch := m_tooMuch) (A_tape := A_tape) (k := 0) (qh := m_at) h80 h84 (by omega) (by omega) jtp (by omega) (by omega)) (fun oc G2 h => by rcases h with ⟨h, _⟩ | ⟨h, _⟩ <;> exact ⟨_, h⟩) (by omega) m_MO_here ml_MO_297 im_MO_here se_MO_here c_MO h80.2.2 (Nat.le_of_ble_eq_true rfl) d_MO_item_32 rfl ?_
      intro v G6 hq
      rcases hq with ⟨hv, hGe, hq7⟩ | ⟨hv, hGe, hq8, hq9⟩
      · cases hv
        rw [hGe]
        change ab_W _ _ _ G 35 [some (vR 80), some (vz m_at), none, none] [vz (tpk A_tape m_taped m_at)] _
        refine zz_bipush d_MO_item_35 (by decide) ?_
        refine zz_icmp_ne (tgt := 76) d_MO_item_37 (by decide) (by omega) (by decide) (fun c10 => ?_) (fun c10 => ?_)
        · refine ab_aload_n d_MO_item_76 rfl ?_
          refine ab_callV (d' := d - 1) (as := []) (st := []) (r := _) (z_MO_plain (o := o) (m_thrown := m_thrown) (m_taped := m_taped) (m_length := m_length) (m_out := m_out) (m_wide := m_wide) (m_gathered := m_gathered) (m_sets := m_sets) (m_ranges := m_ranges) (m_nodes := m_nodes) (m_at := m_at) (m_flags := m_flags) (m_fault := m_fault) (m_place := m_place) (m_numbered := m_numbered) (m_depth := m_depth) (m_value := m_value) (m_isNot := m_isNot) (m_least0 := m_least0) (m_most0 := m_most0) (m_slot := m_slot) (m_work := m_work) (m_got := m_got) (m_rowMany := m_rowMany) (m_charAt := m_charAt) (m_charWide := m_charWide) (m_trail := m_trail) (m_isMatch := m_isMatch) (m_matchGroups := m_matchGroups) (m_allFrom := m_allFrom) (m_allBefore := m_allBefore) (m_founds := m_founds) (m_pieces := m_pieces) (m_writtenMany := m_writtenMany) (m_templateWide := m_templateWide) (m_tooMuch := m_tooMuch) (A_tape := A_tape) h80 h84 (by omega) (by omega) jtp (by omega) (by omega) (by omega)) (fun oc G2 h => by rcases h with ⟨_, _, _, h, _⟩ | ⟨_, _, _, h, _⟩ <;> exact ⟨_, h⟩) (by omega) m_MO_plain ml_MO_348 im_MO_plain se_MO_plain c_MO h80.2.2 (Nat.le_of_ble_eq_true rfl) d_MO_item_77 rfl ?_
          intro v G11 hq
          rcases hq with ⟨w212, f213, p214, hv, hfk, hlk, hsk, hN80, hq15, hq16, hq17⟩ | ⟨v18, w219, a220, hv, hfk, hlk, hsk, hN80, hq21, hq22, hq23⟩
          · cases hv
            have h84 := hfk.get h84 (by decide)
            have h93 := hfk.get h93 (by decide)
            have h87 := hfk.get h87 (by decide)
            have h88 := hfk.get h88 (by decide)
            have h81 := hfk.get h81 (by decide)
            have h82 := hfk.get h82 (by decide)
            have hfr := hfr.tr hfk (by decide)
            have hlen := hlk.trans hlen
            have hsl := hsk.trans hsl
            have h80 := hN80
            change ab_W _ _ _ G11 80 [some (vR 80), some (vz m_at), none, none] [vz (-1)] _
            refine ab_istore_n d_MO_item_80 (Nat.le_of_ble_eq_true rfl) (Nat.le_of_ble_eq_true rfl) rfl ?_
            change ab_W _ _ _ G11 81 [some (vR 80), some (vz m_at), some (vz (-1)), none] [] _
            refine ab_iload_n d_MO_item_81 rfl ?_
            refine ab_istore_n d_MO_item_82 (Nat.le_of_ble_eq_true rfl) (Nat.le_of_ble_eq_true rfl) rfl ?_
            change ab_W _ _ _ G11 83 [some (vR 80), some (vz m_at), some (vz (-1)), some (vz (-1))] [] _
            refine ab_aload_n d_MO_item_83 rfl ?_
            refine ab_getf (fs := mof m_thrown m_taped m_length m_out w212 m_gathered m_sets m_ranges m_nodes m_at m_flags f213 p214 m_numbered m_depth m_value m_isNot m_least0 m_most0 m_slot m_work m_got m_rowMany m_charAt m_charWide m_trail m_isMatch m_matchGroups m_allFrom m_allBefore m_founds m_pieces m_writtenMany m_templateWide m_tooMuch) f_MO_273 d_MO_item_84 h80.2.2 rfl ?_
            refine zz_if_ne (tgt := 153) d_MO_item_87 (by decide) (by omega) (fun c24 => ?_) (fun c24 => absurd c24 (by omega))
            refine ab_aload_n d_MO_item_153 rfl ?_
            refine ab_getf (fs := mof m_thrown m_taped m_length m_out w212 m_gathered m_sets m_ranges m_nodes m_at m_flags f213 p214 m_numbered m_depth m_value m_isNot m_least0 m_most0 m_slot m_work m_got m_rowMany m_charAt m_charWide m_trail m_isMatch m_matchGroups m_allFrom m_allBefore m_founds m_pieces m_writtenMany m_templateWide m_tooMuch) f_MO_273 d_MO_item_154 h80.2.2 rfl ?_
            refine zz_if_ne (tgt := 171) d_MO_item_157 (by decide) (by omega) (fun c25 => ?_) (fun c25 => absurd c25 (by omega))
            refine ab_vret rfl d_MO_item_171 ?_
            rw [hQ]; exact (Or.inl ⟨_, _, _, _, _, _, _, _, _, _, rfl, hfr, hlen, hsl, h80, h87, h88, h93, (by omega), (by first | exact jmk | exact rgs_w jmk (by omega)), (by exact fun op => Or.inr (Or.inl ⟨(fun z => by have z1 := z.1; have z2 := z.2; omega), Or.inr (Or.inl ⟨by omega, by omega, hq17, by omega, by omega⟩)⟩))⟩)
          · cases hv
            have h84 := hfk.get h84 (by decide)
            have h93 := hfk.get h93 (by decide)
            have h87 := hfk.get h87 (by decide)
            have h88 := hfk.get h88 (by decide)
            have h81 := hfk.get h81 (by decide)
            have h82 := hfk.get h82 (by decide)
            have hfr := hfr.tr hfk (by decide)
            have hlen := hlk.trans hlen
            have hsl := hsk.trans hsl
            have h80 := hN80
            change ab_W _ _ _ G11 80 [some (vR 80), some (vz m_at), none, none] [vz v18] _
            refine ab_istore_n d_MO_item_80 (Nat.le_of_ble_eq_true rfl) (Nat.le_of_ble_eq_true rfl) rfl ?_
            change ab_W _ _ _ G11 81 [some (vR 80), some (vz m_at), some (vz v18), none] [] _
            refine ab_iload_n d_MO_item_81 rfl ?_
            refine ab_istore_n d_MO_item_82 (Nat.le_of_ble_eq_true rfl) (Nat.le_of_ble_eq_true rfl) rfl ?_
            change ab_W _ _ _ G11 83 [some (vR 80), some (vz m_at), some (vz v18), some (vz v18)] [] _
            refine ab_aload_n d_MO_item_83 rfl ?_
            refine ab_getf (fs := mof m_thrown m_taped m_length m_out w219 m_gathered m_sets m_ranges m_nodes a220 m_flags m_fault m_place m_numbered m_depth m_value m_isNot m_least0 m_most0 m_slot m_work m_got m_rowMany m_charAt m_charWide m_trail m_isMatch m_matchGroups m_allFrom m_allBefore m_founds m_pieces m_writtenMany m_templateWide m_tooMuch) f_MO_273 d_MO_item_84 h80.2.2 rfl ?_
            refine zz_if_ne (tgt := 153) d_MO_item_87 (by decide) (by omega) (fun c26 => absurd c26 (by omega)) (fun c26 => ?_)
            refine ab_aload_n d_MO_item_90 rfl ?_
            refine zz_iconst d_MO_item_91 ?_
            refine ab_callV (d' := d - 1) (as := [vz 0]) (st := []) (r := _) (z_MO_here (o := o) (m_thrown := m_thrown) (m_taped := m_taped) (m_length := m_length) (m_out := m_out) (m_wide := w219) (m_gathered := m_gathered) (m_sets := m_sets) (m_ranges := m_ranges) (m_nodes := m_nodes) (m_at := a220) (m_flags := m_flags) (m_fault := m_fault) (m_place := m_place) (m_numbered := m_numbered) (m_depth := m_depth) (m_value := m_value) (m_isNot := m_isNot) (m_least0 := m_least0) (m_most0 := m_most0) (m_slot := m_slot) (m_work := m_work) (m_got := m_got) (m_rowMany := m_rowMany) (m_charAt := m_charAt) (m_charWide := m_charWide) (m_trail := m_trail) (m_isMatch := m_isMatch) (m_matchGroups := m_matchGroups) (m_allFrom := m_allFrom) (m_allBefore := m_allBefore) (m_founds := m_founds) (m_pieces := m_pieces) (m_writtenMany := m_writtenMany) (m_templateWide := m_templateWide) (m_tooMuch := m_tooMuch) (A_tape := A_tape) (k := 0) (qh := a220) h80 h84 (by omega) (by omega) jtp (by omega) (by omega)) (fun oc G2 h => by rcases h with ⟨h, _⟩ | ⟨h, _⟩ <;> exact ⟨_, h⟩) (by omega) m_MO_here ml_MO_297 im_MO_here se_MO_here c_MO h80.2.2 (Nat.le_of_ble_eq_true rfl) d_MO_item_92 rfl ?_
            intro v G27 hq
            rcases hq with ⟨hv, hGe, hq28⟩ | ⟨hv, hGe, hq29, hq30⟩
            · cases hv
              rw [hGe]
              change ab_W _ _ _ G11 95 [some (vR 80), some (vz m_at), some (vz v18), some (vz v18)] [vz (tpk A_tape m_taped a220)] _
              refine zz_bipush d_MO_item_95 (by decide) ?_
              refine zz_icmp_ne (tgt := 153) d_MO_item_97 (by decide) (by omega) (by decide) (fun c31 => ?_) (fun c31 => ?_)
              · refine ab_aload_n d_MO_item_153 rfl ?_
                refine ab_getf (fs := mof m_thrown m_taped m_length m_out w219 m_gathered m_sets m_ranges m_nodes a220 m_flags m_fault m_place m_numbered m_depth m_value m_isNot m_least0 m_most0 m_slot m_work m_got m_rowMany m_charAt m_charWide m_trail m_isMatch m_matchGroups m_allFrom m_allBefore m_founds m_pieces m_writtenMany m_templateWide m_tooMuch) f_MO_273 d_MO_item_154 h80.2.2 rfl ?_
                refine zz_if_ne (tgt := 171) d_MO_item_157 (by decide) (by omega) (fun c32 => absurd c32 (by omega)) (fun c32 => ?_)
                refine ab_aload_n d_MO_item_160 rfl ?_
                refine ab_iload_n d_MO_item_161 rfl ?_
                refine ab_iload_n d_MO_item_162 rfl ?_
                refine ab_aload_n d_MO_item_163 rfl ?_
                refine zz_iconst d_MO_item_164 ?_
                refine ab_callV (d' := d - 1) (as := [vz 1]) (st := [vz v18, vz v18, vR 80]) (r := _) (z1_MO_has (o := o) (m_thrown := m_thrown) (m_taped := m_taped) (m_length := m_length) (m_out := m_out) (m_wide := w219) (m_gathered := m_gathered) (m_sets := m_sets) (m_ranges := m_ranges) (m_nodes := m_nodes) (m_at := a220) (m_flags := m_flags) (m_fault := m_fault) (m_place := m_place) (m_numbered := m_numbered) (m_depth := m_depth) (m_value := m_value) (m_isNot := m_isNot) (m_least0 := m_least0) (m_most0 := m_most0) (m_slot := m_slot) (m_work := m_work) (m_got := m_got) (m_rowMany := m_rowMany) (m_charAt := m_charAt) (m_charWide := m_charWide) (m_trail := m_trail) (m_isMatch := m_isMatch) (m_matchGroups := m_matchGroups) (m_allFrom := m_allFrom) (m_allBefore := m_allBefore) (m_founds := m_founds) (m_pieces := m_pieces) (m_writtenMany := m_writtenMany) (m_templateWide := m_templateWide) (m_tooMuch := m_tooMuch) h80 (by omega)) (fun oc G2 h => by rcases h with ⟨_, h, _⟩ <;> exact ⟨_, h⟩) (by omega) m_MO_has ml_MO_355 im_MO_has se_MO_has c_MO h80.2.2 (Nat.le_of_ble_eq_true rfl) d_MO_item_165 rfl ?_
                intro v G33 hq
                rcases hq with ⟨v34, hv, hGe, hq35, hq36⟩
                cases hv
                rw [hGe]
                change ab_W _ _ _ G11 168 [some (vR 80), some (vz m_at), some (vz v18), some (vz v18)] [vz v34, vz v18, vz v18, vR 80] _
                refine ab_callV (d' := d - 1) (as := [vz v18, vz v18, vz v34]) (st := []) (r := _) (z_MO_gatherLike (o := o) (m_thrown := m_thrown) (m_taped := m_taped) (m_length := m_length) (m_out := m_out) (m_wide := w219) (m_gathered := m_gathered) (m_sets := m_sets) (m_ranges := m_ranges) (m_nodes := m_nodes) (m_at := a220) (m_flags := m_flags) (m_fault := m_fault) (m_place := m_place) (m_numbered := m_numbered) (m_depth := m_depth) (m_value := m_value) (m_isNot := m_isNot) (m_least0 := m_least0) (m_most0 := m_most0) (m_slot := m_slot) (m_work := m_work) (m_got := m_got) (m_rowMany := m_rowMany) (m_charAt := m_charAt) (m_charWide := m_charWide) (m_trail := m_trail) (m_isMatch := m_isMatch) (m_matchGroups := m_matchGroups) (m_allFrom := m_allFrom) (m_allBefore := m_allBefore) (m_founds := m_founds) (m_pieces := m_pieces) (m_writtenMany := m_writtenMany) (m_templateWide := m_templateWide) (m_tooMuch := m_tooMuch) (LO := LO) (HI := HI) (MK := MK) (P := P) (a := v18) (b := v18) (lk := v34) h80 h87 h88 h93 (by omega) (by omega) (by omega) (by omega) jmk jc (by omega)) (fun oc G2 h => by rcases h with ⟨_, _, _, h, _⟩ <;> exact ⟨_, h⟩) (by omega) m_MO_gatherLike ml_MO_358 im_MO_gatherLike se_MO_gatherLike c_MO h80.2.2 (Nat.le_of_ble_eq_true rfl) d_MO_item_168 rfl ?_
                intro v G37 hq
                rcases hq with ⟨LO238, HI239, MK240, hv, hfk, hlk, hsk, hN80, hN87, hN88, hN93, hq41, hq42⟩
                cases hv
                have h84 := hfk.get h84 (by decide)
                have h81 := hfk.get h81 (by decide)
                have h82 := hfk.get h82 (by decide)
                have hfr := hfr.tr hfk (by decide)
                have hlen := hlk.trans hlen
                have hsl := hsk.trans hsl
                have h80 := hN80
                have h87 := hN87
                have h88 := hN88
                have h93 := hN93
                change ab_W _ _ _ G37 171 [some (vR 80), some (vz m_at), some (vz v18), some (vz v18)] [] _
                refine ab_vret rfl d_MO_item_171 ?_
                rw [hQ]; exact (Or.inr ⟨_, _, _, _, _, (mm + 11), _, _, _, (fun x => P x ∨ lkS v34 v18 v18 x), rfl, hfr, hlen, hsl, h80, h87, h88, h93, (by omega), (by first | exact hq41 | exact rgs_w hq41 (by omega)), (by exact hq42), (by exact lfc_or jl (lfc_lk1 (by omega) (by omega))), (by exact Or.inr (Or.inr (Or.inl ⟨(fun z => by have z1 := z.1; have z2 := z.2; omega), _, ⟨Or.inl ⟨by omega, by omega, hq22, hq23⟩, by omega⟩, (fun z => by have z1 := z.1; have z2 := z.2.1; have z3 := z.2.2; omega), (by rw [show m_flags % 2 = v34 by omega]; exact lor_)⟩)))⟩)
              · refine ab_aload_n d_MO_item_100 rfl ?_
                refine zz_iconst d_MO_item_101 ?_
                refine ab_callV (d' := d - 1) (as := [vz 1]) (st := []) (r := _) (z_MO_here (o := o) (m_thrown := m_thrown) (m_taped := m_taped) (m_length := m_length) (m_out := m_out) (m_wide := w219) (m_gathered := m_gathered) (m_sets := m_sets) (m_ranges := m_ranges) (m_nodes := m_nodes) (m_at := a220) (m_flags := m_flags) (m_fault := m_fault) (m_place := m_place) (m_numbered := m_numbered) (m_depth := m_depth) (m_value := m_value) (m_isNot := m_isNot) (m_least0 := m_least0) (m_most0 := m_most0) (m_slot := m_slot) (m_work := m_work) (m_got := m_got) (m_rowMany := m_rowMany) (m_charAt := m_charAt) (m_charWide := m_charWide) (m_trail := m_trail) (m_isMatch := m_isMatch) (m_matchGroups := m_matchGroups) (m_allFrom := m_allFrom) (m_allBefore := m_allBefore) (m_founds := m_founds) (m_pieces := m_pieces) (m_writtenMany := m_writtenMany) (m_templateWide := m_templateWide) (m_tooMuch := m_tooMuch) (A_tape := A_tape) (k := 1) (qh := (a220 + 1)) h80 h84 (by omega) (by omega) jtp (by omega) (by omega)) (fun oc G2 h => by rcases h with ⟨h, _⟩ | ⟨h, _⟩ <;> exact ⟨_, h⟩) (by omega) m_MO_here ml_MO_297 im_MO_here se_MO_here c_MO h80.2.2 (Nat.le_of_ble_eq_true rfl) d_MO_item_102 rfl ?_
                intro v G43 hq
                rcases hq with ⟨hv, hGe, hq44⟩ | ⟨hv, hGe, hq45, hq46⟩
                · cases hv
                  rw [hGe]
                  change ab_W _ _ _ G11 105 [some (vR 80), some (vz m_at), some (vz v18), some (vz v18)] [vz (tpk A_tape m_taped (a220 + 1))] _
                  refine zz_if_lt (tgt := 153) d_MO_item_105 (by decide) (by omega) (fun c47 => absurd c47 (by omega)) (fun c47 => ?_)
                  refine ab_aload_n d_MO_item_108 rfl ?_
                  refine zz_iconst d_MO_item_109 ?_
                  refine ab_callV (d' := d - 1) (as := [vz 1]) (st := []) (r := _) (z_MO_here (o := o) (m_thrown := m_thrown) (m_taped := m_taped) (m_length := m_length) (m_out := m_out) (m_wide := w219) (m_gathered := m_gathered) (m_sets := m_sets) (m_ranges := m_ranges) (m_nodes := m_nodes) (m_at := a220) (m_flags := m_flags) (m_fault := m_fault) (m_place := m_place) (m_numbered := m_numbered) (m_depth := m_depth) (m_value := m_value) (m_isNot := m_isNot) (m_least0 := m_least0) (m_most0 := m_most0) (m_slot := m_slot) (m_work := m_work) (m_got := m_got) (m_rowMany := m_rowMany) (m_charAt := m_charAt) (m_charWide := m_charWide) (m_trail := m_trail) (m_isMatch := m_isMatch) (m_matchGroups := m_matchGroups) (m_allFrom := m_allFrom) (m_allBefore := m_allBefore) (m_founds := m_founds) (m_pieces := m_pieces) (m_writtenMany := m_writtenMany) (m_templateWide := m_templateWide) (m_tooMuch := m_tooMuch) (A_tape := A_tape) (k := 1) (qh := (a220 + 1)) h80 h84 (by omega) (by omega) jtp (by omega) (by omega)) (fun oc G2 h => by rcases h with ⟨h, _⟩ | ⟨h, _⟩ <;> exact ⟨_, h⟩) (by omega) m_MO_here ml_MO_297 im_MO_here se_MO_here c_MO h80.2.2 (Nat.le_of_ble_eq_true rfl) d_MO_item_110 rfl ?_
                  intro v G48 hq
                  rcases hq with ⟨hv, hGe, hq49⟩ | ⟨hv, hGe, hq50, hq51⟩
                  · cases hv
                    rw [hGe]
                    change ab_W _ _ _ G11 113 [some (vR 80), some (vz m_at), some (vz v18), some (vz v18)] [vz (tpk A_tape m_taped (a220 + 1))] _
                    refine zz_bipush d_MO_item_113 (by decide) ?_
                    refine zz_icmp_eq (tgt := 153) d_MO_item_115 (by decide) (by omega) (by decide) (fun c52 => ?_) (fun c52 => ?_)
                    · refine ab_aload_n d_MO_item_153 rfl ?_
                      refine ab_getf (fs := mof m_thrown m_taped m_length m_out w219 m_gathered m_sets m_ranges m_nodes a220 m_flags m_fault m_place m_numbered m_depth m_value m_isNot m_least0 m_most0 m_slot m_work m_got m_rowMany m_charAt m_charWide m_trail m_isMatch m_matchGroups m_allFrom m_allBefore m_founds m_pieces m_writtenMany m_templateWide m_tooMuch) f_MO_273 d_MO_item_154 h80.2.2 rfl ?_
                      refine zz_if_ne (tgt := 171) d_MO_item_157 (by decide) (by omega) (fun c53 => absurd c53 (by omega)) (fun c53 => ?_)
                      refine ab_aload_n d_MO_item_160 rfl ?_
                      refine ab_iload_n d_MO_item_161 rfl ?_
                      refine ab_iload_n d_MO_item_162 rfl ?_
                      refine ab_aload_n d_MO_item_163 rfl ?_
                      refine zz_iconst d_MO_item_164 ?_
                      refine ab_callV (d' := d - 1) (as := [vz 1]) (st := [vz v18, vz v18, vR 80]) (r := _) (z1_MO_has (o := o) (m_thrown := m_thrown) (m_taped := m_taped) (m_length := m_length) (m_out := m_out) (m_wide := w219) (m_gathered := m_gathered) (m_sets := m_sets) (m_ranges := m_ranges) (m_nodes := m_nodes) (m_at := a220) (m_flags := m_flags) (m_fault := m_fault) (m_place := m_place) (m_numbered := m_numbered) (m_depth := m_depth) (m_value := m_value) (m_isNot := m_isNot) (m_least0 := m_least0) (m_most0 := m_most0) (m_slot := m_slot) (m_work := m_work) (m_got := m_got) (m_rowMany := m_rowMany) (m_charAt := m_charAt) (m_charWide := m_charWide) (m_trail := m_trail) (m_isMatch := m_isMatch) (m_matchGroups := m_matchGroups) (m_allFrom := m_allFrom) (m_allBefore := m_allBefore) (m_founds := m_founds) (m_pieces := m_pieces) (m_writtenMany := m_writtenMany) (m_templateWide := m_templateWide) (m_tooMuch := m_tooMuch) h80 (by omega)) (fun oc G2 h => by rcases h with ⟨_, h, _⟩ <;> exact ⟨_, h⟩) (by omega) m_MO_has ml_MO_355 im_MO_has se_MO_has c_MO h80.2.2 (Nat.le_of_ble_eq_true rfl) d_MO_item_165 rfl ?_
                      intro v G54 hq
                      rcases hq with ⟨v55, hv, hGe, hq56, hq57⟩
                      cases hv
                      rw [hGe]
                      change ab_W _ _ _ G11 168 [some (vR 80), some (vz m_at), some (vz v18), some (vz v18)] [vz v55, vz v18, vz v18, vR 80] _
                      refine ab_callV (d' := d - 1) (as := [vz v18, vz v18, vz v55]) (st := []) (r := _) (z_MO_gatherLike (o := o) (m_thrown := m_thrown) (m_taped := m_taped) (m_length := m_length) (m_out := m_out) (m_wide := w219) (m_gathered := m_gathered) (m_sets := m_sets) (m_ranges := m_ranges) (m_nodes := m_nodes) (m_at := a220) (m_flags := m_flags) (m_fault := m_fault) (m_place := m_place) (m_numbered := m_numbered) (m_depth := m_depth) (m_value := m_value) (m_isNot := m_isNot) (m_least0 := m_least0) (m_most0 := m_most0) (m_slot := m_slot) (m_work := m_work) (m_got := m_got) (m_rowMany := m_rowMany) (m_charAt := m_charAt) (m_charWide := m_charWide) (m_trail := m_trail) (m_isMatch := m_isMatch) (m_matchGroups := m_matchGroups) (m_allFrom := m_allFrom) (m_allBefore := m_allBefore) (m_founds := m_founds) (m_pieces := m_pieces) (m_writtenMany := m_writtenMany) (m_templateWide := m_templateWide) (m_tooMuch := m_tooMuch) (LO := LO) (HI := HI) (MK := MK) (P := P) (a := v18) (b := v18) (lk := v55) h80 h87 h88 h93 (by omega) (by omega) (by omega) (by omega) jmk jc (by omega)) (fun oc G2 h => by rcases h with ⟨_, _, _, h, _⟩ <;> exact ⟨_, h⟩) (by omega) m_MO_gatherLike ml_MO_358 im_MO_gatherLike se_MO_gatherLike c_MO h80.2.2 (Nat.le_of_ble_eq_true rfl) d_MO_item_168 rfl ?_
                      intro v G58 hq
                      rcases hq with ⟨LO259, HI260, MK261, hv, hfk, hlk, hsk, hN80, hN87, hN88, hN93, hq62, hq63⟩
                      cases hv
                      have h84 := hfk.get h84 (by decide)
                      have h81 := hfk.get h81 (by decide)
                      have h82 := hfk.get h82 (by decide)
                      have hfr := hfr.tr hfk (by decide)
                      have hlen := hlk.trans hlen
                      have hsl := hsk.trans hsl
                      have h80 := hN80
                      have h87 := hN87
                      have h88 := hN88
                      have h93 := hN93
                      change ab_W _ _ _ G58 171 [some (vR 80), some (vz m_at), some (vz v18), some (vz v18)] [] _
                      refine ab_vret rfl d_MO_item_171 ?_
                      rw [hQ]; exact (Or.inr ⟨_, _, _, _, _, (mm + 11), _, _, _, (fun x => P x ∨ lkS v55 v18 v18 x), rfl, hfr, hlen, hsl, h80, h87, h88, h93, (by omega), (by first | exact hq62 | exact rgs_w hq62 (by omega)), (by exact hq63), (by exact lfc_or jl (lfc_lk1 (by omega) (by omega))), (by exact Or.inr (Or.inr (Or.inl ⟨(fun z => by have z1 := z.1; have z2 := z.2; omega), _, ⟨Or.inl ⟨by omega, by omega, hq22, hq23⟩, by omega⟩, (fun z => by have z1 := z.1; have z2 := z.2.1; have z3 := z.2.2; omega), (by rw [show m_flags % 2 = v55 by omega]; exact lor_)⟩)))⟩)
                    · refine ab_aload_n d_MO_item_118 rfl ?_
                      refine ab_dup d_MO_item_119 rfl ?_
                      refine ab_getf (fs := mof m_thrown m_taped m_length m_out w219 m_gathered m_sets m_ranges m_nodes a220 m_flags m_fault m_place m_numbered m_depth m_value m_isNot m_least0 m_most0 m_slot m_work m_got m_rowMany m_charAt m_charWide m_trail m_isMatch m_matchGroups m_allFrom m_allBefore m_founds m_pieces m_writtenMany m_templateWide m_tooMuch) f_MO_279 d_MO_item_120 h80.2.2 rfl ?_
                      refine zz_iconst d_MO_item_123 ?_
                      refine zz_iadd d_MO_item_124 ?_
                      refine ab_putf (fs := mof m_thrown m_taped m_length m_out w219 m_gathered m_sets m_ranges m_nodes a220 m_flags m_fault m_place m_numbered m_depth m_value m_isNot m_least0 m_most0 m_slot m_work m_got m_rowMany m_charAt m_charWide m_trail m_isMatch m_matchGroups m_allFrom m_allBefore m_founds m_pieces m_writtenMany m_templateWide m_tooMuch) f_MO_279 (Or.inl rfl) d_MO_item_125 h80.2.2 (Nat.le_of_ble_eq_true rfl) (fun _ => ⟨rfl, rfl⟩) (h80.2.1 (by decide)) ?_
                      obtain ⟨G64, eG64⟩ : ∃ z : ab_G, z = List.set G11 80 (ab_ob 12 (mof m_thrown m_taped m_length m_out w219 m_gathered m_sets m_ranges m_nodes (a220 + 1) m_flags m_fault m_place m_numbered m_depth m_value m_isNot m_least0 m_most0 m_slot m_work m_got m_rowMany m_charAt m_charWide m_trail m_isMatch m_matchGroups m_allFrom m_allBefore m_founds m_pieces m_writtenMany m_templateWide m_tooMuch)) := ⟨_, rfl⟩
                      have h84 := h84.keep h80 eG64 (by decide)
                      have h93 := h93.keep h80 eG64 (by decide)
                      have h87 := h87.keep h80 eG64 (by decide)
                      have h88 := h88.keep h80 eG64 (by decide)
                      have h81 := h81.keep h80 eG64 (by decide)
                      have h82 := h82.keep h80 eG64 (by decide)
                      have hlen := (z_len eG64).trans hlen
                      have hsl := (z_sl h80 eG64 rfl).trans hsl
                      have hfr := hfr.wr h80 eG64 (by decide)
                      have h80 := h80.kept eG64
                      change ab_W _ _ _ (List.set G11 80 (ab_ob 12 (mof m_thrown m_taped m_length m_out w219 m_gathered m_sets m_ranges m_nodes (a220 + 1) m_flags m_fault m_place m_numbered m_depth m_value m_isNot m_least0 m_most0 m_slot m_work m_got m_rowMany m_charAt m_charWide m_trail m_isMatch m_matchGroups m_allFrom m_allBefore m_founds m_pieces m_writtenMany m_templateWide m_tooMuch))) 128 [some (vR 80), some (vz m_at), some (vz v18), some (vz v18)] [] _
                      rw [← eG64]
                      refine ab_aload_n d_MO_item_128 rfl ?_
                      refine ab_iload_n d_MO_item_129 rfl ?_
                      refine ab_callV (d' := d - 1) (as := [vz m_at]) (st := []) (r := _) (z_MO_rangeEnd (o := o) (m_thrown := m_thrown) (m_taped := m_taped) (m_length := m_length) (m_out := m_out) (m_wide := w219) (m_gathered := m_gathered) (m_sets := m_sets) (m_ranges := m_ranges) (m_nodes := m_nodes) (m_at := (a220 + 1)) (m_flags := m_flags) (m_fault := m_fault) (m_place := m_place) (m_numbered := m_numbered) (m_depth := m_depth) (m_value := m_value) (m_isNot := m_isNot) (m_least0 := m_least0) (m_most0 := m_most0) (m_slot := m_slot) (m_work := m_work) (m_got := m_got) (m_rowMany := m_rowMany) (m_charAt := m_charAt) (m_charWide := m_charWide) (m_trail := m_trail) (m_isMatch := m_isMatch) (m_matchGroups := m_matchGroups) (m_allFrom := m_allFrom) (m_allBefore := m_allBefore) (m_founds := m_founds) (m_pieces := m_pieces) (m_writtenMany := m_writtenMany) (m_templateWide := m_templateWide) (m_tooMuch := m_tooMuch) (A_tape := A_tape) (wh := m_at) h80 h84 (by omega) (by omega) jtp (by omega) (by omega) (by omega) (by omega)) (fun oc G2 h => by rcases h with ⟨_, _, _, _, _, _, _, h, _⟩ | ⟨_, _, _, _, h, _⟩ <;> exact ⟨_, h⟩) (by omega) m_MO_rangeEnd ml_MO_352 im_MO_rangeEnd se_MO_rangeEnd c_MO h80.2.2 (Nat.le_of_ble_eq_true rfl) d_MO_item_130 rfl ?_
                      intro v G65 hq
                      rcases hq with ⟨v66, a267, f268, p269, v270, nt271, w272, hv, hfk, hlk, hsk, hN80, hq73, hq74⟩ | ⟨v75, a276, v277, w278, hv, hfk, hlk, hsk, hN80, hq79, hq80, hq81⟩
                      · cases hv
                        have h84 := hfk.get h84 (by decide)
                        have h93 := hfk.get h93 (by decide)
                        have h87 := hfk.get h87 (by decide)
                        have h88 := hfk.get h88 (by decide)
                        have h81 := hfk.get h81 (by decide)
                        have h82 := hfk.get h82 (by decide)
                        have hfr := hfr.tr hfk (by decide)
                        have hlen := hlk.trans hlen
                        have hsl := hsk.trans hsl
                        have h80 := hN80
                        change ab_W _ _ _ G65 133 [some (vR 80), some (vz m_at), some (vz v18), some (vz v18)] [vz v66] _
                        refine ab_istore_n d_MO_item_133 (Nat.le_of_ble_eq_true rfl) (Nat.le_of_ble_eq_true rfl) rfl ?_
                        change ab_W _ _ _ G65 134 [some (vR 80), some (vz m_at), some (vz v18), some (vz v66)] [] _
                        refine ab_aload_n d_MO_item_134 rfl ?_
                        refine ab_getf (fs := mof m_thrown m_taped m_length m_out w272 m_gathered m_sets m_ranges m_nodes a267 m_flags f268 p269 m_numbered m_depth v270 nt271 m_least0 m_most0 m_slot m_work m_got m_rowMany m_charAt m_charWide m_trail m_isMatch m_matchGroups m_allFrom m_allBefore m_founds m_pieces m_writtenMany m_templateWide m_tooMuch) f_MO_273 d_MO_item_135 h80.2.2 rfl ?_
                        refine zz_if_ne (tgt := 153) d_MO_item_138 (by decide) (by omega) (fun c82 => ?_) (fun c82 => absurd c82 (by omega))
                        refine ab_aload_n d_MO_item_153 rfl ?_
                        refine ab_getf (fs := mof m_thrown m_taped m_length m_out w272 m_gathered m_sets m_ranges m_nodes a267 m_flags f268 p269 m_numbered m_depth v270 nt271 m_least0 m_most0 m_slot m_work m_got m_rowMany m_charAt m_charWide m_trail m_isMatch m_matchGroups m_allFrom m_allBefore m_founds m_pieces m_writtenMany m_templateWide m_tooMuch) f_MO_273 d_MO_item_154 h80.2.2 rfl ?_
                        refine zz_if_ne (tgt := 171) d_MO_item_157 (by decide) (by omega) (fun c83 => ?_) (fun c83 => absurd c83 (by omega))
                        refine ab_vret rfl d_MO_item_171 ?_
                        rw [hQ]; exact (Or.inl ⟨_, _, _, _, _, _, _, _, _, _, rfl, hfr, hlen, hsl, h80, h87, h88, h93, (by omega), (by first | exact jmk | exact rgs_w jmk (by omega)), (by exact fun op => Or.inr (Or.inr ⟨(fun z => by have z1 := z.1; have z2 := z.2; omega), _, _, ⟨Or.inl ⟨by omega, by omega, hq22, hq23⟩, by omega⟩, ⟨by omega, by omega, by omega⟩, (by rcases hq74 with y | ⟨y0, y | y⟩; (exact Or.inl y); (exact Or.inr ⟨y0, Or.inl y⟩); (exact Or.inr ⟨y0, Or.inr (Or.inl (y op))⟩))⟩))⟩)
                      · cases hv
                        have h84 := hfk.get h84 (by decide)
                        have h93 := hfk.get h93 (by decide)
                        have h87 := hfk.get h87 (by decide)
                        have h88 := hfk.get h88 (by decide)
                        have h81 := hfk.get h81 (by decide)
                        have h82 := hfk.get h82 (by decide)
                        have hfr := hfr.tr hfk (by decide)
                        have hlen := hlk.trans hlen
                        have hsl := hsk.trans hsl
                        have h80 := hN80
                        change ab_W _ _ _ G65 133 [some (vR 80), some (vz m_at), some (vz v18), some (vz v18)] [vz v75] _
                        refine ab_istore_n d_MO_item_133 (Nat.le_of_ble_eq_true rfl) (Nat.le_of_ble_eq_true rfl) rfl ?_
                        change ab_W _ _ _ G65 134 [some (vR 80), some (vz m_at), some (vz v18), some (vz v75)] [] _
                        refine ab_aload_n d_MO_item_134 rfl ?_
                        refine ab_getf (fs := mof m_thrown m_taped m_length m_out w278 m_gathered m_sets m_ranges m_nodes a276 m_flags m_fault m_place m_numbered m_depth v277 m_isNot m_least0 m_most0 m_slot m_work m_got m_rowMany m_charAt m_charWide m_trail m_isMatch m_matchGroups m_allFrom m_allBefore m_founds m_pieces m_writtenMany m_templateWide m_tooMuch) f_MO_273 d_MO_item_135 h80.2.2 rfl ?_
                        refine zz_if_ne (tgt := 153) d_MO_item_138 (by decide) (by omega) (fun c84 => absurd c84 (by omega)) (fun c84 => ?_)
                        refine ab_iload_n d_MO_item_141 rfl ?_
                        refine ab_iload_n d_MO_item_142 rfl ?_
                        refine zz_icmp_ge (tgt := 153) d_MO_item_143 (by decide) (by omega) (by omega) (fun c85 => ?_) (fun c85 => ?_)
                        · refine ab_aload_n d_MO_item_153 rfl ?_
                          refine ab_getf (fs := mof m_thrown m_taped m_length m_out w278 m_gathered m_sets m_ranges m_nodes a276 m_flags m_fault m_place m_numbered m_depth v277 m_isNot m_least0 m_most0 m_slot m_work m_got m_rowMany m_charAt m_charWide m_trail m_isMatch m_matchGroups m_allFrom m_allBefore m_founds m_pieces m_writtenMany m_templateWide m_tooMuch) f_MO_273 d_MO_item_154 h80.2.2 rfl ?_
                          refine zz_if_ne (tgt := 171) d_MO_item_157 (by decide) (by omega) (fun c86 => absurd c86 (by omega)) (fun c86 => ?_)
                          refine ab_aload_n d_MO_item_160 rfl ?_
                          refine ab_iload_n d_MO_item_161 rfl ?_
                          refine ab_iload_n d_MO_item_162 rfl ?_
                          refine ab_aload_n d_MO_item_163 rfl ?_
                          refine zz_iconst d_MO_item_164 ?_
                          refine ab_callV (d' := d - 1) (as := [vz 1]) (st := [vz v75, vz v18, vR 80]) (r := _) (z1_MO_has (o := o) (m_thrown := m_thrown) (m_taped := m_taped) (m_length := m_length) (m_out := m_out) (m_wide := w278) (m_gathered := m_gathered) (m_sets := m_sets) (m_ranges := m_ranges) (m_nodes := m_nodes) (m_at := a276) (m_flags := m_flags) (m_fault := m_fault) (m_place := m_place) (m_numbered := m_numbered) (m_depth := m_depth) (m_value := v277) (m_isNot := m_isNot) (m_least0 := m_least0) (m_most0 := m_most0) (m_slot := m_slot) (m_work := m_work) (m_got := m_got) (m_rowMany := m_rowMany) (m_charAt := m_charAt) (m_charWide := m_charWide) (m_trail := m_trail) (m_isMatch := m_isMatch) (m_matchGroups := m_matchGroups) (m_allFrom := m_allFrom) (m_allBefore := m_allBefore) (m_founds := m_founds) (m_pieces := m_pieces) (m_writtenMany := m_writtenMany) (m_templateWide := m_templateWide) (m_tooMuch := m_tooMuch) h80 (by omega)) (fun oc G2 h => by rcases h with ⟨_, h, _⟩ <;> exact ⟨_, h⟩) (by omega) m_MO_has ml_MO_355 im_MO_has se_MO_has c_MO h80.2.2 (Nat.le_of_ble_eq_true rfl) d_MO_item_165 rfl ?_
                          intro v G87 hq
                          rcases hq with ⟨v88, hv, hGe, hq89, hq90⟩
                          cases hv
                          rw [hGe]
                          change ab_W _ _ _ G65 168 [some (vR 80), some (vz m_at), some (vz v18), some (vz v75)] [vz v88, vz v75, vz v18, vR 80] _
                          refine ab_callV (d' := d - 1) (as := [vz v18, vz v75, vz v88]) (st := []) (r := _) (z_MO_gatherLike (o := o) (m_thrown := m_thrown) (m_taped := m_taped) (m_length := m_length) (m_out := m_out) (m_wide := w278) (m_gathered := m_gathered) (m_sets := m_sets) (m_ranges := m_ranges) (m_nodes := m_nodes) (m_at := a276) (m_flags := m_flags) (m_fault := m_fault) (m_place := m_place) (m_numbered := m_numbered) (m_depth := m_depth) (m_value := v277) (m_isNot := m_isNot) (m_least0 := m_least0) (m_most0 := m_most0) (m_slot := m_slot) (m_work := m_work) (m_got := m_got) (m_rowMany := m_rowMany) (m_charAt := m_charAt) (m_charWide := m_charWide) (m_trail := m_trail) (m_isMatch := m_isMatch) (m_matchGroups := m_matchGroups) (m_allFrom := m_allFrom) (m_allBefore := m_allBefore) (m_founds := m_founds) (m_pieces := m_pieces) (m_writtenMany := m_writtenMany) (m_templateWide := m_templateWide) (m_tooMuch := m_tooMuch) (LO := LO) (HI := HI) (MK := MK) (P := P) (a := v18) (b := v75) (lk := v88) h80 h87 h88 h93 (by omega) (by omega) (by omega) (by omega) jmk jc (by omega)) (fun oc G2 h => by rcases h with ⟨_, _, _, h, _⟩ <;> exact ⟨_, h⟩) (by omega) m_MO_gatherLike ml_MO_358 im_MO_gatherLike se_MO_gatherLike c_MO h80.2.2 (Nat.le_of_ble_eq_true rfl) d_MO_item_168 rfl ?_
                          intro v G91 hq
                          rcases hq with ⟨LO292, HI293, MK294, hv, hfk, hlk, hsk, hN80, hN87, hN88, hN93, hq95, hq96⟩
                          cases hv
                          have h84 := hfk.get h84 (by decide)
                          have h81 := hfk.get h81 (by decide)
                          have h82 := hfk.get h82 (by decide)
                          have hfr := hfr.tr hfk (by decide)
                          have hlen := hlk.trans hlen
                          have hsl := hsk.trans hsl
                          have h80 := hN80
                          have h87 := hN87
                          have h88 := hN88
                          have h93 := hN93
                          change ab_W _ _ _ G91 171 [some (vR 80), some (vz m_at), some (vz v18), some (vz v75)] [] _
                          refine ab_vret rfl d_MO_item_171 ?_
                          rw [hQ]; exact (Or.inr ⟨_, _, _, _, _, (mm + 33), _, _, _, (fun x => P x ∨ lkS v88 v18 v75 x), rfl, hfr, hlen, hsl, h80, h87, h88, h93, (by omega), (by first | exact hq95 | exact rgs_w hq95 (by omega)), (by exact hq96), (by exact lfc_or jl (lfc_lk (by omega))), (by exact Or.inr (Or.inr (Or.inr ⟨(fun z => by have z1 := z.1; have z2 := z.2; omega), _, _, _, ⟨Or.inl ⟨by omega, by omega, hq22, hq23⟩, by omega⟩, ⟨by omega, by omega, by omega⟩, hq80, hq81, by omega, (by rw [show m_flags % 2 = v88 by omega]; exact lor_)⟩)))⟩)
                        · refine ab_aload_n d_MO_item_146 rfl ?_
                          refine zz_bipush d_MO_item_147 (by decide) ?_
                          refine ab_iload_n d_MO_item_149 rfl ?_
                          refine ab_callV (d' := d - 1) (as := [vz 6, vz m_at]) (st := []) (r := _) (z_MO_wrong (o := o) (m_thrown := m_thrown) (m_taped := m_taped) (m_length := m_length) (m_out := m_out) (m_wide := w278) (m_gathered := m_gathered) (m_sets := m_sets) (m_ranges := m_ranges) (m_nodes := m_nodes) (m_at := a276) (m_flags := m_flags) (m_fault := m_fault) (m_place := m_place) (m_numbered := m_numbered) (m_depth := m_depth) (m_value := v277) (m_isNot := m_isNot) (m_least0 := m_least0) (m_most0 := m_most0) (m_slot := m_slot) (m_work := m_work) (m_got := m_got) (m_rowMany := m_rowMany) (m_charAt := m_charAt) (m_charWide := m_charWide) (m_trail := m_trail) (m_isMatch := m_isMatch) (m_matchGroups := m_matchGroups) (m_allFrom := m_allFrom) (m_allBefore := m_allBefore) (m_founds := m_founds) (m_pieces := m_pieces) (m_writtenMany := m_writtenMany) (m_templateWide := m_templateWide) (m_tooMuch := m_tooMuch) (x := 6) (y := m_at) h80 (by omega) (by omega)) (fun oc G2 h => by rcases h with ⟨h, _⟩ | ⟨h, _⟩ <;> exact ⟨_, h⟩) (by omega) m_MO_wrong ml_MO_304 im_MO_wrong se_MO_wrong c_MO h80.2.2 (Nat.le_of_ble_eq_true rfl) d_MO_item_150 rfl ?_
                          intro v G97 hq
                          rcases hq with ⟨hv, hfk, hlk, hsk, hN80, hq98⟩ | ⟨hv, hGe, hq99⟩
                          · cases hv
                            have h84 := hfk.get h84 (by decide)
                            have h93 := hfk.get h93 (by decide)
                            have h87 := hfk.get h87 (by decide)
                            have h88 := hfk.get h88 (by decide)
                            have h81 := hfk.get h81 (by decide)
                            have h82 := hfk.get h82 (by decide)
                            have hfr := hfr.tr hfk (by decide)
                            have hlen := hlk.trans hlen
                            have hsl := hsk.trans hsl
                            have h80 := hN80
                            change ab_W _ _ _ G97 153 [some (vR 80), some (vz m_at), some (vz v18), some (vz v75)] [] _
                            refine ab_aload_n d_MO_item_153 rfl ?_
                            refine ab_getf (fs := mof m_thrown m_taped m_length m_out w278 m_gathered m_sets m_ranges m_nodes a276 m_flags 6 m_at m_numbered m_depth v277 m_isNot m_least0 m_most0 m_slot m_work m_got m_rowMany m_charAt m_charWide m_trail m_isMatch m_matchGroups m_allFrom m_allBefore m_founds m_pieces m_writtenMany m_templateWide m_tooMuch) f_MO_273 d_MO_item_154 h80.2.2 rfl ?_
                            refine zz_if_ne (tgt := 171) d_MO_item_157 (by decide) (by decide) (fun c100 => ?_) (fun c100 => absurd c100 (by decide))
                            refine ab_vret rfl d_MO_item_171 ?_
                            rw [hQ]; exact (Or.inl ⟨_, _, _, _, _, _, _, _, _, _, rfl, hfr, hlen, hsl, h80, h87, h88, h93, (by omega), (by first | exact jmk | exact rgs_w jmk (by omega)), (by exact fun op => Or.inr (Or.inr ⟨(fun z => by have z1 := z.1; have z2 := z.2; omega), _, _, ⟨Or.inl ⟨by omega, by omega, hq22, hq23⟩, by omega⟩, ⟨by omega, by omega, by omega⟩, Or.inr ⟨hq80, Or.inr (Or.inr ⟨by omega, by omega, _, _, ⟨hq81, by omega⟩, by omega⟩)⟩⟩))⟩)
                          · cases hv
                            rw [hGe]
                            change ab_W _ _ _ G65 153 [some (vR 80), some (vz m_at), some (vz v18), some (vz v75)] [] _
                            exfalso; omega
                  · cases hv
                    rw [hGe]
                    change ab_W _ _ _ G11 113 [some (vR 80), some (vz m_at), some (vz v18), some (vz v18)] [vz (-1)] _
                    exfalso; omega
                · cases hv
                  rw [hGe]
                  change ab_W _ _ _ G11 105 [some (vR 80), some (vz m_at), some (vz v18), some (vz v18)] [vz (-1)] _
                  refine zz_if_lt (tgt := 153) d_MO_item_105 (by decide) (by decide) (fun c101 => ?_) (fun c101 => absurd c101 (by decide))
                  refine ab_aload_n d_MO_item_153 rfl ?_
                  refine ab_getf (fs := mof m_thrown m_taped m_length m_out w219 m_gathered m_sets m_ranges m_nodes a220 m_flags m_fault m_place m_numbered m_depth m_value m_isNot m_least0 m_most0 m_slot m_work m_got m_rowMany m_charAt m_charWide m_trail m_isMatch m_matchGroups m_allFrom m_allBefore m_founds m_pieces m_writtenMany m_templateWide m_tooMuch) f_MO_273 d_MO_item_154 h80.2.2 rfl ?_
                  refine zz_if_ne (tgt := 171) d_MO_item_157 (by decide) (by omega) (fun c102 => absurd c102 (by omega)) (fun c102 => ?_)
                  refine ab_aload_n d_MO_item_160 rfl ?_
                  refine ab_iload_n d_MO_item_161 rfl ?_
                  refine ab_iload_n d_MO_item_162 rfl ?_
                  refine ab_aload_n d_MO_item_163 rfl ?_
                  refine zz_iconst d_MO_item_164 ?_
                  refine ab_callV (d' := d - 1) (as := [vz 1]) (st := [vz v18, vz v18, vR 80]) (r := _) (z1_MO_has (o := o) (m_thrown := m_thrown) (m_taped := m_taped) (m_length := m_length) (m_out := m_out) (m_wide := w219) (m_gathered := m_gathered) (m_sets := m_sets) (m_ranges := m_ranges) (m_nodes := m_nodes) (m_at := a220) (m_flags := m_flags) (m_fault := m_fault) (m_place := m_place) (m_numbered := m_numbered) (m_depth := m_depth) (m_value := m_value) (m_isNot := m_isNot) (m_least0 := m_least0) (m_most0 := m_most0) (m_slot := m_slot) (m_work := m_work) (m_got := m_got) (m_rowMany := m_rowMany) (m_charAt := m_charAt) (m_charWide := m_charWide) (m_trail := m_trail) (m_isMatch := m_isMatch) (m_matchGroups := m_matchGroups) (m_allFrom := m_allFrom) (m_allBefore := m_allBefore) (m_founds := m_founds) (m_pieces := m_pieces) (m_writtenMany := m_writtenMany) (m_templateWide := m_templateWide) (m_tooMuch := m_tooMuch) h80 (by omega)) (fun oc G2 h => by rcases h with ⟨_, h, _⟩ <;> exact ⟨_, h⟩) (by omega) m_MO_has ml_MO_355 im_MO_has se_MO_has c_MO h80.2.2 (Nat.le_of_ble_eq_true rfl) d_MO_item_165 rfl ?_
                  intro v G103 hq
                  rcases hq with ⟨v104, hv, hGe, hq105, hq106⟩
                  cases hv
                  rw [hGe]
                  change ab_W _ _ _ G11 168 [some (vR 80), some (vz m_at), some (vz v18), some (vz v18)] [vz v104, vz v18, vz v18, vR 80] _
                  refine ab_callV (d' := d - 1) (as := [vz v18, vz v18, vz v104]) (st := []) (r := _) (z_MO_gatherLike (o := o) (m_thrown := m_thrown) (m_taped := m_taped) (m_length := m_length) (m_out := m_out) (m_wide := w219) (m_gathered := m_gathered) (m_sets := m_sets) (m_ranges := m_ranges) (m_nodes := m_nodes) (m_at := a220) (m_flags := m_flags) (m_fault := m_fault) (m_place := m_place) (m_numbered := m_numbered) (m_depth := m_depth) (m_value := m_value) (m_isNot := m_isNot) (m_least0 := m_least0) (m_most0 := m_most0) (m_slot := m_slot) (m_work := m_work) (m_got := m_got) (m_rowMany := m_rowMany) (m_charAt := m_charAt) (m_charWide := m_charWide) (m_trail := m_trail) (m_isMatch := m_isMatch) (m_matchGroups := m_matchGroups) (m_allFrom := m_allFrom) (m_allBefore := m_allBefore) (m_founds := m_founds) (m_pieces := m_pieces) (m_writtenMany := m_writtenMany) (m_templateWide := m_templateWide) (m_tooMuch := m_tooMuch) (LO := LO) (HI := HI) (MK := MK) (P := P) (a := v18) (b := v18) (lk := v104) h80 h87 h88 h93 (by omega) (by omega) (by omega) (by omega) jmk jc (by omega)) (fun oc G2 h => by rcases h with ⟨_, _, _, h, _⟩ <;> exact ⟨_, h⟩) (by omega) m_MO_gatherLike ml_MO_358 im_MO_gatherLike se_MO_gatherLike c_MO h80.2.2 (Nat.le_of_ble_eq_true rfl) d_MO_item_168 rfl ?_
                  intro v G107 hq
                  rcases hq with ⟨LO2108, HI2109, MK2110, hv, hfk, hlk, hsk, hN80, hN87, hN88, hN93, hq111, hq112⟩
                  cases hv
                  have h84 := hfk.get h84 (by decide)
                  have h81 := hfk.get h81 (by decide)
                  have h82 := hfk.get h82 (by decide)
                  have hfr := hfr.tr hfk (by decide)
                  have hlen := hlk.trans hlen
                  have hsl := hsk.trans hsl
                  have h80 := hN80
                  have h87 := hN87
                  have h88 := hN88
                  have h93 := hN93
                  change ab_W _ _ _ G107 171 [some (vR 80), some (vz m_at), some (vz v18), some (vz v18)] [] _
                  refine ab_vret rfl d_MO_item_171 ?_
                  rw [hQ]; exact (Or.inr ⟨_, _, _, _, _, (mm + 11), _, _, _, (fun x => P x ∨ lkS v104 v18 v18 x), rfl, hfr, hlen, hsl, h80, h87, h88, h93, (by omega), (by first | exact hq111 | exact rgs_w hq111 (by omega)), (by exact hq112), (by exact lfc_or jl (lfc_lk1 (by omega) (by omega))), (by exact Or.inr (Or.inr (Or.inl ⟨(fun z => by have z1 := z.1; have z2 := z.2; omega), _, ⟨Or.inl ⟨by omega, by omega, hq22, hq23⟩, by omega⟩, (fun z => by have z1 := z.1; have z2 := z.2.1; have z3 := z.2.2; omega), (by rw [show m_flags % 2 = v104 by omega]; exact lor_)⟩)))⟩)
            · cases hv
              rw [hGe]
              change ab_W _ _ _ G11 95 [some (vR 80), some (vz m_at), some (vz v18), some (vz v18)] [vz (-1)] _
              refine zz_bipush d_MO_item_95 (by decide) ?_
              refine zz_icmp_ne (tgt := 153) d_MO_item_97 (by decide) (by decide) (by decide) (fun c113 => ?_) (fun c113 => absurd c113 (by decide))
              refine ab_aload_n d_MO_item_153 rfl ?_
              refine ab_getf (fs := mof m_thrown m_taped m_length m_out w219 m_gathered m_sets m_ranges m_nodes a220 m_flags m_fault m_place m_numbered m_depth m_value m_isNot m_least0 m_most0 m_slot m_work m_got m_rowMany m_charAt m_charWide m_trail m_isMatch m_matchGroups m_allFrom m_allBefore m_founds m_pieces m_writtenMany m_templateWide m_tooMuch) f_MO_273 d_MO_item_154 h80.2.2 rfl ?_
              refine zz_if_ne (tgt := 171) d_MO_item_157 (by decide) (by omega) (fun c114 => absurd c114 (by omega)) (fun c114 => ?_)
              refine ab_aload_n d_MO_item_160 rfl ?_
              refine ab_iload_n d_MO_item_161 rfl ?_
              refine ab_iload_n d_MO_item_162 rfl ?_
              refine ab_aload_n d_MO_item_163 rfl ?_
              refine zz_iconst d_MO_item_164 ?_
              refine ab_callV (d' := d - 1) (as := [vz 1]) (st := [vz v18, vz v18, vR 80]) (r := _) (z1_MO_has (o := o) (m_thrown := m_thrown) (m_taped := m_taped) (m_length := m_length) (m_out := m_out) (m_wide := w219) (m_gathered := m_gathered) (m_sets := m_sets) (m_ranges := m_ranges) (m_nodes := m_nodes) (m_at := a220) (m_flags := m_flags) (m_fault := m_fault) (m_place := m_place) (m_numbered := m_numbered) (m_depth := m_depth) (m_value := m_value) (m_isNot := m_isNot) (m_least0 := m_least0) (m_most0 := m_most0) (m_slot := m_slot) (m_work := m_work) (m_got := m_got) (m_rowMany := m_rowMany) (m_charAt := m_charAt) (m_charWide := m_charWide) (m_trail := m_trail) (m_isMatch := m_isMatch) (m_matchGroups := m_matchGroups) (m_allFrom := m_allFrom) (m_allBefore := m_allBefore) (m_founds := m_founds) (m_pieces := m_pieces) (m_writtenMany := m_writtenMany) (m_templateWide := m_templateWide) (m_tooMuch := m_tooMuch) h80 (by omega)) (fun oc G2 h => by rcases h with ⟨_, h, _⟩ <;> exact ⟨_, h⟩) (by omega) m_MO_has ml_MO_355 im_MO_has se_MO_has c_MO h80.2.2 (Nat.le_of_ble_eq_true rfl) d_MO_item_165 rfl ?_
              intro v G115 hq
              rcases hq with ⟨v116, hv, hGe, hq117, hq118⟩
              cases hv
              rw [hGe]
              change ab_W _ _ _ G11 168 [some (vR 80), some (vz m_at), some (vz v18), some (vz v18)] [vz v116, vz v18, vz v18, vR 80] _
              refine ab_callV (d' := d - 1) (as := [vz v18, vz v18, vz v116]) (st := []) (r := _) (z_MO_gatherLike (o := o) (m_thrown := m_thrown) (m_taped := m_taped) (m_length := m_length) (m_out := m_out) (m_wide := w219) (m_gathered := m_gathered) (m_sets := m_sets) (m_ranges := m_ranges) (m_nodes := m_nodes) (m_at := a220) (m_flags := m_flags) (m_fault := m_fault) (m_place := m_place) (m_numbered := m_numbered) (m_depth := m_depth) (m_value := m_value) (m_isNot := m_isNot) (m_least0 := m_least0) (m_most0 := m_most0) (m_slot := m_slot) (m_work := m_work) (m_got := m_got) (m_rowMany := m_rowMany) (m_charAt := m_charAt) (m_charWide := m_charWide) (m_trail := m_trail) (m_isMatch := m_isMatch) (m_matchGroups := m_matchGroups) (m_allFrom := m_allFrom) (m_allBefore := m_allBefore) (m_founds := m_founds) (m_pieces := m_pieces) (m_writtenMany := m_writtenMany) (m_templateWide := m_templateWide) (m_tooMuch := m_tooMuch) (LO := LO) (HI := HI) (MK := MK) (P := P) (a := v18) (b := v18) (lk := v116) h80 h87 h88 h93 (by omega) (by omega) (by omega) (by omega) jmk jc (by omega)) (fun oc G2 h => by rcases h with ⟨_, _, _, h, _⟩ <;> exact ⟨_, h⟩) (by omega) m_MO_gatherLike ml_MO_358 im_MO_gatherLike se_MO_gatherLike c_MO h80.2.2 (Nat.le_of_ble_eq_true rfl) d_MO_item_168 rfl ?_
              intro v G119 hq
              rcases hq with ⟨LO2120, HI2121, MK2122, hv, hfk, hlk, hsk, hN80, hN87, hN88, hN93, hq123, hq124⟩
              cases hv
              have h84 := hfk.get h84 (by decide)
              have h81 := hfk.get h81 (by decide)
              have h82 := hfk.get h82 (by decide)
              have hfr := hfr.tr hfk (by decide)
              have hlen := hlk.trans hlen
              have hsl := hsk.trans hsl
              have h80 := hN80
              have h87 := hN87
              have h88 := hN88
              have h93 := hN93
              change ab_W _ _ _ G119 171 [some (vR 80), some (vz m_at), some (vz v18), some (vz v18)] [] _
              refine ab_vret rfl d_MO_item_171 ?_
              rw [hQ]; exact (Or.inr ⟨_, _, _, _, _, (mm + 11), _, _, _, (fun x => P x ∨ lkS v116 v18 v18 x), rfl, hfr, hlen, hsl, h80, h87, h88, h93, (by omega), (by first | exact hq123 | exact rgs_w hq123 (by omega)), (by exact hq124), (by exact lfc_or jl (lfc_lk1 (by omega) (by omega))), (by exact Or.inr (Or.inr (Or.inl ⟨(fun z => by have z1 := z.1; have z2 := z.2; omega), _, ⟨Or.inl ⟨by omega, by omega, hq22, hq23⟩, by omega⟩, (fun z => by have z1 := z.1; have z2 := z.2.1; have z3 := z.2.2; omega), (by rw [show m_flags % 2 = v116 by omega]; exact lor_)⟩)))⟩)
        · refine ab_aload_n d_MO_item_40 rfl ?_
          refine zz_iconst d_MO_item_41 ?_
          refine ab_callV (d' := d - 1) (as := [vz 1]) (st := []) (r := _) (z_MO_escape (o := o) (m_thrown := m_thrown) (m_taped := m_taped) (m_length := m_length) (m_out := m_out) (m_wide := m_wide) (m_gathered := m_gathered) (m_sets := m_sets) (m_ranges := m_ranges) (m_nodes := m_nodes) (m_at := m_at) (m_flags := m_flags) (m_fault := m_fault) (m_place := m_place) (m_numbered := m_numbered) (m_depth := m_depth) (m_value := m_value) (m_isNot := m_isNot) (m_least0 := m_least0) (m_most0 := m_most0) (m_slot := m_slot) (m_work := m_work) (m_got := m_got) (m_rowMany := m_rowMany) (m_charAt := m_charAt) (m_charWide := m_charWide) (m_trail := m_trail) (m_isMatch := m_isMatch) (m_matchGroups := m_matchGroups) (m_allFrom := m_allFrom) (m_allBefore := m_allBefore) (m_founds := m_founds) (m_pieces := m_pieces) (m_writtenMany := m_writtenMany) (m_templateWide := m_templateWide) (m_tooMuch := m_tooMuch) (A_tape := A_tape) (ic := 1) h80 h84 (by omega) (by omega) jtp (by omega) (by omega) (by omega) (by omega)) (fun oc G2 h => by rcases h with ⟨_, _, _, h, _⟩ | ⟨_, _, h, _⟩ | ⟨_, _, _, _, h, _⟩ | ⟨_, h, _⟩ | ⟨h, _⟩ <;> exact ⟨_, h⟩) (by omega) m_MO_escape ml_MO_344 im_MO_escape se_MO_escape c_MO h80.2.2 (Nat.le_of_ble_eq_true rfl) d_MO_item_42 rfl ?_
          intro v G125 hq
          rcases hq with ⟨a2126, f2127, p2128, hv, hfk, hlk, hsk, hN80, hq129, hq130, hq131⟩ | ⟨a2132, v2133, hv, hfk, hlk, hsk, hN80, hq134, hq135⟩ | ⟨a2136, v2137, nt2138, k2139, hv, hfk, hlk, hsk, hN80, hq140, hq141, hq142⟩ | ⟨v2143, hv, hfk, hlk, hsk, hN80, hq144, hq145⟩ | ⟨hv, hfk, hlk, hsk, hN80, hq146, hq147⟩
          · cases hv
            have h84 := hfk.get h84 (by decide)
            have h93 := hfk.get h93 (by decide)
            have h87 := hfk.get h87 (by decide)
            have h88 := hfk.get h88 (by decide)
            have h81 := hfk.get h81 (by decide)
            have h82 := hfk.get h82 (by decide)
            have hfr := hfr.tr hfk (by decide)
            have hlen := hlk.trans hlen
            have hsl := hsk.trans hsl
            have h80 := hN80
            change ab_W _ _ _ G125 45 [some (vR 80), some (vz m_at), none, none] [vz (-1)] _
            refine ab_istore_n d_MO_item_45 (Nat.le_of_ble_eq_true rfl) (Nat.le_of_ble_eq_true rfl) rfl ?_
            change ab_W _ _ _ G125 46 [some (vR 80), some (vz m_at), none, some (vz (-1))] [] _
            refine ab_iload_n d_MO_item_46 rfl ?_
            refine zz_iconst d_MO_item_47 ?_
            refine zz_icmp_ne (tgt := 63) d_MO_item_48 (by decide) (by decide) (by decide) (fun c148 => ?_) (fun c148 => absurd c148 (by decide))
            refine ab_iload_n d_MO_item_63 rfl ?_
            refine zz_if_eq (tgt := 68) d_MO_item_64 (by decide) (by decide) (fun c149 => absurd c149 (by decide)) (fun c149 => ?_)
            refine ab_vret rfl d_MO_item_67 ?_
            rw [hQ]; exact (Or.inl ⟨_, _, _, _, _, _, _, _, _, _, rfl, hfr, hlen, hsl, h80, h87, h88, h93, (by omega), (by first | exact jmk | exact rgs_w jmk (by omega)), (by exact fun op => Or.inr (Or.inl ⟨(fun z => by have z1 := z.1; have z2 := z.2; omega), by have t := escB_m (op := op) (by omega) hq131; rw [show p2128 = m_at by omega]; exact t⟩))⟩)
          · cases hv
            have h84 := hfk.get h84 (by decide)
            have h93 := hfk.get h93 (by decide)
            have h87 := hfk.get h87 (by decide)
            have h88 := hfk.get h88 (by decide)
            have h81 := hfk.get h81 (by decide)
            have h82 := hfk.get h82 (by decide)
            have hfr := hfr.tr hfk (by decide)
            have hlen := hlk.trans hlen
            have hsl := hsk.trans hsl
            have h80 := hN80
            change ab_W _ _ _ G125 45 [some (vR 80), some (vz m_at), none, none] [vz 0] _
            refine ab_istore_n d_MO_item_45 (Nat.le_of_ble_eq_true rfl) (Nat.le_of_ble_eq_true rfl) rfl ?_
            change ab_W _ _ _ G125 46 [some (vR 80), some (vz m_at), none, some (vz 0)] [] _
            refine ab_iload_n d_MO_item_46 rfl ?_
            refine zz_iconst d_MO_item_47 ?_
            refine zz_icmp_ne (tgt := 63) d_MO_item_48 (by decide) (by decide) (by decide) (fun c150 => ?_) (fun c150 => absurd c150 (by decide))
            refine ab_iload_n d_MO_item_63 rfl ?_
            refine zz_if_eq (tgt := 68) d_MO_item_64 (by decide) (by decide) (fun c151 => ?_) (fun c151 => absurd c151 (by decide))
            refine ab_aload_n d_MO_item_68 rfl ?_
            refine ab_getf (fs := mof m_thrown m_taped m_length m_out m_wide m_gathered m_sets m_ranges m_nodes a2132 m_flags m_fault m_place m_numbered m_depth v2133 m_isNot m_least0 m_most0 m_slot m_work m_got m_rowMany m_charAt m_charWide m_trail m_isMatch m_matchGroups m_allFrom m_allBefore m_founds m_pieces m_writtenMany m_templateWide m_tooMuch) f_MO_307 d_MO_item_69 h80.2.2 rfl ?_
            refine ab_istore_n d_MO_item_72 (Nat.le_of_ble_eq_true rfl) (Nat.le_of_ble_eq_true rfl) rfl ?_
            change ab_W _ _ _ G125 73 [some (vR 80), some (vz m_at), some (vz v2133), some (vz 0)] [] _
            refine ab_goto (tgt := 81) d_MO_item_73 (by decide) ?_
            refine ab_iload_n d_MO_item_81 rfl ?_
            refine ab_istore_n d_MO_item_82 (Nat.le_of_ble_eq_true rfl) (Nat.le_of_ble_eq_true rfl) rfl ?_
            change ab_W _ _ _ G125 83 [some (vR 80), some (vz m_at), some (vz v2133), some (vz v2133)] [] _
            refine ab_aload_n d_MO_item_83 rfl ?_
            refine ab_getf (fs := mof m_thrown m_taped m_length m_out m_wide m_gathered m_sets m_ranges m_nodes a2132 m_flags m_fault m_place m_numbered m_depth v2133 m_isNot m_least0 m_most0 m_slot m_work m_got m_rowMany m_charAt m_charWide m_trail m_isMatch m_matchGroups m_allFrom m_allBefore m_founds m_pieces m_writtenMany m_templateWide m_tooMuch) f_MO_273 d_MO_item_84 h80.2.2 rfl ?_
            refine zz_if_ne (tgt := 153) d_MO_item_87 (by decide) (by omega) (fun c152 => absurd c152 (by omega)) (fun c152 => ?_)
            refine ab_aload_n d_MO_item_90 rfl ?_
            refine zz_iconst d_MO_item_91 ?_
            refine ab_callV (d' := d - 1) (as := [vz 0]) (st := []) (r := _) (z_MO_here (o := o) (m_thrown := m_thrown) (m_taped := m_taped) (m_length := m_length) (m_out := m_out) (m_wide := m_wide) (m_gathered := m_gathered) (m_sets := m_sets) (m_ranges := m_ranges) (m_nodes := m_nodes) (m_at := a2132) (m_flags := m_flags) (m_fault := m_fault) (m_place := m_place) (m_numbered := m_numbered) (m_depth := m_depth) (m_value := v2133) (m_isNot := m_isNot) (m_least0 := m_least0) (m_most0 := m_most0) (m_slot := m_slot) (m_work := m_work) (m_got := m_got) (m_rowMany := m_rowMany) (m_charAt := m_charAt) (m_charWide := m_charWide) (m_trail := m_trail) (m_isMatch := m_isMatch) (m_matchGroups := m_matchGroups) (m_allFrom := m_allFrom) (m_allBefore := m_allBefore) (m_founds := m_founds) (m_pieces := m_pieces) (m_writtenMany := m_writtenMany) (m_templateWide := m_templateWide) (m_tooMuch := m_tooMuch) (A_tape := A_tape) (k := 0) (qh := a2132) h80 h84 (by omega) (by omega) jtp (by omega) (by omega)) (fun oc G2 h => by rcases h with ⟨h, _⟩ | ⟨h, _⟩ <;> exact ⟨_, h⟩) (by omega) m_MO_here ml_MO_297 im_MO_here se_MO_here c_MO h80.2.2 (Nat.le_of_ble_eq_true rfl) d_MO_item_92 rfl ?_
            intro v G153 hq
            rcases hq with ⟨hv, hGe, hq154⟩ | ⟨hv, hGe, hq155, hq156⟩
            · cases hv
              rw [hGe]
              change ab_W _ _ _ G125 95 [some (vR 80), some (vz m_at), some (vz v2133), some (vz v2133)] [vz (tpk A_tape m_taped a2132)] _
              refine zz_bipush d_MO_item_95 (by decide) ?_
              refine zz_icmp_ne (tgt := 153) d_MO_item_97 (by decide) (by omega) (by decide) (fun c157 => ?_) (fun c157 => ?_)
              · refine ab_aload_n d_MO_item_153 rfl ?_
                refine ab_getf (fs := mof m_thrown m_taped m_length m_out m_wide m_gathered m_sets m_ranges m_nodes a2132 m_flags m_fault m_place m_numbered m_depth v2133 m_isNot m_least0 m_most0 m_slot m_work m_got m_rowMany m_charAt m_charWide m_trail m_isMatch m_matchGroups m_allFrom m_allBefore m_founds m_pieces m_writtenMany m_templateWide m_tooMuch) f_MO_273 d_MO_item_154 h80.2.2 rfl ?_
                refine zz_if_ne (tgt := 171) d_MO_item_157 (by decide) (by omega) (fun c158 => absurd c158 (by omega)) (fun c158 => ?_)
                refine ab_aload_n d_MO_item_160 rfl ?_
                refine ab_iload_n d_MO_item_161 rfl ?_
                refine ab_iload_n d_MO_item_162 rfl ?_
                refine ab_aload_n d_MO_item_163 rfl ?_
                refine zz_iconst d_MO_item_164 ?_
                refine ab_callV (d' := d - 1) (as := [vz 1]) (st := [vz v2133, vz v2133, vR 80]) (r := _) (z1_MO_has (o := o) (m_thrown := m_thrown) (m_taped := m_taped) (m_length := m_length) (m_out := m_out) (m_wide := m_wide) (m_gathered := m_gathered) (m_sets := m_sets) (m_ranges := m_ranges) (m_nodes := m_nodes) (m_at := a2132) (m_flags := m_flags) (m_fault := m_fault) (m_place := m_place) (m_numbered := m_numbered) (m_depth := m_depth) (m_value := v2133) (m_isNot := m_isNot) (m_least0 := m_least0) (m_most0 := m_most0) (m_slot := m_slot) (m_work := m_work) (m_got := m_got) (m_rowMany := m_rowMany) (m_charAt := m_charAt) (m_charWide := m_charWide) (m_trail := m_trail) (m_isMatch := m_isMatch) (m_matchGroups := m_matchGroups) (m_allFrom := m_allFrom) (m_allBefore := m_allBefore) (m_founds := m_founds) (m_pieces := m_pieces) (m_writtenMany := m_writtenMany) (m_templateWide := m_templateWide) (m_tooMuch := m_tooMuch) h80 (by omega)) (fun oc G2 h => by rcases h with ⟨_, h, _⟩ <;> exact ⟨_, h⟩) (by omega) m_MO_has ml_MO_355 im_MO_has se_MO_has c_MO h80.2.2 (Nat.le_of_ble_eq_true rfl) d_MO_item_165 rfl ?_
                intro v G159 hq
                rcases hq with ⟨v160, hv, hGe, hq161, hq162⟩
                cases hv
                rw [hGe]
                change ab_W _ _ _ G125 168 [some (vR 80), some (vz m_at), some (vz v2133), some (vz v2133)] [vz v160, vz v2133, vz v2133, vR 80] _
                refine ab_callV (d' := d - 1) (as := [vz v2133, vz v2133, vz v160]) (st := []) (r := _) (z_MO_gatherLike (o := o) (m_thrown := m_thrown) (m_taped := m_taped) (m_length := m_length) (m_out := m_out) (m_wide := m_wide) (m_gathered := m_gathered) (m_sets := m_sets) (m_ranges := m_ranges) (m_nodes := m_nodes) (m_at := a2132) (m_flags := m_flags) (m_fault := m_fault) (m_place := m_place) (m_numbered := m_numbered) (m_depth := m_depth) (m_value := v2133) (m_isNot := m_isNot) (m_least0 := m_least0) (m_most0 := m_most0) (m_slot := m_slot) (m_work := m_work) (m_got := m_got) (m_rowMany := m_rowMany) (m_charAt := m_charAt) (m_charWide := m_charWide) (m_trail := m_trail) (m_isMatch := m_isMatch) (m_matchGroups := m_matchGroups) (m_allFrom := m_allFrom) (m_allBefore := m_allBefore) (m_founds := m_founds) (m_pieces := m_pieces) (m_writtenMany := m_writtenMany) (m_templateWide := m_templateWide) (m_tooMuch := m_tooMuch) (LO := LO) (HI := HI) (MK := MK) (P := P) (a := v2133) (b := v2133) (lk := v160) h80 h87 h88 h93 (by omega) (by omega) (by omega) (by omega) jmk jc (by omega)) (fun oc G2 h => by rcases h with ⟨_, _, _, h, _⟩ <;> exact ⟨_, h⟩) (by omega) m_MO_gatherLike ml_MO_358 im_MO_gatherLike se_MO_gatherLike c_MO h80.2.2 (Nat.le_of_ble_eq_true rfl) d_MO_item_168 rfl ?_
                intro v G163 hq
                rcases hq with ⟨LO2164, HI2165, MK2166, hv, hfk, hlk, hsk, hN80, hN87, hN88, hN93, hq167, hq168⟩
                cases hv
                have h84 := hfk.get h84 (by decide)
                have h81 := hfk.get h81 (by decide)
                have h82 := hfk.get h82 (by decide)
                have hfr := hfr.tr hfk (by decide)
                have hlen := hlk.trans hlen
                have hsl := hsk.trans hsl
                have h80 := hN80
                have h87 := hN87
                have h88 := hN88
                have h93 := hN93
                change ab_W _ _ _ G163 171 [some (vR 80), some (vz m_at), some (vz v2133), some (vz v2133)] [] _
                refine ab_vret rfl d_MO_item_171 ?_
                rw [hQ]; exact (Or.inr ⟨_, _, _, _, _, (mm + 11), _, _, _, (fun x => P x ∨ lkS v160 v2133 v2133 x), rfl, hfr, hlen, hsl, h80, h87, h88, h93, (by omega), (by first | exact hq167 | exact rgs_w hq167 (by omega)), (by exact hq168), (by exact lfc_or jl (lfc_lk1 (by omega) (by omega))), (by exact Or.inr (Or.inr (Or.inl ⟨(fun z => by have z1 := z.1; have z2 := z.2; omega), _, ⟨Or.inr ⟨by omega, hq135, by omega⟩, by omega⟩, (fun z => by have z1 := z.1; have z2 := z.2.1; have z3 := z.2.2; omega), (by rw [show m_flags % 2 = v160 by omega]; exact lor_)⟩)))⟩)
              · refine ab_aload_n d_MO_item_100 rfl ?_
                refine zz_iconst d_MO_item_101 ?_
                refine ab_callV (d' := d - 1) (as := [vz 1]) (st := []) (r := _) (z_MO_here (o := o) (m_thrown := m_thrown) (m_taped := m_taped) (m_length := m_length) (m_out := m_out) (m_wide := m_wide) (m_gathered := m_gathered) (m_sets := m_sets) (m_ranges := m_ranges) (m_nodes := m_nodes) (m_at := a2132) (m_flags := m_flags) (m_fault := m_fault) (m_place := m_place) (m_numbered := m_numbered) (m_depth := m_depth) (m_value := v2133) (m_isNot := m_isNot) (m_least0 := m_least0) (m_most0 := m_most0) (m_slot := m_slot) (m_work := m_work) (m_got := m_got) (m_rowMany := m_rowMany) (m_charAt := m_charAt) (m_charWide := m_charWide) (m_trail := m_trail) (m_isMatch := m_isMatch) (m_matchGroups := m_matchGroups) (m_allFrom := m_allFrom) (m_allBefore := m_allBefore) (m_founds := m_founds) (m_pieces := m_pieces) (m_writtenMany := m_writtenMany) (m_templateWide := m_templateWide) (m_tooMuch := m_tooMuch) (A_tape := A_tape) (k := 1) (qh := (a2132 + 1)) h80 h84 (by omega) (by omega) jtp (by omega) (by omega)) (fun oc G2 h => by rcases h with ⟨h, _⟩ | ⟨h, _⟩ <;> exact ⟨_, h⟩) (by omega) m_MO_here ml_MO_297 im_MO_here se_MO_here c_MO h80.2.2 (Nat.le_of_ble_eq_true rfl) d_MO_item_102 rfl ?_
                intro v G169 hq
                rcases hq with ⟨hv, hGe, hq170⟩ | ⟨hv, hGe, hq171, hq172⟩
                · cases hv
                  rw [hGe]
                  change ab_W _ _ _ G125 105 [some (vR 80), some (vz m_at), some (vz v2133), some (vz v2133)] [vz (tpk A_tape m_taped (a2132 + 1))] _
                  refine zz_if_lt (tgt := 153) d_MO_item_105 (by decide) (by omega) (fun c173 => absurd c173 (by omega)) (fun c173 => ?_)
                  refine ab_aload_n d_MO_item_108 rfl ?_
                  refine zz_iconst d_MO_item_109 ?_
                  refine ab_callV (d' := d - 1) (as := [vz 1]) (st := []) (r := _) (z_MO_here (o := o) (m_thrown := m_thrown) (m_taped := m_taped) (m_length := m_length) (m_out := m_out) (m_wide := m_wide) (m_gathered := m_gathered) (m_sets := m_sets) (m_ranges := m_ranges) (m_nodes := m_nodes) (m_at := a2132) (m_flags := m_flags) (m_fault := m_fault) (m_place := m_place) (m_numbered := m_numbered) (m_depth := m_depth) (m_value := v2133) (m_isNot := m_isNot) (m_least0 := m_least0) (m_most0 := m_most0) (m_slot := m_slot) (m_work := m_work) (m_got := m_got) (m_rowMany := m_rowMany) (m_charAt := m_charAt) (m_charWide := m_charWide) (m_trail := m_trail) (m_isMatch := m_isMatch) (m_matchGroups := m_matchGroups) (m_allFrom := m_allFrom) (m_allBefore := m_allBefore) (m_founds := m_founds) (m_pieces := m_pieces) (m_writtenMany := m_writtenMany) (m_templateWide := m_templateWide) (m_tooMuch := m_tooMuch) (A_tape := A_tape) (k := 1) (qh := (a2132 + 1)) h80 h84 (by omega) (by omega) jtp (by omega) (by omega)) (fun oc G2 h => by rcases h with ⟨h, _⟩ | ⟨h, _⟩ <;> exact ⟨_, h⟩) (by omega) m_MO_here ml_MO_297 im_MO_here se_MO_here c_MO h80.2.2 (Nat.le_of_ble_eq_true rfl) d_MO_item_110 rfl ?_
                  intro v G174 hq
                  rcases hq with ⟨hv, hGe, hq175⟩ | ⟨hv, hGe, hq176, hq177⟩
                  · cases hv
                    rw [hGe]
                    change ab_W _ _ _ G125 113 [some (vR 80), some (vz m_at), some (vz v2133), some (vz v2133)] [vz (tpk A_tape m_taped (a2132 + 1))] _
                    refine zz_bipush d_MO_item_113 (by decide) ?_
                    refine zz_icmp_eq (tgt := 153) d_MO_item_115 (by decide) (by omega) (by decide) (fun c178 => ?_) (fun c178 => ?_)
                    · refine ab_aload_n d_MO_item_153 rfl ?_
                      refine ab_getf (fs := mof m_thrown m_taped m_length m_out m_wide m_gathered m_sets m_ranges m_nodes a2132 m_flags m_fault m_place m_numbered m_depth v2133 m_isNot m_least0 m_most0 m_slot m_work m_got m_rowMany m_charAt m_charWide m_trail m_isMatch m_matchGroups m_allFrom m_allBefore m_founds m_pieces m_writtenMany m_templateWide m_tooMuch) f_MO_273 d_MO_item_154 h80.2.2 rfl ?_
                      refine zz_if_ne (tgt := 171) d_MO_item_157 (by decide) (by omega) (fun c179 => absurd c179 (by omega)) (fun c179 => ?_)
                      refine ab_aload_n d_MO_item_160 rfl ?_
                      refine ab_iload_n d_MO_item_161 rfl ?_
                      refine ab_iload_n d_MO_item_162 rfl ?_
                      refine ab_aload_n d_MO_item_163 rfl ?_
                      refine zz_iconst d_MO_item_164 ?_
                      refine ab_callV (d' := d - 1) (as := [vz 1]) (st := [vz v2133, vz v2133, vR 80]) (r := _) (z1_MO_has (o := o) (m_thrown := m_thrown) (m_taped := m_taped) (m_length := m_length) (m_out := m_out) (m_wide := m_wide) (m_gathered := m_gathered) (m_sets := m_sets) (m_ranges := m_ranges) (m_nodes := m_nodes) (m_at := a2132) (m_flags := m_flags) (m_fault := m_fault) (m_place := m_place) (m_numbered := m_numbered) (m_depth := m_depth) (m_value := v2133) (m_isNot := m_isNot) (m_least0 := m_least0) (m_most0 := m_most0) (m_slot := m_slot) (m_work := m_work) (m_got := m_got) (m_rowMany := m_rowMany) (m_charAt := m_charAt) (m_charWide := m_charWide) (m_trail := m_trail) (m_isMatch := m_isMatch) (m_matchGroups := m_matchGroups) (m_allFrom := m_allFrom) (m_allBefore := m_allBefore) (m_founds := m_founds) (m_pieces := m_pieces) (m_writtenMany := m_writtenMany) (m_templateWide := m_templateWide) (m_tooMuch := m_tooMuch) h80 (by omega)) (fun oc G2 h => by rcases h with ⟨_, h, _⟩ <;> exact ⟨_, h⟩) (by omega) m_MO_has ml_MO_355 im_MO_has se_MO_has c_MO h80.2.2 (Nat.le_of_ble_eq_true rfl) d_MO_item_165 rfl ?_
                      intro v G180 hq
                      rcases hq with ⟨v181, hv, hGe, hq182, hq183⟩
                      cases hv
                      rw [hGe]
                      change ab_W _ _ _ G125 168 [some (vR 80), some (vz m_at), some (vz v2133), some (vz v2133)] [vz v181, vz v2133, vz v2133, vR 80] _
                      refine ab_callV (d' := d - 1) (as := [vz v2133, vz v2133, vz v181]) (st := []) (r := _) (z_MO_gatherLike (o := o) (m_thrown := m_thrown) (m_taped := m_taped) (m_length := m_length) (m_out := m_out) (m_wide := m_wide) (m_gathered := m_gathered) (m_sets := m_sets) (m_ranges := m_ranges) (m_nodes := m_nodes) (m_at := a2132) (m_flags := m_flags) (m_fault := m_fault) (m_place := m_place) (m_numbered := m_numbered) (m_depth := m_depth) (m_value := v2133) (m_isNot := m_isNot) (m_least0 := m_least0) (m_most0 := m_most0) (m_slot := m_slot) (m_work := m_work) (m_got := m_got) (m_rowMany := m_rowMany) (m_charAt := m_charAt) (m_charWide := m_charWide) (m_trail := m_trail) (m_isMatch := m_isMatch) (m_matchGroups := m_matchGroups) (m_allFrom := m_allFrom) (m_allBefore := m_allBefore) (m_founds := m_founds) (m_pieces := m_pieces) (m_writtenMany := m_writtenMany) (m_templateWide := m_templateWide) (m_tooMuch := m_tooMuch) (LO := LO) (HI := HI) (MK := MK) (P := P) (a := v2133) (b := v2133) (lk := v181) h80 h87 h88 h93 (by omega) (by omega) (by omega) (by omega) jmk jc (by omega)) (fun oc G2 h => by rcases h with ⟨_, _, _, h, _⟩ <;> exact ⟨_, h⟩) (by omega) m_MO_gatherLike ml_MO_358 im_MO_gatherLike se_MO_gatherLike c_MO h80.2.2 (Nat.le_of_ble_eq_true rfl) d_MO_item_168 rfl ?_
                      intro v G184 hq
                      rcases hq with ⟨LO2185, HI2186, MK2187, hv, hfk, hlk, hsk, hN80, hN87, hN88, hN93, hq188, hq189⟩
                      cases hv
                      have h84 := hfk.get h84 (by decide)
                      have h81 := hfk.get h81 (by decide)
                      have h82 := hfk.get h82 (by decide)
                      have hfr := hfr.tr hfk (by decide)
                      have hlen := hlk.trans hlen
                      have hsl := hsk.trans hsl
                      have h80 := hN80
                      have h87 := hN87
                      have h88 := hN88
                      have h93 := hN93
                      change ab_W _ _ _ G184 171 [some (vR 80), some (vz m_at), some (vz v2133), some (vz v2133)] [] _
                      refine ab_vret rfl d_MO_item_171 ?_
                      rw [hQ]; exact (Or.inr ⟨_, _, _, _, _, (mm + 11), _, _, _, (fun x => P x ∨ lkS v181 v2133 v2133 x), rfl, hfr, hlen, hsl, h80, h87, h88, h93, (by omega), (by first | exact hq188 | exact rgs_w hq188 (by omega)), (by exact hq189), (by exact lfc_or jl (lfc_lk1 (by omega) (by omega))), (by exact Or.inr (Or.inr (Or.inl ⟨(fun z => by have z1 := z.1; have z2 := z.2; omega), _, ⟨Or.inr ⟨by omega, hq135, by omega⟩, by omega⟩, (fun z => by have z1 := z.1; have z2 := z.2.1; have z3 := z.2.2; omega), (by rw [show m_flags % 2 = v181 by omega]; exact lor_)⟩)))⟩)
                    · refine ab_aload_n d_MO_item_118 rfl ?_
                      refine ab_dup d_MO_item_119 rfl ?_
                      refine ab_getf (fs := mof m_thrown m_taped m_length m_out m_wide m_gathered m_sets m_ranges m_nodes a2132 m_flags m_fault m_place m_numbered m_depth v2133 m_isNot m_least0 m_most0 m_slot m_work m_got m_rowMany m_charAt m_charWide m_trail m_isMatch m_matchGroups m_allFrom m_allBefore m_founds m_pieces m_writtenMany m_templateWide m_tooMuch) f_MO_279 d_MO_item_120 h80.2.2 rfl ?_
                      refine zz_iconst d_MO_item_123 ?_
                      refine zz_iadd d_MO_item_124 ?_
                      refine ab_putf (fs := mof m_thrown m_taped m_length m_out m_wide m_gathered m_sets m_ranges m_nodes a2132 m_flags m_fault m_place m_numbered m_depth v2133 m_isNot m_least0 m_most0 m_slot m_work m_got m_rowMany m_charAt m_charWide m_trail m_isMatch m_matchGroups m_allFrom m_allBefore m_founds m_pieces m_writtenMany m_templateWide m_tooMuch) f_MO_279 (Or.inl rfl) d_MO_item_125 h80.2.2 (Nat.le_of_ble_eq_true rfl) (fun _ => ⟨rfl, rfl⟩) (h80.2.1 (by decide)) ?_
                      obtain ⟨G190, eG190⟩ : ∃ z : ab_G, z = List.set G125 80 (ab_ob 12 (mof m_thrown m_taped m_length m_out m_wide m_gathered m_sets m_ranges m_nodes (a2132 + 1) m_flags m_fault m_place m_numbered m_depth v2133 m_isNot m_least0 m_most0 m_slot m_work m_got m_rowMany m_charAt m_charWide m_trail m_isMatch m_matchGroups m_allFrom m_allBefore m_founds m_pieces m_writtenMany m_templateWide m_tooMuch)) := ⟨_, rfl⟩
                      have h84 := h84.keep h80 eG190 (by decide)
                      have h93 := h93.keep h80 eG190 (by decide)
                      have h87 := h87.keep h80 eG190 (by decide)
                      have h88 := h88.keep h80 eG190 (by decide)
                      have h81 := h81.keep h80 eG190 (by decide)
                      have h82 := h82.keep h80 eG190 (by decide)
                      have hlen := (z_len eG190).trans hlen
                      have hsl := (z_sl h80 eG190 rfl).trans hsl
                      have hfr := hfr.wr h80 eG190 (by decide)
                      have h80 := h80.kept eG190
                      change ab_W _ _ _ (List.set G125 80 (ab_ob 12 (mof m_thrown m_taped m_length m_out m_wide m_gathered m_sets m_ranges m_nodes (a2132 + 1) m_flags m_fault m_place m_numbered m_depth v2133 m_isNot m_least0 m_most0 m_slot m_work m_got m_rowMany m_charAt m_charWide m_trail m_isMatch m_matchGroups m_allFrom m_allBefore m_founds m_pieces m_writtenMany m_templateWide m_tooMuch))) 128 [some (vR 80), some (vz m_at), some (vz v2133), some (vz v2133)] [] _
                      rw [← eG190]
                      refine ab_aload_n d_MO_item_128 rfl ?_
                      refine ab_iload_n d_MO_item_129 rfl ?_
                      refine ab_callV (d' := d - 1) (as := [vz m_at]) (st := []) (r := _) (z_MO_rangeEnd (o := o) (m_thrown := m_thrown) (m_taped := m_taped) (m_length := m_length) (m_out := m_out) (m_wide := m_wide) (m_gathered := m_gathered) (m_sets := m_sets) (m_ranges := m_ranges) (m_nodes := m_nodes) (m_at := (a2132 + 1)) (m_flags := m_flags) (m_fault := m_fault) (m_place := m_place) (m_numbered := m_numbered) (m_depth := m_depth) (m_value := v2133) (m_isNot := m_isNot) (m_least0 := m_least0) (m_most0 := m_most0) (m_slot := m_slot) (m_work := m_work) (m_got := m_got) (m_rowMany := m_rowMany) (m_charAt := m_charAt) (m_charWide := m_charWide) (m_trail := m_trail) (m_isMatch := m_isMatch) (m_matchGroups := m_matchGroups) (m_allFrom := m_allFrom) (m_allBefore := m_allBefore) (m_founds := m_founds) (m_pieces := m_pieces) (m_writtenMany := m_writtenMany) (m_templateWide := m_templateWide) (m_tooMuch := m_tooMuch) (A_tape := A_tape) (wh := m_at) h80 h84 (by omega) (by omega) jtp (by omega) (by omega) (by omega) (by omega)) (fun oc G2 h => by rcases h with ⟨_, _, _, _, _, _, _, h, _⟩ | ⟨_, _, _, _, h, _⟩ <;> exact ⟨_, h⟩) (by omega) m_MO_rangeEnd ml_MO_352 im_MO_rangeEnd se_MO_rangeEnd c_MO h80.2.2 (Nat.le_of_ble_eq_true rfl) d_MO_item_130 rfl ?_
                      intro v G191 hq
                      rcases hq with ⟨v192, a2193, f2194, p2195, v2196, nt2197, w2198, hv, hfk, hlk, hsk, hN80, hq199, hq200⟩ | ⟨v201, a2202, v2203, w2204, hv, hfk, hlk, hsk, hN80, hq205, hq206, hq207⟩
                      · cases hv
                        have h84 := hfk.get h84 (by decide)
                        have h93 := hfk.get h93 (by decide)
                        have h87 := hfk.get h87 (by decide)
                        have h88 := hfk.get h88 (by decide)
                        have h81 := hfk.get h81 (by decide)
                        have h82 := hfk.get h82 (by decide)
                        have hfr := hfr.tr hfk (by decide)
                        have hlen := hlk.trans hlen
                        have hsl := hsk.trans hsl
                        have h80 := hN80
                        change ab_W _ _ _ G191 133 [some (vR 80), some (vz m_at), some (vz v2133), some (vz v2133)] [vz v192] _
                        refine ab_istore_n d_MO_item_133 (Nat.le_of_ble_eq_true rfl) (Nat.le_of_ble_eq_true rfl) rfl ?_
                        change ab_W _ _ _ G191 134 [some (vR 80), some (vz m_at), some (vz v2133), some (vz v192)] [] _
                        refine ab_aload_n d_MO_item_134 rfl ?_
                        refine ab_getf (fs := mof m_thrown m_taped m_length m_out w2198 m_gathered m_sets m_ranges m_nodes a2193 m_flags f2194 p2195 m_numbered m_depth v2196 nt2197 m_least0 m_most0 m_slot m_work m_got m_rowMany m_charAt m_charWide m_trail m_isMatch m_matchGroups m_allFrom m_allBefore m_founds m_pieces m_writtenMany m_templateWide m_tooMuch) f_MO_273 d_MO_item_135 h80.2.2 rfl ?_
                        refine zz_if_ne (tgt := 153) d_MO_item_138 (by decide) (by omega) (fun c208 => ?_) (fun c208 => absurd c208 (by omega))
                        refine ab_aload_n d_MO_item_153 rfl ?_
                        refine ab_getf (fs := mof m_thrown m_taped m_length m_out w2198 m_gathered m_sets m_ranges m_nodes a2193 m_flags f2194 p2195 m_numbered m_depth v2196 nt2197 m_least0 m_most0 m_slot m_work m_got m_rowMany m_charAt m_charWide m_trail m_isMatch m_matchGroups m_allFrom m_allBefore m_founds m_pieces m_writtenMany m_templateWide m_tooMuch) f_MO_273 d_MO_item_154 h80.2.2 rfl ?_
                        refine zz_if_ne (tgt := 171) d_MO_item_157 (by decide) (by omega) (fun c209 => ?_) (fun c209 => absurd c209 (by omega))
                        refine ab_vret rfl d_MO_item_171 ?_
                        rw [hQ]; exact (Or.inl ⟨_, _, _, _, _, _, _, _, _, _, rfl, hfr, hlen, hsl, h80, h87, h88, h93, (by omega), (by first | exact jmk | exact rgs_w jmk (by omega)), (by exact fun op => Or.inr (Or.inr ⟨(fun z => by have z1 := z.1; have z2 := z.2; omega), _, _, ⟨Or.inr ⟨by omega, hq135, by omega⟩, by omega⟩, ⟨by omega, by omega, by omega⟩, (by rcases hq200 with y | ⟨y0, y | y⟩; (exact Or.inl y); (exact Or.inr ⟨y0, Or.inl y⟩); (exact Or.inr ⟨y0, Or.inr (Or.inl (y op))⟩))⟩))⟩)
                      · cases hv
                        have h84 := hfk.get h84 (by decide)
                        have h93 := hfk.get h93 (by decide)
                        have h87 := hfk.get h87 (by decide)
                        have h88 := hfk.get h88 (by decide)
                        have h81 := hfk.get h81 (by decide)
                        have h82 := hfk.get h82 (by decide)
                        have hfr := hfr.tr hfk (by decide)
                        have hlen := hlk.trans hlen
                        have hsl := hsk.trans hsl
                        have h80 := hN80
                        change ab_W _ _ _ G191 133 [some (vR 80), some (vz m_at), some (vz v2133), some (vz v2133)] [vz v201] _
                        refine ab_istore_n d_MO_item_133 (Nat.le_of_ble_eq_true rfl) (Nat.le_of_ble_eq_true rfl) rfl ?_
                        change ab_W _ _ _ G191 134 [some (vR 80), some (vz m_at), some (vz v2133), some (vz v201)] [] _
                        refine ab_aload_n d_MO_item_134 rfl ?_
                        refine ab_getf (fs := mof m_thrown m_taped m_length m_out w2204 m_gathered m_sets m_ranges m_nodes a2202 m_flags m_fault m_place m_numbered m_depth v2203 m_isNot m_least0 m_most0 m_slot m_work m_got m_rowMany m_charAt m_charWide m_trail m_isMatch m_matchGroups m_allFrom m_allBefore m_founds m_pieces m_writtenMany m_templateWide m_tooMuch) f_MO_273 d_MO_item_135 h80.2.2 rfl ?_
                        refine zz_if_ne (tgt := 153) d_MO_item_138 (by decide) (by omega) (fun c210 => absurd c210 (by omega)) (fun c210 => ?_)
                        refine ab_iload_n d_MO_item_141 rfl ?_
                        refine ab_iload_n d_MO_item_142 rfl ?_
                        refine zz_icmp_ge (tgt := 153) d_MO_item_143 (by decide) (by omega) (by omega) (fun c211 => ?_) (fun c211 => ?_)
                        · refine ab_aload_n d_MO_item_153 rfl ?_
                          refine ab_getf (fs := mof m_thrown m_taped m_length m_out w2204 m_gathered m_sets m_ranges m_nodes a2202 m_flags m_fault m_place m_numbered m_depth v2203 m_isNot m_least0 m_most0 m_slot m_work m_got m_rowMany m_charAt m_charWide m_trail m_isMatch m_matchGroups m_allFrom m_allBefore m_founds m_pieces m_writtenMany m_templateWide m_tooMuch) f_MO_273 d_MO_item_154 h80.2.2 rfl ?_
                          refine zz_if_ne (tgt := 171) d_MO_item_157 (by decide) (by omega) (fun c212 => absurd c212 (by omega)) (fun c212 => ?_)
                          refine ab_aload_n d_MO_item_160 rfl ?_
                          refine ab_iload_n d_MO_item_161 rfl ?_
                          refine ab_iload_n d_MO_item_162 rfl ?_
                          refine ab_aload_n d_MO_item_163 rfl ?_
                          refine zz_iconst d_MO_item_164 ?_
                          refine ab_callV (d' := d - 1) (as := [vz 1]) (st := [vz v201, vz v2133, vR 80]) (r := _) (z1_MO_has (o := o) (m_thrown := m_thrown) (m_taped := m_taped) (m_length := m_length) (m_out := m_out) (m_wide := w2204) (m_gathered := m_gathered) (m_sets := m_sets) (m_ranges := m_ranges) (m_nodes := m_nodes) (m_at := a2202) (m_flags := m_flags) (m_fault := m_fault) (m_place := m_place) (m_numbered := m_numbered) (m_depth := m_depth) (m_value := v2203) (m_isNot := m_isNot) (m_least0 := m_least0) (m_most0 := m_most0) (m_slot := m_slot) (m_work := m_work) (m_got := m_got) (m_rowMany := m_rowMany) (m_charAt := m_charAt) (m_charWide := m_charWide) (m_trail := m_trail) (m_isMatch := m_isMatch) (m_matchGroups := m_matchGroups) (m_allFrom := m_allFrom) (m_allBefore := m_allBefore) (m_founds := m_founds) (m_pieces := m_pieces) (m_writtenMany := m_writtenMany) (m_templateWide := m_templateWide) (m_tooMuch := m_tooMuch) h80 (by omega)) (fun oc G2 h => by rcases h with ⟨_, h, _⟩ <;> exact ⟨_, h⟩) (by omega) m_MO_has ml_MO_355 im_MO_has se_MO_has c_MO h80.2.2 (Nat.le_of_ble_eq_true rfl) d_MO_item_165 rfl ?_
                          intro v G213 hq
                          rcases hq with ⟨v214, hv, hGe, hq215, hq216⟩
                          cases hv
                          rw [hGe]
                          change ab_W _ _ _ G191 168 [some (vR 80), some (vz m_at), some (vz v2133), some (vz v201)] [vz v214, vz v201, vz v2133, vR 80] _
                          refine ab_callV (d' := d - 1) (as := [vz v2133, vz v201, vz v214]) (st := []) (r := _) (z_MO_gatherLike (o := o) (m_thrown := m_thrown) (m_taped := m_taped) (m_length := m_length) (m_out := m_out) (m_wide := w2204) (m_gathered := m_gathered) (m_sets := m_sets) (m_ranges := m_ranges) (m_nodes := m_nodes) (m_at := a2202) (m_flags := m_flags) (m_fault := m_fault) (m_place := m_place) (m_numbered := m_numbered) (m_depth := m_depth) (m_value := v2203) (m_isNot := m_isNot) (m_least0 := m_least0) (m_most0 := m_most0) (m_slot := m_slot) (m_work := m_work) (m_got := m_got) (m_rowMany := m_rowMany) (m_charAt := m_charAt) (m_charWide := m_charWide) (m_trail := m_trail) (m_isMatch := m_isMatch) (m_matchGroups := m_matchGroups) (m_allFrom := m_allFrom) (m_allBefore := m_allBefore) (m_founds := m_founds) (m_pieces := m_pieces) (m_writtenMany := m_writtenMany) (m_templateWide := m_templateWide) (m_tooMuch := m_tooMuch) (LO := LO) (HI := HI) (MK := MK) (P := P) (a := v2133) (b := v201) (lk := v214) h80 h87 h88 h93 (by omega) (by omega) (by omega) (by omega) jmk jc (by omega)) (fun oc G2 h => by rcases h with ⟨_, _, _, h, _⟩ <;> exact ⟨_, h⟩) (by omega) m_MO_gatherLike ml_MO_358 im_MO_gatherLike se_MO_gatherLike c_MO h80.2.2 (Nat.le_of_ble_eq_true rfl) d_MO_item_168 rfl ?_
                          intro v G217 hq
                          rcases hq with ⟨LO2218, HI2219, MK2220, hv, hfk, hlk, hsk, hN80, hN87, hN88, hN93, hq221, hq222⟩
                          cases hv
                          have h84 := hfk.get h84 (by decide)
                          have h81 := hfk.get h81 (by decide)
                          have h82 := hfk.get h82 (by decide)
                          have hfr := hfr.tr hfk (by decide)
                          have hlen := hlk.trans hlen
                          have hsl := hsk.trans hsl
                          have h80 := hN80
                          have h87 := hN87
                          have h88 := hN88
                          have h93 := hN93
                          change ab_W _ _ _ G217 171 [some (vR 80), some (vz m_at), some (vz v2133), some (vz v201)] [] _
                          refine ab_vret rfl d_MO_item_171 ?_
                          rw [hQ]; exact (Or.inr ⟨_, _, _, _, _, (mm + 33), _, _, _, (fun x => P x ∨ lkS v214 v2133 v201 x), rfl, hfr, hlen, hsl, h80, h87, h88, h93, (by omega), (by first | exact hq221 | exact rgs_w hq221 (by omega)), (by exact hq222), (by exact lfc_or jl (lfc_lk (by omega))), (by exact Or.inr (Or.inr (Or.inr ⟨(fun z => by have z1 := z.1; have z2 := z.2; omega), _, _, _, ⟨Or.inr ⟨by omega, hq135, by omega⟩, by omega⟩, ⟨by omega, by omega, by omega⟩, hq206, hq207, by omega, (by rw [show m_flags % 2 = v214 by omega]; exact lor_)⟩)))⟩)
                        · refine ab_aload_n d_MO_item_146 rfl ?_
                          refine zz_bipush d_MO_item_147 (by decide) ?_
                          refine ab_iload_n d_MO_item_149 rfl ?_
                          refine ab_callV (d' := d - 1) (as := [vz 6, vz m_at]) (st := []) (r := _) (z_MO_wrong (o := o) (m_thrown := m_thrown) (m_taped := m_taped) (m_length := m_length) (m_out := m_out) (m_wide := w2204) (m_gathered := m_gathered) (m_sets := m_sets) (m_ranges := m_ranges) (m_nodes := m_nodes) (m_at := a2202) (m_flags := m_flags) (m_fault := m_fault) (m_place := m_place) (m_numbered := m_numbered) (m_depth := m_depth) (m_value := v2203) (m_isNot := m_isNot) (m_least0 := m_least0) (m_most0 := m_most0) (m_slot := m_slot) (m_work := m_work) (m_got := m_got) (m_rowMany := m_rowMany) (m_charAt := m_charAt) (m_charWide := m_charWide) (m_trail := m_trail) (m_isMatch := m_isMatch) (m_matchGroups := m_matchGroups) (m_allFrom := m_allFrom) (m_allBefore := m_allBefore) (m_founds := m_founds) (m_pieces := m_pieces) (m_writtenMany := m_writtenMany) (m_templateWide := m_templateWide) (m_tooMuch := m_tooMuch) (x := 6) (y := m_at) h80 (by omega) (by omega)) (fun oc G2 h => by rcases h with ⟨h, _⟩ | ⟨h, _⟩ <;> exact ⟨_, h⟩) (by omega) m_MO_wrong ml_MO_304 im_MO_wrong se_MO_wrong c_MO h80.2.2 (Nat.le_of_ble_eq_true rfl) d_MO_item_150 rfl ?_
                          intro v G223 hq
                          rcases hq with ⟨hv, hfk, hlk, hsk, hN80, hq224⟩ | ⟨hv, hGe, hq225⟩
                          · cases hv
                            have h84 := hfk.get h84 (by decide)
                            have h93 := hfk.get h93 (by decide)
                            have h87 := hfk.get h87 (by decide)
                            have h88 := hfk.get h88 (by decide)
                            have h81 := hfk.get h81 (by decide)
                            have h82 := hfk.get h82 (by decide)
                            have hfr := hfr.tr hfk (by decide)
                            have hlen := hlk.trans hlen
                            have hsl := hsk.trans hsl
                            have h80 := hN80
                            change ab_W _ _ _ G223 153 [some (vR 80), some (vz m_at), some (vz v2133), some (vz v201)] [] _
                            refine ab_aload_n d_MO_item_153 rfl ?_
                            refine ab_getf (fs := mof m_thrown m_taped m_length m_out w2204 m_gathered m_sets m_ranges m_nodes a2202 m_flags 6 m_at m_numbered m_depth v2203 m_isNot m_least0 m_most0 m_slot m_work m_got m_rowMany m_charAt m_charWide m_trail m_isMatch m_matchGroups m_allFrom m_allBefore m_founds m_pieces m_writtenMany m_templateWide m_tooMuch) f_MO_273 d_MO_item_154 h80.2.2 rfl ?_
                            refine zz_if_ne (tgt := 171) d_MO_item_157 (by decide) (by decide) (fun c226 => ?_) (fun c226 => absurd c226 (by decide))
                            refine ab_vret rfl d_MO_item_171 ?_
                            rw [hQ]; exact (Or.inl ⟨_, _, _, _, _, _, _, _, _, _, rfl, hfr, hlen, hsl, h80, h87, h88, h93, (by omega), (by first | exact jmk | exact rgs_w jmk (by omega)), (by exact fun op => Or.inr (Or.inr ⟨(fun z => by have z1 := z.1; have z2 := z.2; omega), _, _, ⟨Or.inr ⟨by omega, hq135, by omega⟩, by omega⟩, ⟨by omega, by omega, by omega⟩, Or.inr ⟨hq206, Or.inr (Or.inr ⟨by omega, by omega, _, _, ⟨hq207, by omega⟩, by omega⟩)⟩⟩))⟩)
                          · cases hv
                            rw [hGe]
                            change ab_W _ _ _ G191 153 [some (vR 80), some (vz m_at), some (vz v2133), some (vz v201)] [] _
                            exfalso; omega
                  · cases hv
                    rw [hGe]
                    change ab_W _ _ _ G125 113 [some (vR 80), some (vz m_at), some (vz v2133), some (vz v2133)] [vz (-1)] _
                    exfalso; omega
                · cases hv
                  rw [hGe]
                  change ab_W _ _ _ G125 105 [some (vR 80), some (vz m_at), some (vz v2133), some (vz v2133)] [vz (-1)] _
                  refine zz_if_lt (tgt := 153) d_MO_item_105 (by decide) (by decide) (fun c227 => ?_) (fun c227 => absurd c227 (by decide))
                  refine ab_aload_n d_MO_item_153 rfl ?_
                  refine ab_getf (fs := mof m_thrown m_taped m_length m_out m_wide m_gathered m_sets m_ranges m_nodes a2132 m_flags m_fault m_place m_numbered m_depth v2133 m_isNot m_least0 m_most0 m_slot m_work m_got m_rowMany m_charAt m_charWide m_trail m_isMatch m_matchGroups m_allFrom m_allBefore m_founds m_pieces m_writtenMany m_templateWide m_tooMuch) f_MO_273 d_MO_item_154 h80.2.2 rfl ?_
                  refine zz_if_ne (tgt := 171) d_MO_item_157 (by decide) (by omega) (fun c228 => absurd c228 (by omega)) (fun c228 => ?_)
                  refine ab_aload_n d_MO_item_160 rfl ?_
                  refine ab_iload_n d_MO_item_161 rfl ?_
                  refine ab_iload_n d_MO_item_162 rfl ?_
                  refine ab_aload_n d_MO_item_163 rfl ?_
                  refine zz_iconst d_MO_item_164 ?_
                  refine ab_callV (d' := d - 1) (as := [vz 1]) (st := [vz v2133, vz v2133, vR 80]) (r := _) (z1_MO_has (o := o) (m_thrown := m_thrown) (m_taped := m_taped) (m_length := m_length) (m_out := m_out) (m_wide := m_wide) (m_gathered := m_gathered) (m_sets := m_sets) (m_ranges := m_ranges) (m_nodes := m_nodes) (m_at := a2132) (m_flags := m_flags) (m_fault := m_fault) (m_place := m_place) (m_numbered := m_numbered) (m_depth := m_depth) (m_value := v2133) (m_isNot := m_isNot) (m_least0 := m_least0) (m_most0 := m_most0) (m_slot := m_slot) (m_work := m_work) (m_got := m_got) (m_rowMany := m_rowMany) (m_charAt := m_charAt) (m_charWide := m_charWide) (m_trail := m_trail) (m_isMatch := m_isMatch) (m_matchGroups := m_matchGroups) (m_allFrom := m_allFrom) (m_allBefore := m_allBefore) (m_founds := m_founds) (m_pieces := m_pieces) (m_writtenMany := m_writtenMany) (m_templateWide := m_templateWide) (m_tooMuch := m_tooMuch) h80 (by omega)) (fun oc G2 h => by rcases h with ⟨_, h, _⟩ <;> exact ⟨_, h⟩) (by omega) m_MO_has ml_MO_355 im_MO_has se_MO_has c_MO h80.2.2 (Nat.le_of_ble_eq_true rfl) d_MO_item_165 rfl ?_
                  intro v G229 hq
                  rcases hq with ⟨v230, hv, hGe, hq231, hq232⟩
                  cases hv
                  rw [hGe]
                  change ab_W _ _ _ G125 168 [some (vR 80), some (vz m_at), some (vz v2133), some (vz v2133)] [vz v230, vz v2133, vz v2133, vR 80] _
                  refine ab_callV (d' := d - 1) (as := [vz v2133, vz v2133, vz v230]) (st := []) (r := _) (z_MO_gatherLike (o := o) (m_thrown := m_thrown) (m_taped := m_taped) (m_length := m_length) (m_out := m_out) (m_wide := m_wide) (m_gathered := m_gathered) (m_sets := m_sets) (m_ranges := m_ranges) (m_nodes := m_nodes) (m_at := a2132) (m_flags := m_flags) (m_fault := m_fault) (m_place := m_place) (m_numbered := m_numbered) (m_depth := m_depth) (m_value := v2133) (m_isNot := m_isNot) (m_least0 := m_least0) (m_most0 := m_most0) (m_slot := m_slot) (m_work := m_work) (m_got := m_got) (m_rowMany := m_rowMany) (m_charAt := m_charAt) (m_charWide := m_charWide) (m_trail := m_trail) (m_isMatch := m_isMatch) (m_matchGroups := m_matchGroups) (m_allFrom := m_allFrom) (m_allBefore := m_allBefore) (m_founds := m_founds) (m_pieces := m_pieces) (m_writtenMany := m_writtenMany) (m_templateWide := m_templateWide) (m_tooMuch := m_tooMuch) (LO := LO) (HI := HI) (MK := MK) (P := P) (a := v2133) (b := v2133) (lk := v230) h80 h87 h88 h93 (by omega) (by omega) (by omega) (by omega) jmk jc (by omega)) (fun oc G2 h => by rcases h with ⟨_, _, _, h, _⟩ <;> exact ⟨_, h⟩) (by omega) m_MO_gatherLike ml_MO_358 im_MO_gatherLike se_MO_gatherLike c_MO h80.2.2 (Nat.le_of_ble_eq_true rfl) d_MO_item_168 rfl ?_
                  intro v G233 hq
                  rcases hq with ⟨LO2234, HI2235, MK2236, hv, hfk, hlk, hsk, hN80, hN87, hN88, hN93, hq237, hq238⟩
                  cases hv
                  have h84 := hfk.get h84 (by decide)
                  have h81 := hfk.get h81 (by decide)
                  have h82 := hfk.get h82 (by decide)
                  have hfr := hfr.tr hfk (by decide)
                  have hlen := hlk.trans hlen
                  have hsl := hsk.trans hsl
                  have h80 := hN80
                  have h87 := hN87
                  have h88 := hN88
                  have h93 := hN93
                  change ab_W _ _ _ G233 171 [some (vR 80), some (vz m_at), some (vz v2133), some (vz v2133)] [] _
                  refine ab_vret rfl d_MO_item_171 ?_
                  rw [hQ]; exact (Or.inr ⟨_, _, _, _, _, (mm + 11), _, _, _, (fun x => P x ∨ lkS v230 v2133 v2133 x), rfl, hfr, hlen, hsl, h80, h87, h88, h93, (by omega), (by first | exact hq237 | exact rgs_w hq237 (by omega)), (by exact hq238), (by exact lfc_or jl (lfc_lk1 (by omega) (by omega))), (by exact Or.inr (Or.inr (Or.inl ⟨(fun z => by have z1 := z.1; have z2 := z.2; omega), _, ⟨Or.inr ⟨by omega, hq135, by omega⟩, by omega⟩, (fun z => by have z1 := z.1; have z2 := z.2.1; have z3 := z.2.2; omega), (by rw [show m_flags % 2 = v230 by omega]; exact lor_)⟩)))⟩)
            · cases hv
              rw [hGe]
              change ab_W _ _ _ G125 95 [some (vR 80), some (vz m_at), some (vz v2133), some (vz v2133)] [vz (-1)] _
              refine zz_bipush d_MO_item_95 (by decide) ?_
              refine zz_icmp_ne (tgt := 153) d_MO_item_97 (by decide) (by decide) (by decide) (fun c239 => ?_) (fun c239 => absurd c239 (by decide))
              refine ab_aload_n d_MO_item_153 rfl ?_
              refine ab_getf (fs := mof m_thrown m_taped m_length m_out m_wide m_gathered m_sets m_ranges m_nodes a2132 m_flags m_fault m_place m_numbered m_depth v2133 m_isNot m_least0 m_most0 m_slot m_work m_got m_rowMany m_charAt m_charWide m_trail m_isMatch m_matchGroups m_allFrom m_allBefore m_founds m_pieces m_writtenMany m_templateWide m_tooMuch) f_MO_273 d_MO_item_154 h80.2.2 rfl ?_
              refine zz_if_ne (tgt := 171) d_MO_item_157 (by decide) (by omega) (fun c240 => absurd c240 (by omega)) (fun c240 => ?_)
              refine ab_aload_n d_MO_item_160 rfl ?_
              refine ab_iload_n d_MO_item_161 rfl ?_
              refine ab_iload_n d_MO_item_162 rfl ?_
              refine ab_aload_n d_MO_item_163 rfl ?_
              refine zz_iconst d_MO_item_164 ?_
              refine ab_callV (d' := d - 1) (as := [vz 1]) (st := [vz v2133, vz v2133, vR 80]) (r := _) (z1_MO_has (o := o) (m_thrown := m_thrown) (m_taped := m_taped) (m_length := m_length) (m_out := m_out) (m_wide := m_wide) (m_gathered := m_gathered) (m_sets := m_sets) (m_ranges := m_ranges) (m_nodes := m_nodes) (m_at := a2132) (m_flags := m_flags) (m_fault := m_fault) (m_place := m_place) (m_numbered := m_numbered) (m_depth := m_depth) (m_value := v2133) (m_isNot := m_isNot) (m_least0 := m_least0) (m_most0 := m_most0) (m_slot := m_slot) (m_work := m_work) (m_got := m_got) (m_rowMany := m_rowMany) (m_charAt := m_charAt) (m_charWide := m_charWide) (m_trail := m_trail) (m_isMatch := m_isMatch) (m_matchGroups := m_matchGroups) (m_allFrom := m_allFrom) (m_allBefore := m_allBefore) (m_founds := m_founds) (m_pieces := m_pieces) (m_writtenMany := m_writtenMany) (m_templateWide := m_templateWide) (m_tooMuch := m_tooMuch) h80 (by omega)) (fun oc G2 h => by rcases h with ⟨_, h, _⟩ <;> exact ⟨_, h⟩) (by omega) m_MO_has ml_MO_355 im_MO_has se_MO_has c_MO h80.2.2 (Nat.le_of_ble_eq_true rfl) d_MO_item_165 rfl ?_
              intro v G241 hq
              rcases hq with ⟨v242, hv, hGe, hq243, hq244⟩
              cases hv
              rw [hGe]
              change ab_W _ _ _ G125 168 [some (vR 80), some (vz m_at), some (vz v2133), some (vz v2133)] [vz v242, vz v2133, vz v2133, vR 80] _
              refine ab_callV (d' := d - 1) (as := [vz v2133, vz v2133, vz v242]) (st := []) (r := _) (z_MO_gatherLike (o := o) (m_thrown := m_thrown) (m_taped := m_taped) (m_length := m_length) (m_out := m_out) (m_wide := m_wide) (m_gathered := m_gathered) (m_sets := m_sets) (m_ranges := m_ranges) (m_nodes := m_nodes) (m_at := a2132) (m_flags := m_flags) (m_fault := m_fault) (m_place := m_place) (m_numbered := m_numbered) (m_depth := m_depth) (m_value := v2133) (m_isNot := m_isNot) (m_least0 := m_least0) (m_most0 := m_most0) (m_slot := m_slot) (m_work := m_work) (m_got := m_got) (m_rowMany := m_rowMany) (m_charAt := m_charAt) (m_charWide := m_charWide) (m_trail := m_trail) (m_isMatch := m_isMatch) (m_matchGroups := m_matchGroups) (m_allFrom := m_allFrom) (m_allBefore := m_allBefore) (m_founds := m_founds) (m_pieces := m_pieces) (m_writtenMany := m_writtenMany) (m_templateWide := m_templateWide) (m_tooMuch := m_tooMuch) (LO := LO) (HI := HI) (MK := MK) (P := P) (a := v2133) (b := v2133) (lk := v242) h80 h87 h88 h93 (by omega) (by omega) (by omega) (by omega) jmk jc (by omega)) (fun oc G2 h => by rcases h with ⟨_, _, _, h, _⟩ <;> exact ⟨_, h⟩) (by omega) m_MO_gatherLike ml_MO_358 im_MO_gatherLike se_MO_gatherLike c_MO h80.2.2 (Nat.le_of_ble_eq_true rfl) d_MO_item_168 rfl ?_
              intro v G245 hq
              rcases hq with ⟨LO2246, HI2247, MK2248, hv, hfk, hlk, hsk, hN80, hN87, hN88, hN93, hq249, hq250⟩
              cases hv
              have h84 := hfk.get h84 (by decide)
              have h81 := hfk.get h81 (by decide)
              have h82 := hfk.get h82 (by decide)
              have hfr := hfr.tr hfk (by decide)
              have hlen := hlk.trans hlen
              have hsl := hsk.trans hsl
              have h80 := hN80
              have h87 := hN87
              have h88 := hN88
              have h93 := hN93
              change ab_W _ _ _ G245 171 [some (vR 80), some (vz m_at), some (vz v2133), some (vz v2133)] [] _
              refine ab_vret rfl d_MO_item_171 ?_
              rw [hQ]; exact (Or.inr ⟨_, _, _, _, _, (mm + 11), _, _, _, (fun x => P x ∨ lkS v242 v2133 v2133 x), rfl, hfr, hlen, hsl, h80, h87, h88, h93, (by omega), (by first | exact hq249 | exact rgs_w hq249 (by omega)), (by exact hq250), (by exact lfc_or jl (lfc_lk1 (by omega) (by omega))), (by exact Or.inr (Or.inr (Or.inl ⟨(fun z => by have z1 := z.1; have z2 := z.2; omega), _, ⟨Or.inr ⟨by omega, hq135, by omega⟩, by omega⟩, (fun z => by have z1 := z.1; have z2 := z.2.1; have z3 := z.2.2; omega), (by rw [show m_flags % 2 = v242 by omega]; exact lor_)⟩)))⟩)
          · cases hv
            have h84 := hfk.get h84 (by decide)
            have h93 := hfk.get h93 (by decide)
            have h87 := hfk.get h87 (by decide)
            have h88 := hfk.get h88 (by decide)
            have h81 := hfk.get h81 (by decide)
            have h82 := hfk.get h82 (by decide)
            have hfr := hfr.tr hfk (by decide)
            have hlen := hlk.trans hlen
            have hsl := hsk.trans hsl
            have h80 := hN80
            change ab_W _ _ _ G125 45 [some (vR 80), some (vz m_at), none, none] [vz 1] _
            refine ab_istore_n d_MO_item_45 (Nat.le_of_ble_eq_true rfl) (Nat.le_of_ble_eq_true rfl) rfl ?_
            change ab_W _ _ _ G125 46 [some (vR 80), some (vz m_at), none, some (vz 1)] [] _
            refine ab_iload_n d_MO_item_46 rfl ?_
            refine zz_iconst d_MO_item_47 ?_
            refine zz_icmp_ne (tgt := 63) d_MO_item_48 (by decide) (by decide) (by decide) (fun c251 => absurd c251 (by decide)) (fun c251 => ?_)
            refine ab_aload_n d_MO_item_51 rfl ?_
            refine ab_aload_n d_MO_item_52 rfl ?_
            refine ab_getf (fs := mof m_thrown m_taped m_length m_out m_wide m_gathered m_sets m_ranges m_nodes a2136 m_flags m_fault m_place m_numbered m_depth v2137 nt2138 m_least0 m_most0 m_slot m_work m_got m_rowMany m_charAt m_charWide m_trail m_isMatch m_matchGroups m_allFrom m_allBefore m_founds m_pieces m_writtenMany m_templateWide m_tooMuch) f_MO_307 d_MO_item_53 h80.2.2 rfl ?_
            refine ab_aload_n d_MO_item_56 rfl ?_
            refine ab_getf (fs := mof m_thrown m_taped m_length m_out m_wide m_gathered m_sets m_ranges m_nodes a2136 m_flags m_fault m_place m_numbered m_depth v2137 nt2138 m_least0 m_most0 m_slot m_work m_got m_rowMany m_charAt m_charWide m_trail m_isMatch m_matchGroups m_allFrom m_allBefore m_founds m_pieces m_writtenMany m_templateWide m_tooMuch) f_MO_319 d_MO_item_57 h80.2.2 rfl ?_
            refine ab_callV (d' := d - 1) (as := [vz v2137, vz nt2138]) (st := []) (r := _) (z_MO_gatherNamed (o := o) (m_thrown := m_thrown) (m_taped := m_taped) (m_length := m_length) (m_out := m_out) (m_wide := m_wide) (m_gathered := m_gathered) (m_sets := m_sets) (m_ranges := m_ranges) (m_nodes := m_nodes) (m_at := a2136) (m_flags := m_flags) (m_fault := m_fault) (m_place := m_place) (m_numbered := m_numbered) (m_depth := m_depth) (m_value := v2137) (m_isNot := nt2138) (m_least0 := m_least0) (m_most0 := m_most0) (m_slot := m_slot) (m_work := m_work) (m_got := m_got) (m_rowMany := m_rowMany) (m_charAt := m_charAt) (m_charWide := m_charWide) (m_trail := m_trail) (m_isMatch := m_isMatch) (m_matchGroups := m_matchGroups) (m_allFrom := m_allFrom) (m_allBefore := m_allBefore) (m_founds := m_founds) (m_pieces := m_pieces) (m_writtenMany := m_writtenMany) (m_templateWide := m_templateWide) (m_tooMuch := m_tooMuch) (LO := LO) (HI := HI) (MK := MK) (P := P) (x := 0) (w := v2137) (nt := nt2138) (mm := mm) h80 h87 h88 h81 h82 (by omega) (by omega) jc jl (by omega)) (fun oc G2 h => by rcases h with ⟨_, _, _, _, h, _⟩ <;> exact ⟨_, h⟩) (by omega) m_MO_gatherNamed ml_MO_337 im_MO_gatherNamed se_MO_gatherNamed c_MO h80.2.2 (Nat.le_of_ble_eq_true rfl) d_MO_item_60 rfl ?_
            intro v G252 hq
            rcases hq with ⟨g2253, LO2254, HI2255, P2256, hv, hfk, hlk, hsk, hN80, hN87, hN88, hq257, hq258, hq259, hq260, hq261⟩
            cases hv
            have h84 := hfk.get h84 (by decide)
            have h93 := hfk.get h93 (by decide)
            have h81 := hfk.get h81 (by decide)
            have h82 := hfk.get h82 (by decide)
            have hfr := hfr.tr hfk (by decide)
            have hlen := hlk.trans hlen
            have hsl := hsk.trans hsl
            have h80 := hN80
            have h87 := hN87
            have h88 := hN88
            change ab_W _ _ _ G252 63 [some (vR 80), some (vz m_at), none, some (vz 1)] [] _
            refine ab_iload_n d_MO_item_63 rfl ?_
            refine zz_if_eq (tgt := 68) d_MO_item_64 (by decide) (by decide) (fun c262 => absurd c262 (by decide)) (fun c262 => ?_)
            refine ab_vret rfl d_MO_item_67 ?_
            rw [hQ]; exact (Or.inr ⟨_, _, _, _, _, (mm + g2253 - m_gathered), _, _, _, P2256, rfl, hfr, hlen, hsl, h80, h87, h88, h93, (by omega), (by first | exact jmk | exact rgs_w jmk (by omega)), (by exact hq259), (by exact lfc_w hq260 (by omega)), (by exact Or.inr (Or.inl ⟨(fun z => by have z1 := z.1; have z2 := z.2; omega), _, _, ⟨by omega, hq142⟩, kor (by omega) (by omega) hq261⟩))⟩)
          · cases hv
            have h84 := hfk.get h84 (by decide)
            have h93 := hfk.get h93 (by decide)
            have h87 := hfk.get h87 (by decide)
            have h88 := hfk.get h88 (by decide)
            have h81 := hfk.get h81 (by decide)
            have h82 := hfk.get h82 (by decide)
            have hfr := hfr.tr hfk (by decide)
            have hlen := hlk.trans hlen
            have hsl := hsk.trans hsl
            have h80 := hN80
            change ab_W _ _ _ G125 45 [some (vR 80), some (vz m_at), none, none] [vz 2] _
            exfalso; omega
          · cases hv
            have h84 := hfk.get h84 (by decide)
            have h93 := hfk.get h93 (by decide)
            have h87 := hfk.get h87 (by decide)
            have h88 := hfk.get h88 (by decide)
            have h81 := hfk.get h81 (by decide)
            have h82 := hfk.get h82 (by decide)
            have hfr := hfr.tr hfk (by decide)
            have hlen := hlk.trans hlen
            have hsl := hsk.trans hsl
            have h80 := hN80
            change ab_W _ _ _ G125 45 [some (vR 80), some (vz m_at), none, none] [vz 3] _
            exfalso; omega
      · cases hv
        rw [hGe]
        change ab_W _ _ _ G 35 [some (vR 80), some (vz m_at), none, none] [vz (-1)] _
        exfalso; omega
    · refine ab_aload_n d_MO_item_15 rfl ?_
      refine zz_iconst d_MO_item_16 ?_
      refine ab_callV (d' := d - 1) (as := [vz 1]) (st := []) (r := _) (z_MO_here (o := o) (m_thrown := m_thrown) (m_taped := m_taped) (m_length := m_length) (m_out := m_out) (m_wide := m_wide) (m_gathered := m_gathered) (m_sets := m_sets) (m_ranges := m_ranges) (m_nodes := m_nodes) (m_at := m_at) (m_flags := m_flags) (m_fault := m_fault) (m_place := m_place) (m_numbered := m_numbered) (m_depth := m_depth) (m_value := m_value) (m_isNot := m_isNot) (m_least0 := m_least0) (m_most0 := m_most0) (m_slot := m_slot) (m_work := m_work) (m_got := m_got) (m_rowMany := m_rowMany) (m_charAt := m_charAt) (m_charWide := m_charWide) (m_trail := m_trail) (m_isMatch := m_isMatch) (m_matchGroups := m_matchGroups) (m_allFrom := m_allFrom) (m_allBefore := m_allBefore) (m_founds := m_founds) (m_pieces := m_pieces) (m_writtenMany := m_writtenMany) (m_templateWide := m_templateWide) (m_tooMuch := m_tooMuch) (A_tape := A_tape) (k := 1) (qh := (m_at + 1)) h80 h84 (by omega) (by omega) jtp (by omega) (by omega)) (fun oc G2 h => by rcases h with ⟨h, _⟩ | ⟨h, _⟩ <;> exact ⟨_, h⟩) (by omega) m_MO_here ml_MO_297 im_MO_here se_MO_here c_MO h80.2.2 (Nat.le_of_ble_eq_true rfl) d_MO_item_17 rfl ?_
      intro v G263 hq
      rcases hq with ⟨hv, hGe, hq264⟩ | ⟨hv, hGe, hq265, hq266⟩
      · cases hv
        rw [hGe]
        change ab_W _ _ _ G 20 [some (vR 80), some (vz m_at), none, none] [vz (tpk A_tape m_taped (m_at + 1))] _
        refine zz_bipush d_MO_item_20 (by decide) ?_
        refine zz_icmp_ne (tgt := 30) d_MO_item_22 (by decide) (by omega) (by decide) (fun c267 => ?_) (fun c267 => ?_)
        · refine ab_aload_n d_MO_item_30 rfl ?_
          refine zz_iconst d_MO_item_31 ?_
          refine ab_callV (d' := d - 1) (as := [vz 0]) (st := []) (r := _) (z_MO_here (o := o) (m_thrown := m_thrown) (m_taped := m_taped) (m_length := m_length) (m_out := m_out) (m_wide := m_wide) (m_gathered := m_gathered) (m_sets := m_sets) (m_ranges := m_ranges) (m_nodes := m_nodes) (m_at := m_at) (m_flags := m_flags) (m_fault := m_fault) (m_place := m_place) (m_numbered := m_numbered) (m_depth := m_depth) (m_value := m_value) (m_isNot := m_isNot) (m_least0 := m_least0) (m_most0 := m_most0) (m_slot := m_slot) (m_work := m_work) (m_got := m_got) (m_rowMany := m_rowMany) (m_charAt := m_charAt) (m_charWide := m_charWide) (m_trail := m_trail) (m_isMatch := m_isMatch) (m_matchGroups := m_matchGroups) (m_allFrom := m_allFrom) (m_allBefore := m_allBefore) (m_founds := m_founds) (m_pieces := m_pieces) (m_writtenMany := m_writtenMany) (m_templateWide := m_templateWide) (m_tooMuch := m_tooMuch) (A_tape := A_tape) (k := 0) (qh := m_at) h80 h84 (by omega) (by omega) jtp (by omega) (by omega)) (fun oc G2 h => by rcases h with ⟨h, _⟩ | ⟨h, _⟩ <;> exact ⟨_, h⟩) (by omega) m_MO_here ml_MO_297 im_MO_here se_MO_here c_MO h80.2.2 (Nat.le_of_ble_eq_true rfl) d_MO_item_32 rfl ?_
          intro v G268 hq
          rcases hq with ⟨hv, hGe, hq269⟩ | ⟨hv, hGe, hq270, hq271⟩
          · cases hv
            rw [hGe]
            change ab_W _ _ _ G 35 [some (vR 80), some (vz m_at), none, none] [vz (tpk A_tape m_taped m_at)] _
            refine zz_bipush d_MO_item_35 (by decide) ?_
            refine zz_icmp_ne (tgt := 76) d_MO_item_37 (by decide) (by omega) (by decide) (fun c272 => ?_) (fun c272 => absurd c272 (by omega))
            refine ab_aload_n d_MO_item_76 rfl ?_
            refine ab_callV (d' := d - 1) (as := []) (st := []) (r := _) (z_MO_plain (o := o) (m_thrown := m_thrown) (m_taped := m_taped) (m_length := m_length) (m_out := m_out) (m_wide := m_wide) (m_gathered := m_gathered) (m_sets := m_sets) (m_ranges := m_ranges) (m_nodes := m_nodes) (m_at := m_at) (m_flags := m_flags) (m_fault := m_fault) (m_place := m_place) (m_numbered := m_numbered) (m_depth := m_depth) (m_value := m_value) (m_isNot := m_isNot) (m_least0 := m_least0) (m_most0 := m_most0) (m_slot := m_slot) (m_work := m_work) (m_got := m_got) (m_rowMany := m_rowMany) (m_charAt := m_charAt) (m_charWide := m_charWide) (m_trail := m_trail) (m_isMatch := m_isMatch) (m_matchGroups := m_matchGroups) (m_allFrom := m_allFrom) (m_allBefore := m_allBefore) (m_founds := m_founds) (m_pieces := m_pieces) (m_writtenMany := m_writtenMany) (m_templateWide := m_templateWide) (m_tooMuch := m_tooMuch) (A_tape := A_tape) h80 h84 (by omega) (by omega) jtp (by omega) (by omega) (by omega)) (fun oc G2 h => by rcases h with ⟨_, _, _, h, _⟩ | ⟨_, _, _, h, _⟩ <;> exact ⟨_, h⟩) (by omega) m_MO_plain ml_MO_348 im_MO_plain se_MO_plain c_MO h80.2.2 (Nat.le_of_ble_eq_true rfl) d_MO_item_77 rfl ?_
            intro v G273 hq
            rcases hq with ⟨w2274, f2275, p2276, hv, hfk, hlk, hsk, hN80, hq277, hq278, hq279⟩ | ⟨v280, w2281, a2282, hv, hfk, hlk, hsk, hN80, hq283, hq284, hq285⟩
            · cases hv
              have h84 := hfk.get h84 (by decide)
              have h93 := hfk.get h93 (by decide)
              have h87 := hfk.get h87 (by decide)
              have h88 := hfk.get h88 (by decide)
              have h81 := hfk.get h81 (by decide)
              have h82 := hfk.get h82 (by decide)
              have hfr := hfr.tr hfk (by decide)
              have hlen := hlk.trans hlen
              have hsl := hsk.trans hsl
              have h80 := hN80
              change ab_W _ _ _ G273 80 [some (vR 80), some (vz m_at), none, none] [vz (-1)] _
              refine ab_istore_n d_MO_item_80 (Nat.le_of_ble_eq_true rfl) (Nat.le_of_ble_eq_true rfl) rfl ?_
              change ab_W _ _ _ G273 81 [some (vR 80), some (vz m_at), some (vz (-1)), none] [] _
              refine ab_iload_n d_MO_item_81 rfl ?_
              refine ab_istore_n d_MO_item_82 (Nat.le_of_ble_eq_true rfl) (Nat.le_of_ble_eq_true rfl) rfl ?_
              change ab_W _ _ _ G273 83 [some (vR 80), some (vz m_at), some (vz (-1)), some (vz (-1))] [] _
              refine ab_aload_n d_MO_item_83 rfl ?_
              refine ab_getf (fs := mof m_thrown m_taped m_length m_out w2274 m_gathered m_sets m_ranges m_nodes m_at m_flags f2275 p2276 m_numbered m_depth m_value m_isNot m_least0 m_most0 m_slot m_work m_got m_rowMany m_charAt m_charWide m_trail m_isMatch m_matchGroups m_allFrom m_allBefore m_founds m_pieces m_writtenMany m_templateWide m_tooMuch) f_MO_273 d_MO_item_84 h80.2.2 rfl ?_
              refine zz_if_ne (tgt := 153) d_MO_item_87 (by decide) (by omega) (fun c286 => ?_) (fun c286 => absurd c286 (by omega))
              refine ab_aload_n d_MO_item_153 rfl ?_
              refine ab_getf (fs := mof m_thrown m_taped m_length m_out w2274 m_gathered m_sets m_ranges m_nodes m_at m_flags f2275 p2276 m_numbered m_depth m_value m_isNot m_least0 m_most0 m_slot m_work m_got m_rowMany m_charAt m_charWide m_trail m_isMatch m_matchGroups m_allFrom m_allBefore m_founds m_pieces m_writtenMany m_templateWide m_tooMuch) f_MO_273 d_MO_item_154 h80.2.2 rfl ?_
              refine zz_if_ne (tgt := 171) d_MO_item_157 (by decide) (by omega) (fun c287 => ?_) (fun c287 => absurd c287 (by omega))
              refine ab_vret rfl d_MO_item_171 ?_
              rw [hQ]; exact (Or.inl ⟨_, _, _, _, _, _, _, _, _, _, rfl, hfr, hlen, hsl, h80, h87, h88, h93, (by omega), (by first | exact jmk | exact rgs_w jmk (by omega)), (by exact fun op => Or.inr (Or.inl ⟨(fun z => by have z1 := z.1; have z2 := z.2; omega), Or.inr (Or.inl ⟨by omega, by omega, hq279, by omega, by omega⟩)⟩))⟩)
            · cases hv
              have h84 := hfk.get h84 (by decide)
              have h93 := hfk.get h93 (by decide)
              have h87 := hfk.get h87 (by decide)
              have h88 := hfk.get h88 (by decide)
              have h81 := hfk.get h81 (by decide)
              have h82 := hfk.get h82 (by decide)
              have hfr := hfr.tr hfk (by decide)
              have hlen := hlk.trans hlen
              have hsl := hsk.trans hsl
              have h80 := hN80
              change ab_W _ _ _ G273 80 [some (vR 80), some (vz m_at), none, none] [vz v280] _
              refine ab_istore_n d_MO_item_80 (Nat.le_of_ble_eq_true rfl) (Nat.le_of_ble_eq_true rfl) rfl ?_
              change ab_W _ _ _ G273 81 [some (vR 80), some (vz m_at), some (vz v280), none] [] _
              refine ab_iload_n d_MO_item_81 rfl ?_
              refine ab_istore_n d_MO_item_82 (Nat.le_of_ble_eq_true rfl) (Nat.le_of_ble_eq_true rfl) rfl ?_
              change ab_W _ _ _ G273 83 [some (vR 80), some (vz m_at), some (vz v280), some (vz v280)] [] _
              refine ab_aload_n d_MO_item_83 rfl ?_
              refine ab_getf (fs := mof m_thrown m_taped m_length m_out w2281 m_gathered m_sets m_ranges m_nodes a2282 m_flags m_fault m_place m_numbered m_depth m_value m_isNot m_least0 m_most0 m_slot m_work m_got m_rowMany m_charAt m_charWide m_trail m_isMatch m_matchGroups m_allFrom m_allBefore m_founds m_pieces m_writtenMany m_templateWide m_tooMuch) f_MO_273 d_MO_item_84 h80.2.2 rfl ?_
              refine zz_if_ne (tgt := 153) d_MO_item_87 (by decide) (by omega) (fun c288 => absurd c288 (by omega)) (fun c288 => ?_)
              refine ab_aload_n d_MO_item_90 rfl ?_
              refine zz_iconst d_MO_item_91 ?_
              refine ab_callV (d' := d - 1) (as := [vz 0]) (st := []) (r := _) (z_MO_here (o := o) (m_thrown := m_thrown) (m_taped := m_taped) (m_length := m_length) (m_out := m_out) (m_wide := w2281) (m_gathered := m_gathered) (m_sets := m_sets) (m_ranges := m_ranges) (m_nodes := m_nodes) (m_at := a2282) (m_flags := m_flags) (m_fault := m_fault) (m_place := m_place) (m_numbered := m_numbered) (m_depth := m_depth) (m_value := m_value) (m_isNot := m_isNot) (m_least0 := m_least0) (m_most0 := m_most0) (m_slot := m_slot) (m_work := m_work) (m_got := m_got) (m_rowMany := m_rowMany) (m_charAt := m_charAt) (m_charWide := m_charWide) (m_trail := m_trail) (m_isMatch := m_isMatch) (m_matchGroups := m_matchGroups) (m_allFrom := m_allFrom) (m_allBefore := m_allBefore) (m_founds := m_founds) (m_pieces := m_pieces) (m_writtenMany := m_writtenMany) (m_templateWide := m_templateWide) (m_tooMuch := m_tooMuch) (A_tape := A_tape) (k := 0) (qh := a2282) h80 h84 (by omega) (by omega) jtp (by omega) (by omega)) (fun oc G2 h => by rcases h with ⟨h, _⟩ | ⟨h, _⟩ <;> exact ⟨_, h⟩) (by omega) m_MO_here ml_MO_297 im_MO_here se_MO_here c_MO h80.2.2 (Nat.le_of_ble_eq_true rfl) d_MO_item_92 rfl ?_
              intro v G289 hq
              rcases hq with ⟨hv, hGe, hq290⟩ | ⟨hv, hGe, hq291, hq292⟩
              · cases hv
                rw [hGe]
                change ab_W _ _ _ G273 95 [some (vR 80), some (vz m_at), some (vz v280), some (vz v280)] [vz (tpk A_tape m_taped a2282)] _
                refine zz_bipush d_MO_item_95 (by decide) ?_
                refine zz_icmp_ne (tgt := 153) d_MO_item_97 (by decide) (by omega) (by decide) (fun c293 => ?_) (fun c293 => ?_)
                · refine ab_aload_n d_MO_item_153 rfl ?_
                  refine ab_getf (fs := mof m_thrown m_taped m_length m_out w2281 m_gathered m_sets m_ranges m_nodes a2282 m_flags m_fault m_place m_numbered m_depth m_value m_isNot m_least0 m_most0 m_slot m_work m_got m_rowMany m_charAt m_charWide m_trail m_isMatch m_matchGroups m_allFrom m_allBefore m_founds m_pieces m_writtenMany m_templateWide m_tooMuch) f_MO_273 d_MO_item_154 h80.2.2 rfl ?_
                  refine zz_if_ne (tgt := 171) d_MO_item_157 (by decide) (by omega) (fun c294 => absurd c294 (by omega)) (fun c294 => ?_)
                  refine ab_aload_n d_MO_item_160 rfl ?_
                  refine ab_iload_n d_MO_item_161 rfl ?_
                  refine ab_iload_n d_MO_item_162 rfl ?_
                  refine ab_aload_n d_MO_item_163 rfl ?_
                  refine zz_iconst d_MO_item_164 ?_
                  refine ab_callV (d' := d - 1) (as := [vz 1]) (st := [vz v280, vz v280, vR 80]) (r := _) (z1_MO_has (o := o) (m_thrown := m_thrown) (m_taped := m_taped) (m_length := m_length) (m_out := m_out) (m_wide := w2281) (m_gathered := m_gathered) (m_sets := m_sets) (m_ranges := m_ranges) (m_nodes := m_nodes) (m_at := a2282) (m_flags := m_flags) (m_fault := m_fault) (m_place := m_place) (m_numbered := m_numbered) (m_depth := m_depth) (m_value := m_value) (m_isNot := m_isNot) (m_least0 := m_least0) (m_most0 := m_most0) (m_slot := m_slot) (m_work := m_work) (m_got := m_got) (m_rowMany := m_rowMany) (m_charAt := m_charAt) (m_charWide := m_charWide) (m_trail := m_trail) (m_isMatch := m_isMatch) (m_matchGroups := m_matchGroups) (m_allFrom := m_allFrom) (m_allBefore := m_allBefore) (m_founds := m_founds) (m_pieces := m_pieces) (m_writtenMany := m_writtenMany) (m_templateWide := m_templateWide) (m_tooMuch := m_tooMuch) h80 (by omega)) (fun oc G2 h => by rcases h with ⟨_, h, _⟩ <;> exact ⟨_, h⟩) (by omega) m_MO_has ml_MO_355 im_MO_has se_MO_has c_MO h80.2.2 (Nat.le_of_ble_eq_true rfl) d_MO_item_165 rfl ?_
                  intro v G295 hq
                  rcases hq with ⟨v296, hv, hGe, hq297, hq298⟩
                  cases hv
                  rw [hGe]
                  change ab_W _ _ _ G273 168 [some (vR 80), some (vz m_at), some (vz v280), some (vz v280)] [vz v296, vz v280, vz v280, vR 80] _
                  refine ab_callV (d' := d - 1) (as := [vz v280, vz v280, vz v296]) (st := []) (r := _) (z_MO_gatherLike (o := o) (m_thrown := m_thrown) (m_taped := m_taped) (m_length := m_length) (m_out := m_out) (m_wide := w2281) (m_gathered := m_gathered) (m_sets := m_sets) (m_ranges := m_ranges) (m_nodes := m_nodes) (m_at := a2282) (m_flags := m_flags) (m_fault := m_fault) (m_place := m_place) (m_numbered := m_numbered) (m_depth := m_depth) (m_value := m_value) (m_isNot := m_isNot) (m_least0 := m_least0) (m_most0 := m_most0) (m_slot := m_slot) (m_work := m_work) (m_got := m_got) (m_rowMany := m_rowMany) (m_charAt := m_charAt) (m_charWide := m_charWide) (m_trail := m_trail) (m_isMatch := m_isMatch) (m_matchGroups := m_matchGroups) (m_allFrom := m_allFrom) (m_allBefore := m_allBefore) (m_founds := m_founds) (m_pieces := m_pieces) (m_writtenMany := m_writtenMany) (m_templateWide := m_templateWide) (m_tooMuch := m_tooMuch) (LO := LO) (HI := HI) (MK := MK) (P := P) (a := v280) (b := v280) (lk := v296) h80 h87 h88 h93 (by omega) (by omega) (by omega) (by omega) jmk jc (by omega)) (fun oc G2 h => by rcases h with ⟨_, _, _, h, _⟩ <;> exact ⟨_, h⟩) (by omega) m_MO_gatherLike ml_MO_358 im_MO_gatherLike se_MO_gatherLike c_MO h80.2.2 (Nat.le_of_ble_eq_true rfl) d_MO_item_168 rfl ?_
                  intro v G299 hq
                  rcases hq with ⟨LO2300, HI2301, MK2302, hv, hfk, hlk, hsk, hN80, hN87, hN88, hN93, hq303, hq304⟩
                  cases hv
                  have h84 := hfk.get h84 (by decide)
                  have h81 := hfk.get h81 (by decide)
                  have h82 := hfk.get h82 (by decide)
                  have hfr := hfr.tr hfk (by decide)
                  have hlen := hlk.trans hlen
                  have hsl := hsk.trans hsl
                  have h80 := hN80
                  have h87 := hN87
                  have h88 := hN88
                  have h93 := hN93
                  change ab_W _ _ _ G299 171 [some (vR 80), some (vz m_at), some (vz v280), some (vz v280)] [] _
                  refine ab_vret rfl d_MO_item_171 ?_
                  rw [hQ]; exact (Or.inr ⟨_, _, _, _, _, (mm + 11), _, _, _, (fun x => P x ∨ lkS v296 v280 v280 x), rfl, hfr, hlen, hsl, h80, h87, h88, h93, (by omega), (by first | exact hq303 | exact rgs_w hq303 (by omega)), (by exact hq304), (by exact lfc_or jl (lfc_lk1 (by omega) (by omega))), (by exact Or.inr (Or.inr (Or.inl ⟨(fun z => by have z1 := z.1; have z2 := z.2; omega), _, ⟨Or.inl ⟨by omega, by omega, hq284, hq285⟩, by omega⟩, (fun z => by have z1 := z.1; have z2 := z.2.1; have z3 := z.2.2; omega), (by rw [show m_flags % 2 = v296 by omega]; exact lor_)⟩)))⟩)
                · refine ab_aload_n d_MO_item_100 rfl ?_
                  refine zz_iconst d_MO_item_101 ?_
                  refine ab_callV (d' := d - 1) (as := [vz 1]) (st := []) (r := _) (z_MO_here (o := o) (m_thrown := m_thrown) (m_taped := m_taped) (m_length := m_length) (m_out := m_out) (m_wide := w2281) (m_gathered := m_gathered) (m_sets := m_sets) (m_ranges := m_ranges) (m_nodes := m_nodes) (m_at := a2282) (m_flags := m_flags) (m_fault := m_fault) (m_place := m_place) (m_numbered := m_numbered) (m_depth := m_depth) (m_value := m_value) (m_isNot := m_isNot) (m_least0 := m_least0) (m_most0 := m_most0) (m_slot := m_slot) (m_work := m_work) (m_got := m_got) (m_rowMany := m_rowMany) (m_charAt := m_charAt) (m_charWide := m_charWide) (m_trail := m_trail) (m_isMatch := m_isMatch) (m_matchGroups := m_matchGroups) (m_allFrom := m_allFrom) (m_allBefore := m_allBefore) (m_founds := m_founds) (m_pieces := m_pieces) (m_writtenMany := m_writtenMany) (m_templateWide := m_templateWide) (m_tooMuch := m_tooMuch) (A_tape := A_tape) (k := 1) (qh := (a2282 + 1)) h80 h84 (by omega) (by omega) jtp (by omega) (by omega)) (fun oc G2 h => by rcases h with ⟨h, _⟩ | ⟨h, _⟩ <;> exact ⟨_, h⟩) (by omega) m_MO_here ml_MO_297 im_MO_here se_MO_here c_MO h80.2.2 (Nat.le_of_ble_eq_true rfl) d_MO_item_102 rfl ?_
                  intro v G305 hq
                  rcases hq with ⟨hv, hGe, hq306⟩ | ⟨hv, hGe, hq307, hq308⟩
                  · cases hv
                    rw [hGe]
                    change ab_W _ _ _ G273 105 [some (vR 80), some (vz m_at), some (vz v280), some (vz v280)] [vz (tpk A_tape m_taped (a2282 + 1))] _
                    refine zz_if_lt (tgt := 153) d_MO_item_105 (by decide) (by omega) (fun c309 => absurd c309 (by omega)) (fun c309 => ?_)
                    refine ab_aload_n d_MO_item_108 rfl ?_
                    refine zz_iconst d_MO_item_109 ?_
                    refine ab_callV (d' := d - 1) (as := [vz 1]) (st := []) (r := _) (z_MO_here (o := o) (m_thrown := m_thrown) (m_taped := m_taped) (m_length := m_length) (m_out := m_out) (m_wide := w2281) (m_gathered := m_gathered) (m_sets := m_sets) (m_ranges := m_ranges) (m_nodes := m_nodes) (m_at := a2282) (m_flags := m_flags) (m_fault := m_fault) (m_place := m_place) (m_numbered := m_numbered) (m_depth := m_depth) (m_value := m_value) (m_isNot := m_isNot) (m_least0 := m_least0) (m_most0 := m_most0) (m_slot := m_slot) (m_work := m_work) (m_got := m_got) (m_rowMany := m_rowMany) (m_charAt := m_charAt) (m_charWide := m_charWide) (m_trail := m_trail) (m_isMatch := m_isMatch) (m_matchGroups := m_matchGroups) (m_allFrom := m_allFrom) (m_allBefore := m_allBefore) (m_founds := m_founds) (m_pieces := m_pieces) (m_writtenMany := m_writtenMany) (m_templateWide := m_templateWide) (m_tooMuch := m_tooMuch) (A_tape := A_tape) (k := 1) (qh := (a2282 + 1)) h80 h84 (by omega) (by omega) jtp (by omega) (by omega)) (fun oc G2 h => by rcases h with ⟨h, _⟩ | ⟨h, _⟩ <;> exact ⟨_, h⟩) (by omega) m_MO_here ml_MO_297 im_MO_here se_MO_here c_MO h80.2.2 (Nat.le_of_ble_eq_true rfl) d_MO_item_110 rfl ?_
                    intro v G310 hq
                    rcases hq with ⟨hv, hGe, hq311⟩ | ⟨hv, hGe, hq312, hq313⟩
                    · cases hv
                      rw [hGe]
                      change ab_W _ _ _ G273 113 [some (vR 80), some (vz m_at), some (vz v280), some (vz v280)] [vz (tpk A_tape m_taped (a2282 + 1))] _
                      refine zz_bipush d_MO_item_113 (by decide) ?_
                      refine zz_icmp_eq (tgt := 153) d_MO_item_115 (by decide) (by omega) (by decide) (fun c314 => ?_) (fun c314 => ?_)
                      · refine ab_aload_n d_MO_item_153 rfl ?_
                        refine ab_getf (fs := mof m_thrown m_taped m_length m_out w2281 m_gathered m_sets m_ranges m_nodes a2282 m_flags m_fault m_place m_numbered m_depth m_value m_isNot m_least0 m_most0 m_slot m_work m_got m_rowMany m_charAt m_charWide m_trail m_isMatch m_matchGroups m_allFrom m_allBefore m_founds m_pieces m_writtenMany m_templateWide m_tooMuch) f_MO_273 d_MO_item_154 h80.2.2 rfl ?_
                        refine zz_if_ne (tgt := 171) d_MO_item_157 (by decide) (by omega) (fun c315 => absurd c315 (by omega)) (fun c315 => ?_)
                        refine ab_aload_n d_MO_item_160 rfl ?_
                        refine ab_iload_n d_MO_item_161 rfl ?_
                        refine ab_iload_n d_MO_item_162 rfl ?_
                        refine ab_aload_n d_MO_item_163 rfl ?_
                        refine zz_iconst d_MO_item_164 ?_
                        refine ab_callV (d' := d - 1) (as := [vz 1]) (st := [vz v280, vz v280, vR 80]) (r := _) (z1_MO_has (o := o) (m_thrown := m_thrown) (m_taped := m_taped) (m_length := m_length) (m_out := m_out) (m_wide := w2281) (m_gathered := m_gathered) (m_sets := m_sets) (m_ranges := m_ranges) (m_nodes := m_nodes) (m_at := a2282) (m_flags := m_flags) (m_fault := m_fault) (m_place := m_place) (m_numbered := m_numbered) (m_depth := m_depth) (m_value := m_value) (m_isNot := m_isNot) (m_least0 := m_least0) (m_most0 := m_most0) (m_slot := m_slot) (m_work := m_work) (m_got := m_got) (m_rowMany := m_rowMany) (m_charAt := m_charAt) (m_charWide := m_charWide) (m_trail := m_trail) (m_isMatch := m_isMatch) (m_matchGroups := m_matchGroups) (m_allFrom := m_allFrom) (m_allBefore := m_allBefore) (m_founds := m_founds) (m_pieces := m_pieces) (m_writtenMany := m_writtenMany) (m_templateWide := m_templateWide) (m_tooMuch := m_tooMuch) h80 (by omega)) (fun oc G2 h => by rcases h with ⟨_, h, _⟩ <;> exact ⟨_, h⟩) (by omega) m_MO_has ml_MO_355 im_MO_has se_MO_has c_MO h80.2.2 (Nat.le_of_ble_eq_true rfl) d_MO_item_165 rfl ?_
                        intro v G316 hq
                        rcases hq with ⟨v317, hv, hGe, hq318, hq319⟩
                        cases hv
                        rw [hGe]
                        change ab_W _ _ _ G273 168 [some (vR 80), some (vz m_at), some (vz v280), some (vz v280)] [vz v317, vz v280, vz v280, vR 80] _
                        refine ab_callV (d' := d - 1) (as := [vz v280, vz v280, vz v317]) (st := []) (r := _) (z_MO_gatherLike (o := o) (m_thrown := m_thrown) (m_taped := m_taped) (m_length := m_length) (m_out := m_out) (m_wide := w2281) (m_gathered := m_gathered) (m_sets := m_sets) (m_ranges := m_ranges) (m_nodes := m_nodes) (m_at := a2282) (m_flags := m_flags) (m_fault := m_fault) (m_place := m_place) (m_numbered := m_numbered) (m_depth := m_depth) (m_value := m_value) (m_isNot := m_isNot) (m_least0 := m_least0) (m_most0 := m_most0) (m_slot := m_slot) (m_work := m_work) (m_got := m_got) (m_rowMany := m_rowMany) (m_charAt := m_charAt) (m_charWide := m_charWide) (m_trail := m_trail) (m_isMatch := m_isMatch) (m_matchGroups := m_matchGroups) (m_allFrom := m_allFrom) (m_allBefore := m_allBefore) (m_founds := m_founds) (m_pieces := m_pieces) (m_writtenMany := m_writtenMany) (m_templateWide := m_templateWide) (m_tooMuch := m_tooMuch) (LO := LO) (HI := HI) (MK := MK) (P := P) (a := v280) (b := v280) (lk := v317) h80 h87 h88 h93 (by omega) (by omega) (by omega) (by omega) jmk jc (by omega)) (fun oc G2 h => by rcases h with ⟨_, _, _, h, _⟩ <;> exact ⟨_, h⟩) (by omega) m_MO_gatherLike ml_MO_358 im_MO_gatherLike se_MO_gatherLike c_MO h80.2.2 (Nat.le_of_ble_eq_true rfl) d_MO_item_168 rfl ?_
                        intro v G320 hq
                        rcases hq with ⟨LO2321, HI2322, MK2323, hv, hfk, hlk, hsk, hN80, hN87, hN88, hN93, hq324, hq325⟩
                        cases hv
                        have h84 := hfk.get h84 (by decide)
                        have h81 := hfk.get h81 (by decide)
                        have h82 := hfk.get h82 (by decide)
                        have hfr := hfr.tr hfk (by decide)
                        have hlen := hlk.trans hlen
                        have hsl := hsk.trans hsl
                        have h80 := hN80
                        have h87 := hN87
                        have h88 := hN88
                        have h93 := hN93
                        change ab_W _ _ _ G320 171 [some (vR 80), some (vz m_at), some (vz v280), some (vz v280)] [] _
                        refine ab_vret rfl d_MO_item_171 ?_
                        rw [hQ]; exact (Or.inr ⟨_, _, _, _, _, (mm + 11), _, _, _, (fun x => P x ∨ lkS v317 v280 v280 x), rfl, hfr, hlen, hsl, h80, h87, h88, h93, (by omega), (by first | exact hq324 | exact rgs_w hq324 (by omega)), (by exact hq325), (by exact lfc_or jl (lfc_lk1 (by omega) (by omega))), (by exact Or.inr (Or.inr (Or.inl ⟨(fun z => by have z1 := z.1; have z2 := z.2; omega), _, ⟨Or.inl ⟨by omega, by omega, hq284, hq285⟩, by omega⟩, (fun z => by have z1 := z.1; have z2 := z.2.1; have z3 := z.2.2; omega), (by rw [show m_flags % 2 = v317 by omega]; exact lor_)⟩)))⟩)
                      · refine ab_aload_n d_MO_item_118 rfl ?_
                        refine ab_dup d_MO_item_119 rfl ?_
                        refine ab_getf (fs := mof m_thrown m_taped m_length m_out w2281 m_gathered m_sets m_ranges m_nodes a2282 m_flags m_fault m_place m_numbered m_depth m_value m_isNot m_least0 m_most0 m_slot m_work m_got m_rowMany m_charAt m_charWide m_trail m_isMatch m_matchGroups m_allFrom m_allBefore m_founds m_pieces m_writtenMany m_templateWide m_tooMuch) f_MO_279 d_MO_item_120 h80.2.2 rfl ?_
                        refine zz_iconst d_MO_item_123 ?_
                        refine zz_iadd d_MO_item_124 ?_
                        refine ab_putf (fs := mof m_thrown m_taped m_length m_out w2281 m_gathered m_sets m_ranges m_nodes a2282 m_flags m_fault m_place m_numbered m_depth m_value m_isNot m_least0 m_most0 m_slot m_work m_got m_rowMany m_charAt m_charWide m_trail m_isMatch m_matchGroups m_allFrom m_allBefore m_founds m_pieces m_writtenMany m_templateWide m_tooMuch) f_MO_279 (Or.inl rfl) d_MO_item_125 h80.2.2 (Nat.le_of_ble_eq_true rfl) (fun _ => ⟨rfl, rfl⟩) (h80.2.1 (by decide)) ?_
                        obtain ⟨G326, eG326⟩ : ∃ z : ab_G, z = List.set G273 80 (ab_ob 12 (mof m_thrown m_taped m_length m_out w2281 m_gathered m_sets m_ranges m_nodes (a2282 + 1) m_flags m_fault m_place m_numbered m_depth m_value m_isNot m_least0 m_most0 m_slot m_work m_got m_rowMany m_charAt m_charWide m_trail m_isMatch m_matchGroups m_allFrom m_allBefore m_founds m_pieces m_writtenMany m_templateWide m_tooMuch)) := ⟨_, rfl⟩
                        have h84 := h84.keep h80 eG326 (by decide)
                        have h93 := h93.keep h80 eG326 (by decide)
                        have h87 := h87.keep h80 eG326 (by decide)
                        have h88 := h88.keep h80 eG326 (by decide)
                        have h81 := h81.keep h80 eG326 (by decide)
                        have h82 := h82.keep h80 eG326 (by decide)
                        have hlen := (z_len eG326).trans hlen
                        have hsl := (z_sl h80 eG326 rfl).trans hsl
                        have hfr := hfr.wr h80 eG326 (by decide)
                        have h80 := h80.kept eG326
                        change ab_W _ _ _ (List.set G273 80 (ab_ob 12 (mof m_thrown m_taped m_length m_out w2281 m_gathered m_sets m_ranges m_nodes (a2282 + 1) m_flags m_fault m_place m_numbered m_depth m_value m_isNot m_least0 m_most0 m_slot m_work m_got m_rowMany m_charAt m_charWide m_trail m_isMatch m_matchGroups m_allFrom m_allBefore m_founds m_pieces m_writtenMany m_templateWide m_tooMuch))) 128 [some (vR 80), some (vz m_at), some (vz v280), some (vz v280)] [] _
                        rw [← eG326]
                        refine ab_aload_n d_MO_item_128 rfl ?_
                        refine ab_iload_n d_MO_item_129 rfl ?_
                        refine ab_callV (d' := d - 1) (as := [vz m_at]) (st := []) (r := _) (z_MO_rangeEnd (o := o) (m_thrown := m_thrown) (m_taped := m_taped) (m_length := m_length) (m_out := m_out) (m_wide := w2281) (m_gathered := m_gathered) (m_sets := m_sets) (m_ranges := m_ranges) (m_nodes := m_nodes) (m_at := (a2282 + 1)) (m_flags := m_flags) (m_fault := m_fault) (m_place := m_place) (m_numbered := m_numbered) (m_depth := m_depth) (m_value := m_value) (m_isNot := m_isNot) (m_least0 := m_least0) (m_most0 := m_most0) (m_slot := m_slot) (m_work := m_work) (m_got := m_got) (m_rowMany := m_rowMany) (m_charAt := m_charAt) (m_charWide := m_charWide) (m_trail := m_trail) (m_isMatch := m_isMatch) (m_matchGroups := m_matchGroups) (m_allFrom := m_allFrom) (m_allBefore := m_allBefore) (m_founds := m_founds) (m_pieces := m_pieces) (m_writtenMany := m_writtenMany) (m_templateWide := m_templateWide) (m_tooMuch := m_tooMuch) (A_tape := A_tape) (wh := m_at) h80 h84 (by omega) (by omega) jtp (by omega) (by omega) (by omega) (by omega)) (fun oc G2 h => by rcases h with ⟨_, _, _, _, _, _, _, h, _⟩ | ⟨_, _, _, _, h, _⟩ <;> exact ⟨_, h⟩) (by omega) m_MO_rangeEnd ml_MO_352 im_MO_rangeEnd se_MO_rangeEnd c_MO h80.2.2 (Nat.le_of_ble_eq_true rfl) d_MO_item_130 rfl ?_
                        intro v G327 hq
                        rcases hq with ⟨v328, a2329, f2330, p2331, v2332, nt2333, w2334, hv, hfk, hlk, hsk, hN80, hq335, hq336⟩ | ⟨v337, a2338, v2339, w2340, hv, hfk, hlk, hsk, hN80, hq341, hq342, hq343⟩
                        · cases hv
                          have h84 := hfk.get h84 (by decide)
                          have h93 := hfk.get h93 (by decide)
                          have h87 := hfk.get h87 (by decide)
                          have h88 := hfk.get h88 (by decide)
                          have h81 := hfk.get h81 (by decide)
                          have h82 := hfk.get h82 (by decide)
                          have hfr := hfr.tr hfk (by decide)
                          have hlen := hlk.trans hlen
                          have hsl := hsk.trans hsl
                          have h80 := hN80
                          change ab_W _ _ _ G327 133 [some (vR 80), some (vz m_at), some (vz v280), some (vz v280)] [vz v328] _
                          refine ab_istore_n d_MO_item_133 (Nat.le_of_ble_eq_true rfl) (Nat.le_of_ble_eq_true rfl) rfl ?_
                          change ab_W _ _ _ G327 134 [some (vR 80), some (vz m_at), some (vz v280), some (vz v328)] [] _
                          refine ab_aload_n d_MO_item_134 rfl ?_
                          refine ab_getf (fs := mof m_thrown m_taped m_length m_out w2334 m_gathered m_sets m_ranges m_nodes a2329 m_flags f2330 p2331 m_numbered m_depth v2332 nt2333 m_least0 m_most0 m_slot m_work m_got m_rowMany m_charAt m_charWide m_trail m_isMatch m_matchGroups m_allFrom m_allBefore m_founds m_pieces m_writtenMany m_templateWide m_tooMuch) f_MO_273 d_MO_item_135 h80.2.2 rfl ?_
                          refine zz_if_ne (tgt := 153) d_MO_item_138 (by decide) (by omega) (fun c344 => ?_) (fun c344 => absurd c344 (by omega))
                          refine ab_aload_n d_MO_item_153 rfl ?_
                          refine ab_getf (fs := mof m_thrown m_taped m_length m_out w2334 m_gathered m_sets m_ranges m_nodes a2329 m_flags f2330 p2331 m_numbered m_depth v2332 nt2333 m_least0 m_most0 m_slot m_work m_got m_rowMany m_charAt m_charWide m_trail m_isMatch m_matchGroups m_allFrom m_allBefore m_founds m_pieces m_writtenMany m_templateWide m_tooMuch) f_MO_273 d_MO_item_154 h80.2.2 rfl ?_
                          refine zz_if_ne (tgt := 171) d_MO_item_157 (by decide) (by omega) (fun c345 => ?_) (fun c345 => absurd c345 (by omega))
                          refine ab_vret rfl d_MO_item_171 ?_
                          rw [hQ]; exact (Or.inl ⟨_, _, _, _, _, _, _, _, _, _, rfl, hfr, hlen, hsl, h80, h87, h88, h93, (by omega), (by first | exact jmk | exact rgs_w jmk (by omega)), (by exact fun op => Or.inr (Or.inr ⟨(fun z => by have z1 := z.1; have z2 := z.2; omega), _, _, ⟨Or.inl ⟨by omega, by omega, hq284, hq285⟩, by omega⟩, ⟨by omega, by omega, by omega⟩, (by rcases hq336 with y | ⟨y0, y | y⟩; (exact Or.inl y); (exact Or.inr ⟨y0, Or.inl y⟩); (exact Or.inr ⟨y0, Or.inr (Or.inl (y op))⟩))⟩))⟩)
                        · cases hv
                          have h84 := hfk.get h84 (by decide)
                          have h93 := hfk.get h93 (by decide)
                          have h87 := hfk.get h87 (by decide)
                          have h88 := hfk.get h88 (by decide)
                          have h81 := hfk.get h81 (by decide)
                          have h82 := hfk.get h82 (by decide)
                          have hfr := hfr.tr hfk (by decide)
                          have hlen := hlk.trans hlen
                          have hsl := hsk.trans hsl
                          have h80 := hN80
                          change ab_W _ _ _ G327 133 [some (vR 80), some (vz m_at), some (vz v280), some (vz v280)] [vz v337] _
                          refine ab_istore_n d_MO_item_133 (Nat.le_of_ble_eq_true rfl) (Nat.le_of_ble_eq_true rfl) rfl ?_
                          change ab_W _ _ _ G327 134 [some (vR 80), some (vz m_at), some (vz v280), some (vz v337)] [] _
                          refine ab_aload_n d_MO_item_134 rfl ?_
                          refine ab_getf (fs := mof m_thrown m_taped m_length m_out w2340 m_gathered m_sets m_ranges m_nodes a2338 m_flags m_fault m_place m_numbered m_depth v2339 m_isNot m_least0 m_most0 m_slot m_work m_got m_rowMany m_charAt m_charWide m_trail m_isMatch m_matchGroups m_allFrom m_allBefore m_founds m_pieces m_writtenMany m_templateWide m_tooMuch) f_MO_273 d_MO_item_135 h80.2.2 rfl ?_
                          refine zz_if_ne (tgt := 153) d_MO_item_138 (by decide) (by omega) (fun c346 => absurd c346 (by omega)) (fun c346 => ?_)
                          refine ab_iload_n d_MO_item_141 rfl ?_
                          refine ab_iload_n d_MO_item_142 rfl ?_
                          refine zz_icmp_ge (tgt := 153) d_MO_item_143 (by decide) (by omega) (by omega) (fun c347 => ?_) (fun c347 => ?_)
                          · refine ab_aload_n d_MO_item_153 rfl ?_
                            refine ab_getf (fs := mof m_thrown m_taped m_length m_out w2340 m_gathered m_sets m_ranges m_nodes a2338 m_flags m_fault m_place m_numbered m_depth v2339 m_isNot m_least0 m_most0 m_slot m_work m_got m_rowMany m_charAt m_charWide m_trail m_isMatch m_matchGroups m_allFrom m_allBefore m_founds m_pieces m_writtenMany m_templateWide m_tooMuch) f_MO_273 d_MO_item_154 h80.2.2 rfl ?_
                            refine zz_if_ne (tgt := 171) d_MO_item_157 (by decide) (by omega) (fun c348 => absurd c348 (by omega)) (fun c348 => ?_)
                            refine ab_aload_n d_MO_item_160 rfl ?_
                            refine ab_iload_n d_MO_item_161 rfl ?_
                            refine ab_iload_n d_MO_item_162 rfl ?_
                            refine ab_aload_n d_MO_item_163 rfl ?_
                            refine zz_iconst d_MO_item_164 ?_
                            refine ab_callV (d' := d - 1) (as := [vz 1]) (st := [vz v337, vz v280, vR 80]) (r := _) (z1_MO_has (o := o) (m_thrown := m_thrown) (m_taped := m_taped) (m_length := m_length) (m_out := m_out) (m_wide := w2340) (m_gathered := m_gathered) (m_sets := m_sets) (m_ranges := m_ranges) (m_nodes := m_nodes) (m_at := a2338) (m_flags := m_flags) (m_fault := m_fault) (m_place := m_place) (m_numbered := m_numbered) (m_depth := m_depth) (m_value := v2339) (m_isNot := m_isNot) (m_least0 := m_least0) (m_most0 := m_most0) (m_slot := m_slot) (m_work := m_work) (m_got := m_got) (m_rowMany := m_rowMany) (m_charAt := m_charAt) (m_charWide := m_charWide) (m_trail := m_trail) (m_isMatch := m_isMatch) (m_matchGroups := m_matchGroups) (m_allFrom := m_allFrom) (m_allBefore := m_allBefore) (m_founds := m_founds) (m_pieces := m_pieces) (m_writtenMany := m_writtenMany) (m_templateWide := m_templateWide) (m_tooMuch := m_tooMuch) h80 (by omega)) (fun oc G2 h => by rcases h with ⟨_, h, _⟩ <;> exact ⟨_, h⟩) (by omega) m_MO_has ml_MO_355 im_MO_has se_MO_has c_MO h80.2.2 (Nat.le_of_ble_eq_true rfl) d_MO_item_165 rfl ?_
                            intro v G349 hq
                            rcases hq with ⟨v350, hv, hGe, hq351, hq352⟩
                            cases hv
                            rw [hGe]
                            change ab_W _ _ _ G327 168 [some (vR 80), some (vz m_at), some (vz v280), some (vz v337)] [vz v350, vz v337, vz v280, vR 80] _
                            refine ab_callV (d' := d - 1) (as := [vz v280, vz v337, vz v350]) (st := []) (r := _) (z_MO_gatherLike (o := o) (m_thrown := m_thrown) (m_taped := m_taped) (m_length := m_length) (m_out := m_out) (m_wide := w2340) (m_gathered := m_gathered) (m_sets := m_sets) (m_ranges := m_ranges) (m_nodes := m_nodes) (m_at := a2338) (m_flags := m_flags) (m_fault := m_fault) (m_place := m_place) (m_numbered := m_numbered) (m_depth := m_depth) (m_value := v2339) (m_isNot := m_isNot) (m_least0 := m_least0) (m_most0 := m_most0) (m_slot := m_slot) (m_work := m_work) (m_got := m_got) (m_rowMany := m_rowMany) (m_charAt := m_charAt) (m_charWide := m_charWide) (m_trail := m_trail) (m_isMatch := m_isMatch) (m_matchGroups := m_matchGroups) (m_allFrom := m_allFrom) (m_allBefore := m_allBefore) (m_founds := m_founds) (m_pieces := m_pieces) (m_writtenMany := m_writtenMany) (m_templateWide := m_templateWide) (m_tooMuch := m_tooMuch) (LO := LO) (HI := HI) (MK := MK) (P := P) (a := v280) (b := v337) (lk := v350) h80 h87 h88 h93 (by omega) (by omega) (by omega) (by omega) jmk jc (by omega)) (fun oc G2 h => by rcases h with ⟨_, _, _, h, _⟩ <;> exact ⟨_, h⟩) (by omega) m_MO_gatherLike ml_MO_358 im_MO_gatherLike se_MO_gatherLike c_MO h80.2.2 (Nat.le_of_ble_eq_true rfl) d_MO_item_168 rfl ?_
                            intro v G353 hq
                            rcases hq with ⟨LO2354, HI2355, MK2356, hv, hfk, hlk, hsk, hN80, hN87, hN88, hN93, hq357, hq358⟩
                            cases hv
                            have h84 := hfk.get h84 (by decide)
                            have h81 := hfk.get h81 (by decide)
                            have h82 := hfk.get h82 (by decide)
                            have hfr := hfr.tr hfk (by decide)
                            have hlen := hlk.trans hlen
                            have hsl := hsk.trans hsl
                            have h80 := hN80
                            have h87 := hN87
                            have h88 := hN88
                            have h93 := hN93
                            change ab_W _ _ _ G353 171 [some (vR 80), some (vz m_at), some (vz v280), some (vz v337)] [] _
                            refine ab_vret rfl d_MO_item_171 ?_
                            rw [hQ]; exact (Or.inr ⟨_, _, _, _, _, (mm + 33), _, _, _, (fun x => P x ∨ lkS v350 v280 v337 x), rfl, hfr, hlen, hsl, h80, h87, h88, h93, (by omega), (by first | exact hq357 | exact rgs_w hq357 (by omega)), (by exact hq358), (by exact lfc_or jl (lfc_lk (by omega))), (by exact Or.inr (Or.inr (Or.inr ⟨(fun z => by have z1 := z.1; have z2 := z.2; omega), _, _, _, ⟨Or.inl ⟨by omega, by omega, hq284, hq285⟩, by omega⟩, ⟨by omega, by omega, by omega⟩, hq342, hq343, by omega, (by rw [show m_flags % 2 = v350 by omega]; exact lor_)⟩)))⟩)
                          · refine ab_aload_n d_MO_item_146 rfl ?_
                            refine zz_bipush d_MO_item_147 (by decide) ?_
                            refine ab_iload_n d_MO_item_149 rfl ?_
                            refine ab_callV (d' := d - 1) (as := [vz 6, vz m_at]) (st := []) (r := _) (z_MO_wrong (o := o) (m_thrown := m_thrown) (m_taped := m_taped) (m_length := m_length) (m_out := m_out) (m_wide := w2340) (m_gathered := m_gathered) (m_sets := m_sets) (m_ranges := m_ranges) (m_nodes := m_nodes) (m_at := a2338) (m_flags := m_flags) (m_fault := m_fault) (m_place := m_place) (m_numbered := m_numbered) (m_depth := m_depth) (m_value := v2339) (m_isNot := m_isNot) (m_least0 := m_least0) (m_most0 := m_most0) (m_slot := m_slot) (m_work := m_work) (m_got := m_got) (m_rowMany := m_rowMany) (m_charAt := m_charAt) (m_charWide := m_charWide) (m_trail := m_trail) (m_isMatch := m_isMatch) (m_matchGroups := m_matchGroups) (m_allFrom := m_allFrom) (m_allBefore := m_allBefore) (m_founds := m_founds) (m_pieces := m_pieces) (m_writtenMany := m_writtenMany) (m_templateWide := m_templateWide) (m_tooMuch := m_tooMuch) (x := 6) (y := m_at) h80 (by omega) (by omega)) (fun oc G2 h => by rcases h with ⟨h, _⟩ | ⟨h, _⟩ <;> exact ⟨_, h⟩) (by omega) m_MO_wrong ml_MO_304 im_MO_wrong se_MO_wrong c_MO h80.2.2 (Nat.le_of_ble_eq_true rfl) d_MO_item_150 rfl ?_
                            intro v G359 hq
                            rcases hq with ⟨hv, hfk, hlk, hsk, hN80, hq360⟩ | ⟨hv, hGe, hq361⟩
                            · cases hv
                              have h84 := hfk.get h84 (by decide)
                              have h93 := hfk.get h93 (by decide)
                              have h87 := hfk.get h87 (by decide)
                              have h88 := hfk.get h88 (by decide)
                              have h81 := hfk.get h81 (by decide)
                              have h82 := hfk.get h82 (by decide)
                              have hfr := hfr.tr hfk (by decide)
                              have hlen := hlk.trans hlen
                              have hsl := hsk.trans hsl
                              have h80 := hN80
                              change ab_W _ _ _ G359 153 [some (vR 80), some (vz m_at), some (vz v280), some (vz v337)] [] _
                              refine ab_aload_n d_MO_item_153 rfl ?_
                              refine ab_getf (fs := mof m_thrown m_taped m_length m_out w2340 m_gathered m_sets m_ranges m_nodes a2338 m_flags 6 m_at m_numbered m_depth v2339 m_isNot m_least0 m_most0 m_slot m_work m_got m_rowMany m_charAt m_charWide m_trail m_isMatch m_matchGroups m_allFrom m_allBefore m_founds m_pieces m_writtenMany m_templateWide m_tooMuch) f_MO_273 d_MO_item_154 h80.2.2 rfl ?_
                              refine zz_if_ne (tgt := 171) d_MO_item_157 (by decide) (by decide) (fun c362 => ?_) (fun c362 => absurd c362 (by decide))
                              refine ab_vret rfl d_MO_item_171 ?_
                              rw [hQ]; exact (Or.inl ⟨_, _, _, _, _, _, _, _, _, _, rfl, hfr, hlen, hsl, h80, h87, h88, h93, (by omega), (by first | exact jmk | exact rgs_w jmk (by omega)), (by exact fun op => Or.inr (Or.inr ⟨(fun z => by have z1 := z.1; have z2 := z.2; omega), _, _, ⟨Or.inl ⟨by omega, by omega, hq284, hq285⟩, by omega⟩, ⟨by omega, by omega, by omega⟩, Or.inr ⟨hq342, Or.inr (Or.inr ⟨by omega, by omega, _, _, ⟨hq343, by omega⟩, by omega⟩)⟩⟩))⟩)
                            · cases hv
                              rw [hGe]
                              change ab_W _ _ _ G327 153 [some (vR 80), some (vz m_at), some (vz v280), some (vz v337)] [] _
                              exfalso; omega
                    · cases hv
                      rw [hGe]
                      change ab_W _ _ _ G273 113 [some (vR 80), some (vz m_at), some (vz v280), some (vz v280)] [vz (-1)] _
                      exfalso; omega
                  · cases hv
                    rw [hGe]
                    change ab_W _ _ _ G273 105 [some (vR 80), some (vz m_at), some (vz v280), some (vz v280)] [vz (-1)] _
                    refine zz_if_lt (tgt := 153) d_MO_item_105 (by decide) (by decide) (fun c363 => ?_) (fun c363 => absurd c363 (by decide))
                    refine ab_aload_n d_MO_item_153 rfl ?_
                    refine ab_getf (fs := mof m_thrown m_taped m_length m_out w2281 m_gathered m_sets m_ranges m_nodes a2282 m_flags m_fault m_place m_numbered m_depth m_value m_isNot m_least0 m_most0 m_slot m_work m_got m_rowMany m_charAt m_charWide m_trail m_isMatch m_matchGroups m_allFrom m_allBefore m_founds m_pieces m_writtenMany m_templateWide m_tooMuch) f_MO_273 d_MO_item_154 h80.2.2 rfl ?_
                    refine zz_if_ne (tgt := 171) d_MO_item_157 (by decide) (by omega) (fun c364 => absurd c364 (by omega)) (fun c364 => ?_)
                    refine ab_aload_n d_MO_item_160 rfl ?_
                    refine ab_iload_n d_MO_item_161 rfl ?_
                    refine ab_iload_n d_MO_item_162 rfl ?_
                    refine ab_aload_n d_MO_item_163 rfl ?_
                    refine zz_iconst d_MO_item_164 ?_
                    refine ab_callV (d' := d - 1) (as := [vz 1]) (st := [vz v280, vz v280, vR 80]) (r := _) (z1_MO_has (o := o) (m_thrown := m_thrown) (m_taped := m_taped) (m_length := m_length) (m_out := m_out) (m_wide := w2281) (m_gathered := m_gathered) (m_sets := m_sets) (m_ranges := m_ranges) (m_nodes := m_nodes) (m_at := a2282) (m_flags := m_flags) (m_fault := m_fault) (m_place := m_place) (m_numbered := m_numbered) (m_depth := m_depth) (m_value := m_value) (m_isNot := m_isNot) (m_least0 := m_least0) (m_most0 := m_most0) (m_slot := m_slot) (m_work := m_work) (m_got := m_got) (m_rowMany := m_rowMany) (m_charAt := m_charAt) (m_charWide := m_charWide) (m_trail := m_trail) (m_isMatch := m_isMatch) (m_matchGroups := m_matchGroups) (m_allFrom := m_allFrom) (m_allBefore := m_allBefore) (m_founds := m_founds) (m_pieces := m_pieces) (m_writtenMany := m_writtenMany) (m_templateWide := m_templateWide) (m_tooMuch := m_tooMuch) h80 (by omega)) (fun oc G2 h => by rcases h with ⟨_, h, _⟩ <;> exact ⟨_, h⟩) (by omega) m_MO_has ml_MO_355 im_MO_has se_MO_has c_MO h80.2.2 (Nat.le_of_ble_eq_true rfl) d_MO_item_165 rfl ?_
                    intro v G365 hq
                    rcases hq with ⟨v366, hv, hGe, hq367, hq368⟩
                    cases hv
                    rw [hGe]
                    change ab_W _ _ _ G273 168 [some (vR 80), some (vz m_at), some (vz v280), some (vz v280)] [vz v366, vz v280, vz v280, vR 80] _
                    refine ab_callV (d' := d - 1) (as := [vz v280, vz v280, vz v366]) (st := []) (r := _) (z_MO_gatherLike (o := o) (m_thrown := m_thrown) (m_taped := m_taped) (m_length := m_length) (m_out := m_out) (m_wide := w2281) (m_gathered := m_gathered) (m_sets := m_sets) (m_ranges := m_ranges) (m_nodes := m_nodes) (m_at := a2282) (m_flags := m_flags) (m_fault := m_fault) (m_place := m_place) (m_numbered := m_numbered) (m_depth := m_depth) (m_value := m_value) (m_isNot := m_isNot) (m_least0 := m_least0) (m_most0 := m_most0) (m_slot := m_slot) (m_work := m_work) (m_got := m_got) (m_rowMany := m_rowMany) (m_charAt := m_charAt) (m_charWide := m_charWide) (m_trail := m_trail) (m_isMatch := m_isMatch) (m_matchGroups := m_matchGroups) (m_allFrom := m_allFrom) (m_allBefore := m_allBefore) (m_founds := m_founds) (m_pieces := m_pieces) (m_writtenMany := m_writtenMany) (m_templateWide := m_templateWide) (m_tooMuch := m_tooMuch) (LO := LO) (HI := HI) (MK := MK) (P := P) (a := v280) (b := v280) (lk := v366) h80 h87 h88 h93 (by omega) (by omega) (by omega) (by omega) jmk jc (by omega)) (fun oc G2 h => by rcases h with ⟨_, _, _, h, _⟩ <;> exact ⟨_, h⟩) (by omega) m_MO_gatherLike ml_MO_358 im_MO_gatherLike se_MO_gatherLike c_MO h80.2.2 (Nat.le_of_ble_eq_true rfl) d_MO_item_168 rfl ?_
                    intro v G369 hq
                    rcases hq with ⟨LO2370, HI2371, MK2372, hv, hfk, hlk, hsk, hN80, hN87, hN88, hN93, hq373, hq374⟩
                    cases hv
                    have h84 := hfk.get h84 (by decide)
                    have h81 := hfk.get h81 (by decide)
                    have h82 := hfk.get h82 (by decide)
                    have hfr := hfr.tr hfk (by decide)
                    have hlen := hlk.trans hlen
                    have hsl := hsk.trans hsl
                    have h80 := hN80
                    have h87 := hN87
                    have h88 := hN88
                    have h93 := hN93
                    change ab_W _ _ _ G369 171 [some (vR 80), some (vz m_at), some (vz v280), some (vz v280)] [] _
                    refine ab_vret rfl d_MO_item_171 ?_
                    rw [hQ]; exact (Or.inr ⟨_, _, _, _, _, (mm + 11), _, _, _, (fun x => P x ∨ lkS v366 v280 v280 x), rfl, hfr, hlen, hsl, h80, h87, h88, h93, (by omega), (by first | exact hq373 | exact rgs_w hq373 (by omega)), (by exact hq374), (by exact lfc_or jl (lfc_lk1 (by omega) (by omega))), (by exact Or.inr (Or.inr (Or.inl ⟨(fun z => by have z1 := z.1; have z2 := z.2; omega), _, ⟨Or.inl ⟨by omega, by omega, hq284, hq285⟩, by omega⟩, (fun z => by have z1 := z.1; have z2 := z.2.1; have z3 := z.2.2; omega), (by rw [show m_flags % 2 = v366 by omega]; exact lor_)⟩)))⟩)
              · cases hv
                rw [hGe]
                change ab_W _ _ _ G273 95 [some (vR 80), some (vz m_at), some (vz v280), some (vz v280)] [vz (-1)] _
                refine zz_bipush d_MO_item_95 (by decide) ?_
                refine zz_icmp_ne (tgt := 153) d_MO_item_97 (by decide) (by decide) (by decide) (fun c375 => ?_) (fun c375 => absurd c375 (by decide))
                refine ab_aload_n d_MO_item_153 rfl ?_
                refine ab_getf (fs := mof m_thrown m_taped m_length m_out w2281 m_gathered m_sets m_ranges m_nodes a2282 m_flags m_fault m_place m_numbered m_depth m_value m_isNot m_least0 m_most0 m_slot m_work m_got m_rowMany m_charAt m_charWide m_trail m_isMatch m_matchGroups m_allFrom m_allBefore m_founds m_pieces m_writtenMany m_templateWide m_tooMuch) f_MO_273 d_MO_item_154 h80.2.2 rfl ?_
                refine zz_if_ne (tgt := 171) d_MO_item_157 (by decide) (by omega) (fun c376 => absurd c376 (by omega)) (fun c376 => ?_)
                refine ab_aload_n d_MO_item_160 rfl ?_
                refine ab_iload_n d_MO_item_161 rfl ?_
                refine ab_iload_n d_MO_item_162 rfl ?_
                refine ab_aload_n d_MO_item_163 rfl ?_
                refine zz_iconst d_MO_item_164 ?_
                refine ab_callV (d' := d - 1) (as := [vz 1]) (st := [vz v280, vz v280, vR 80]) (r := _) (z1_MO_has (o := o) (m_thrown := m_thrown) (m_taped := m_taped) (m_length := m_length) (m_out := m_out) (m_wide := w2281) (m_gathered := m_gathered) (m_sets := m_sets) (m_ranges := m_ranges) (m_nodes := m_nodes) (m_at := a2282) (m_flags := m_flags) (m_fault := m_fault) (m_place := m_place) (m_numbered := m_numbered) (m_depth := m_depth) (m_value := m_value) (m_isNot := m_isNot) (m_least0 := m_least0) (m_most0 := m_most0) (m_slot := m_slot) (m_work := m_work) (m_got := m_got) (m_rowMany := m_rowMany) (m_charAt := m_charAt) (m_charWide := m_charWide) (m_trail := m_trail) (m_isMatch := m_isMatch) (m_matchGroups := m_matchGroups) (m_allFrom := m_allFrom) (m_allBefore := m_allBefore) (m_founds := m_founds) (m_pieces := m_pieces) (m_writtenMany := m_writtenMany) (m_templateWide := m_templateWide) (m_tooMuch := m_tooMuch) h80 (by omega)) (fun oc G2 h => by rcases h with ⟨_, h, _⟩ <;> exact ⟨_, h⟩) (by omega) m_MO_has ml_MO_355 im_MO_has se_MO_has c_MO h80.2.2 (Nat.le_of_ble_eq_true rfl) d_MO_item_165 rfl ?_
                intro v G377 hq
                rcases hq with ⟨v378, hv, hGe, hq379, hq380⟩
                cases hv
                rw [hGe]
                change ab_W _ _ _ G273 168 [some (vR 80), some (vz m_at), some (vz v280), some (vz v280)] [vz v378, vz v280, vz v280, vR 80] _
                refine ab_callV (d' := d - 1) (as := [vz v280, vz v280, vz v378]) (st := []) (r := _) (z_MO_gatherLike (o := o) (m_thrown := m_thrown) (m_taped := m_taped) (m_length := m_length) (m_out := m_out) (m_wide := w2281) (m_gathered := m_gathered) (m_sets := m_sets) (m_ranges := m_ranges) (m_nodes := m_nodes) (m_at := a2282) (m_flags := m_flags) (m_fault := m_fault) (m_place := m_place) (m_numbered := m_numbered) (m_depth := m_depth) (m_value := m_value) (m_isNot := m_isNot) (m_least0 := m_least0) (m_most0 := m_most0) (m_slot := m_slot) (m_work := m_work) (m_got := m_got) (m_rowMany := m_rowMany) (m_charAt := m_charAt) (m_charWide := m_charWide) (m_trail := m_trail) (m_isMatch := m_isMatch) (m_matchGroups := m_matchGroups) (m_allFrom := m_allFrom) (m_allBefore := m_allBefore) (m_founds := m_founds) (m_pieces := m_pieces) (m_writtenMany := m_writtenMany) (m_templateWide := m_templateWide) (m_tooMuch := m_tooMuch) (LO := LO) (HI := HI) (MK := MK) (P := P) (a := v280) (b := v280) (lk := v378) h80 h87 h88 h93 (by omega) (by omega) (by omega) (by omega) jmk jc (by omega)) (fun oc G2 h => by rcases h with ⟨_, _, _, h, _⟩ <;> exact ⟨_, h⟩) (by omega) m_MO_gatherLike ml_MO_358 im_MO_gatherLike se_MO_gatherLike c_MO h80.2.2 (Nat.le_of_ble_eq_true rfl) d_MO_item_168 rfl ?_
                intro v G381 hq
                rcases hq with ⟨LO2382, HI2383, MK2384, hv, hfk, hlk, hsk, hN80, hN87, hN88, hN93, hq385, hq386⟩
                cases hv
                have h84 := hfk.get h84 (by decide)
                have h81 := hfk.get h81 (by decide)
                have h82 := hfk.get h82 (by decide)
                have hfr := hfr.tr hfk (by decide)
                have hlen := hlk.trans hlen
                have hsl := hsk.trans hsl
                have h80 := hN80
                have h87 := hN87
                have h88 := hN88
                have h93 := hN93
                change ab_W _ _ _ G381 171 [some (vR 80), some (vz m_at), some (vz v280), some (vz v280)] [] _
                refine ab_vret rfl d_MO_item_171 ?_
                rw [hQ]; exact (Or.inr ⟨_, _, _, _, _, (mm + 11), _, _, _, (fun x => P x ∨ lkS v378 v280 v280 x), rfl, hfr, hlen, hsl, h80, h87, h88, h93, (by omega), (by first | exact hq385 | exact rgs_w hq385 (by omega)), (by exact hq386), (by exact lfc_or jl (lfc_lk1 (by omega) (by omega))), (by exact Or.inr (Or.inr (Or.inl ⟨(fun z => by have z1 := z.1; have z2 := z.2; omega), _, ⟨Or.inl ⟨by omega, by omega, hq284, hq285⟩, by omega⟩, (fun z => by have z1 := z.1; have z2 := z.2.1; have z3 := z.2.2; omega), (by rw [show m_flags % 2 = v378 by omega]; exact lor_)⟩)))⟩)
          · cases hv
            rw [hGe]
            change ab_W _ _ _ G 35 [some (vR 80), some (vz m_at), none, none] [vz (-1)] _
            exfalso; omega
        · refine ab_aload_n d_MO_item_25 rfl ?_
          refine ab_callV (d' := d - 1) (as := []) (st := []) (r := _) (z_MO_posix (o := o) (m_thrown := m_thrown) (m_taped := m_taped) (m_length := m_length) (m_out := m_out) (m_wide := m_wide) (m_gathered := m_gathered) (m_sets := m_sets) (m_ranges := m_ranges) (m_nodes := m_nodes) (m_at := m_at) (m_flags := m_flags) (m_fault := m_fault) (m_place := m_place) (m_numbered := m_numbered) (m_depth := m_depth) (m_value := m_value) (m_isNot := m_isNot) (m_least0 := m_least0) (m_most0 := m_most0) (m_slot := m_slot) (m_work := m_work) (m_got := m_got) (m_rowMany := m_rowMany) (m_charAt := m_charAt) (m_charWide := m_charWide) (m_trail := m_trail) (m_isMatch := m_isMatch) (m_matchGroups := m_matchGroups) (m_allFrom := m_allFrom) (m_allBefore := m_allBefore) (m_founds := m_founds) (m_pieces := m_pieces) (m_writtenMany := m_writtenMany) (m_templateWide := m_templateWide) (m_tooMuch := m_tooMuch) (A_tape := A_tape) (LO := LO) (HI := HI) (MK := MK) (P := P) (mm := mm) h80 h84 h87 h88 h81 h82 (by omega) (by omega) jtp (by omega) (by omega) (by omega) jc jl (by omega)) (fun oc G2 h => by rcases h with ⟨_, _, _, h, _⟩ | ⟨_, _, _, _, _, _, _, h, _⟩ <;> exact ⟨_, h⟩) (by omega) m_MO_posix ml_MO_341 im_MO_posix se_MO_posix c_MO h80.2.2 (Nat.le_of_ble_eq_true rfl) d_MO_item_26 rfl ?_
          intro v G387 hq
          rcases hq with ⟨a2388, f2389, p2390, hv, hfk, hlk, hsk, hN80, hN87, hN88, hq391, hq392, hq393⟩ | ⟨a2394, g2395, LO2396, HI2397, P2398, k2399, b2400, hv, hfk, hlk, hsk, hN80, hN87, hN88, hq401, hq402, hq403, hq404, hq405⟩
          · cases hv
            have h84 := hfk.get h84 (by decide)
            have h93 := hfk.get h93 (by decide)
            have h81 := hfk.get h81 (by decide)
            have h82 := hfk.get h82 (by decide)
            have hfr := hfr.tr hfk (by decide)
            have hlen := hlk.trans hlen
            have hsl := hsk.trans hsl
            have h80 := hN80
            have h87 := hN87
            have h88 := hN88
            change ab_W _ _ _ G387 29 [some (vR 80), some (vz m_at), none, none] [] _
            refine ab_vret rfl d_MO_item_29 ?_
            rw [hQ]; exact (Or.inl ⟨_, _, _, _, _, _, _, _, _, _, rfl, hfr, hlen, hsl, h80, h87, h88, h93, (by omega), (by first | exact jmk | exact rgs_w jmk (by omega)), (by exact fun op => Or.inl ⟨⟨by omega, by omega⟩, hq393, by omega, by omega⟩)⟩)
          · cases hv
            have h84 := hfk.get h84 (by decide)
            have h93 := hfk.get h93 (by decide)
            have h81 := hfk.get h81 (by decide)
            have h82 := hfk.get h82 (by decide)
            have hfr := hfr.tr hfk (by decide)
            have hlen := hlk.trans hlen
            have hsl := hsk.trans hsl
            have h80 := hN80
            have h87 := hN87
            have h88 := hN88
            change ab_W _ _ _ G387 29 [some (vR 80), some (vz m_at), none, none] [] _
            refine ab_vret rfl d_MO_item_29 ?_
            rw [hQ]; exact (Or.inr ⟨_, _, _, _, _, (mm + 10), _, _, _, P2398, rfl, hfr, hlen, hsl, h80, h87, h88, h93, (by omega), (by first | exact jmk | exact rgs_w jmk (by omega)), (by exact hq404), (by exact lfc_w hq405 (by omega)), (by exact Or.inl ⟨⟨by omega, by omega⟩, _, _, hq401, hq402⟩)⟩)
      · cases hv
        rw [hGe]
        change ab_W _ _ _ G 20 [some (vR 80), some (vz m_at), none, none] [vz (-1)] _
        refine zz_bipush d_MO_item_20 (by decide) ?_
        refine zz_icmp_ne (tgt := 30) d_MO_item_22 (by decide) (by decide) (by decide) (fun c406 => ?_) (fun c406 => absurd c406 (by decide))
        refine ab_aload_n d_MO_item_30 rfl ?_
        refine zz_iconst d_MO_item_31 ?_
        refine ab_callV (d' := d - 1) (as := [vz 0]) (st := []) (r := _) (z_MO_here (o := o) (m_thrown := m_thrown) (m_taped := m_taped) (m_length := m_length) (m_out := m_out) (m_wide := m_wide) (m_gathered := m_gathered) (m_sets := m_sets) (m_ranges := m_ranges) (m_nodes := m_nodes) (m_at := m_at) (m_flags := m_flags) (m_fault := m_fault) (m_place := m_place) (m_numbered := m_numbered) (m_depth := m_depth) (m_value := m_value) (m_isNot := m_isNot) (m_least0 := m_least0) (m_most0 := m_most0) (m_slot := m_slot) (m_work := m_work) (m_got := m_got) (m_rowMany := m_rowMany) (m_charAt := m_charAt) (m_charWide := m_charWide) (m_trail := m_trail) (m_isMatch := m_isMatch) (m_matchGroups := m_matchGroups) (m_allFrom := m_allFrom) (m_allBefore := m_allBefore) (m_founds := m_founds) (m_pieces := m_pieces) (m_writtenMany := m_writtenMany) (m_templateWide := m_templateWide) (m_tooMuch := m_tooMuch) (A_tape := A_tape) (k := 0) (qh := m_at) h80 h84 (by omega) (by omega) jtp (by omega) (by omega)) (fun oc G2 h => by rcases h with ⟨h, _⟩ | ⟨h, _⟩ <;> exact ⟨_, h⟩) (by omega) m_MO_here ml_MO_297 im_MO_here se_MO_here c_MO h80.2.2 (Nat.le_of_ble_eq_true rfl) d_MO_item_32 rfl ?_
        intro v G407 hq
        rcases hq with ⟨hv, hGe, hq408⟩ | ⟨hv, hGe, hq409, hq410⟩
        · cases hv
          rw [hGe]
          change ab_W _ _ _ G 35 [some (vR 80), some (vz m_at), none, none] [vz (tpk A_tape m_taped m_at)] _
          refine zz_bipush d_MO_item_35 (by decide) ?_
          refine zz_icmp_ne (tgt := 76) d_MO_item_37 (by decide) (by omega) (by decide) (fun c411 => ?_) (fun c411 => absurd c411 (by omega))
          refine ab_aload_n d_MO_item_76 rfl ?_
          refine ab_callV (d' := d - 1) (as := []) (st := []) (r := _) (z_MO_plain (o := o) (m_thrown := m_thrown) (m_taped := m_taped) (m_length := m_length) (m_out := m_out) (m_wide := m_wide) (m_gathered := m_gathered) (m_sets := m_sets) (m_ranges := m_ranges) (m_nodes := m_nodes) (m_at := m_at) (m_flags := m_flags) (m_fault := m_fault) (m_place := m_place) (m_numbered := m_numbered) (m_depth := m_depth) (m_value := m_value) (m_isNot := m_isNot) (m_least0 := m_least0) (m_most0 := m_most0) (m_slot := m_slot) (m_work := m_work) (m_got := m_got) (m_rowMany := m_rowMany) (m_charAt := m_charAt) (m_charWide := m_charWide) (m_trail := m_trail) (m_isMatch := m_isMatch) (m_matchGroups := m_matchGroups) (m_allFrom := m_allFrom) (m_allBefore := m_allBefore) (m_founds := m_founds) (m_pieces := m_pieces) (m_writtenMany := m_writtenMany) (m_templateWide := m_templateWide) (m_tooMuch := m_tooMuch) (A_tape := A_tape) h80 h84 (by omega) (by omega) jtp (by omega) (by omega) (by omega)) (fun oc G2 h => by rcases h with ⟨_, _, _, h, _⟩ | ⟨_, _, _, h, _⟩ <;> exact ⟨_, h⟩) (by omega) m_MO_plain ml_MO_348 im_MO_plain se_MO_plain c_MO h80.2.2 (Nat.le_of_ble_eq_true rfl) d_MO_item_77 rfl ?_
          intro v G412 hq
          rcases hq with ⟨w2413, f2414, p2415, hv, hfk, hlk, hsk, hN80, hq416, hq417, hq418⟩ | ⟨v419, w2420, a2421, hv, hfk, hlk, hsk, hN80, hq422, hq423, hq424⟩
          · cases hv
            have h84 := hfk.get h84 (by decide)
            have h93 := hfk.get h93 (by decide)
            have h87 := hfk.get h87 (by decide)
            have h88 := hfk.get h88 (by decide)
            have h81 := hfk.get h81 (by decide)
            have h82 := hfk.get h82 (by decide)
            have hfr := hfr.tr hfk (by decide)
            have hlen := hlk.trans hlen
            have hsl := hsk.trans hsl
            have h80 := hN80
            change ab_W _ _ _ G412 80 [some (vR 80), some (vz m_at), none, none] [vz (-1)] _
            refine ab_istore_n d_MO_item_80 (Nat.le_of_ble_eq_true rfl) (Nat.le_of_ble_eq_true rfl) rfl ?_
            change ab_W _ _ _ G412 81 [some (vR 80), some (vz m_at), some (vz (-1)), none] [] _
            refine ab_iload_n d_MO_item_81 rfl ?_
            refine ab_istore_n d_MO_item_82 (Nat.le_of_ble_eq_true rfl) (Nat.le_of_ble_eq_true rfl) rfl ?_
            change ab_W _ _ _ G412 83 [some (vR 80), some (vz m_at), some (vz (-1)), some (vz (-1))] [] _
            refine ab_aload_n d_MO_item_83 rfl ?_
            refine ab_getf (fs := mof m_thrown m_taped m_length m_out w2413 m_gathered m_sets m_ranges m_nodes m_at m_flags f2414 p2415 m_numbered m_depth m_value m_isNot m_least0 m_most0 m_slot m_work m_got m_rowMany m_charAt m_charWide m_trail m_isMatch m_matchGroups m_allFrom m_allBefore m_founds m_pieces m_writtenMany m_templateWide m_tooMuch) f_MO_273 d_MO_item_84 h80.2.2 rfl ?_
            refine zz_if_ne (tgt := 153) d_MO_item_87 (by decide) (by omega) (fun c425 => ?_) (fun c425 => absurd c425 (by omega))
            refine ab_aload_n d_MO_item_153 rfl ?_
            refine ab_getf (fs := mof m_thrown m_taped m_length m_out w2413 m_gathered m_sets m_ranges m_nodes m_at m_flags f2414 p2415 m_numbered m_depth m_value m_isNot m_least0 m_most0 m_slot m_work m_got m_rowMany m_charAt m_charWide m_trail m_isMatch m_matchGroups m_allFrom m_allBefore m_founds m_pieces m_writtenMany m_templateWide m_tooMuch) f_MO_273 d_MO_item_154 h80.2.2 rfl ?_
            refine zz_if_ne (tgt := 171) d_MO_item_157 (by decide) (by omega) (fun c426 => ?_) (fun c426 => absurd c426 (by omega))
            refine ab_vret rfl d_MO_item_171 ?_
            rw [hQ]; exact (Or.inl ⟨_, _, _, _, _, _, _, _, _, _, rfl, hfr, hlen, hsl, h80, h87, h88, h93, (by omega), (by first | exact jmk | exact rgs_w jmk (by omega)), (by exact fun op => Or.inr (Or.inl ⟨(fun z => by have z1 := z.1; have z2 := z.2; omega), Or.inr (Or.inl ⟨by omega, by omega, hq418, by omega, by omega⟩)⟩))⟩)
          · cases hv
            have h84 := hfk.get h84 (by decide)
            have h93 := hfk.get h93 (by decide)
            have h87 := hfk.get h87 (by decide)
            have h88 := hfk.get h88 (by decide)
            have h81 := hfk.get h81 (by decide)
            have h82 := hfk.get h82 (by decide)
            have hfr := hfr.tr hfk (by decide)
            have hlen := hlk.trans hlen
            have hsl := hsk.trans hsl
            have h80 := hN80
            change ab_W _ _ _ G412 80 [some (vR 80), some (vz m_at), none, none] [vz v419] _
            refine ab_istore_n d_MO_item_80 (Nat.le_of_ble_eq_true rfl) (Nat.le_of_ble_eq_true rfl) rfl ?_
            change ab_W _ _ _ G412 81 [some (vR 80), some (vz m_at), some (vz v419), none] [] _
            refine ab_iload_n d_MO_item_81 rfl ?_
            refine ab_istore_n d_MO_item_82 (Nat.le_of_ble_eq_true rfl) (Nat.le_of_ble_eq_true rfl) rfl ?_
            change ab_W _ _ _ G412 83 [some (vR 80), some (vz m_at), some (vz v419), some (vz v419)] [] _
            refine ab_aload_n d_MO_item_83 rfl ?_
            refine ab_getf (fs := mof m_thrown m_taped m_length m_out w2420 m_gathered m_sets m_ranges m_nodes a2421 m_flags m_fault m_place m_numbered m_depth m_value m_isNot m_least0 m_most0 m_slot m_work m_got m_rowMany m_charAt m_charWide m_trail m_isMatch m_matchGroups m_allFrom m_allBefore m_founds m_pieces m_writtenMany m_templateWide m_tooMuch) f_MO_273 d_MO_item_84 h80.2.2 rfl ?_
            refine zz_if_ne (tgt := 153) d_MO_item_87 (by decide) (by omega) (fun c427 => absurd c427 (by omega)) (fun c427 => ?_)
            refine ab_aload_n d_MO_item_90 rfl ?_
            refine zz_iconst d_MO_item_91 ?_
            refine ab_callV (d' := d - 1) (as := [vz 0]) (st := []) (r := _) (z_MO_here (o := o) (m_thrown := m_thrown) (m_taped := m_taped) (m_length := m_length) (m_out := m_out) (m_wide := w2420) (m_gathered := m_gathered) (m_sets := m_sets) (m_ranges := m_ranges) (m_nodes := m_nodes) (m_at := a2421) (m_flags := m_flags) (m_fault := m_fault) (m_place := m_place) (m_numbered := m_numbered) (m_depth := m_depth) (m_value := m_value) (m_isNot := m_isNot) (m_least0 := m_least0) (m_most0 := m_most0) (m_slot := m_slot) (m_work := m_work) (m_got := m_got) (m_rowMany := m_rowMany) (m_charAt := m_charAt) (m_charWide := m_charWide) (m_trail := m_trail) (m_isMatch := m_isMatch) (m_matchGroups := m_matchGroups) (m_allFrom := m_allFrom) (m_allBefore := m_allBefore) (m_founds := m_founds) (m_pieces := m_pieces) (m_writtenMany := m_writtenMany) (m_templateWide := m_templateWide) (m_tooMuch := m_tooMuch) (A_tape := A_tape) (k := 0) (qh := a2421) h80 h84 (by omega) (by omega) jtp (by omega) (by omega)) (fun oc G2 h => by rcases h with ⟨h, _⟩ | ⟨h, _⟩ <;> exact ⟨_, h⟩) (by omega) m_MO_here ml_MO_297 im_MO_here se_MO_here c_MO h80.2.2 (Nat.le_of_ble_eq_true rfl) d_MO_item_92 rfl ?_
            intro v G428 hq
            rcases hq with ⟨hv, hGe, hq429⟩ | ⟨hv, hGe, hq430, hq431⟩
            · cases hv
              rw [hGe]
              change ab_W _ _ _ G412 95 [some (vR 80), some (vz m_at), some (vz v419), some (vz v419)] [vz (tpk A_tape m_taped a2421)] _
              exfalso; omega
            · cases hv
              rw [hGe]
              change ab_W _ _ _ G412 95 [some (vR 80), some (vz m_at), some (vz v419), some (vz v419)] [vz (-1)] _
              refine zz_bipush d_MO_item_95 (by decide) ?_
              refine zz_icmp_ne (tgt := 153) d_MO_item_97 (by decide) (by decide) (by decide) (fun c432 => ?_) (fun c432 => absurd c432 (by decide))
              refine ab_aload_n d_MO_item_153 rfl ?_
              refine ab_getf (fs := mof m_thrown m_taped m_length m_out w2420 m_gathered m_sets m_ranges m_nodes a2421 m_flags m_fault m_place m_numbered m_depth m_value m_isNot m_least0 m_most0 m_slot m_work m_got m_rowMany m_charAt m_charWide m_trail m_isMatch m_matchGroups m_allFrom m_allBefore m_founds m_pieces m_writtenMany m_templateWide m_tooMuch) f_MO_273 d_MO_item_154 h80.2.2 rfl ?_
              refine zz_if_ne (tgt := 171) d_MO_item_157 (by decide) (by omega) (fun c433 => absurd c433 (by omega)) (fun c433 => ?_)
              refine ab_aload_n d_MO_item_160 rfl ?_
              refine ab_iload_n d_MO_item_161 rfl ?_
              refine ab_iload_n d_MO_item_162 rfl ?_
              refine ab_aload_n d_MO_item_163 rfl ?_
              refine zz_iconst d_MO_item_164 ?_
              refine ab_callV (d' := d - 1) (as := [vz 1]) (st := [vz v419, vz v419, vR 80]) (r := _) (z1_MO_has (o := o) (m_thrown := m_thrown) (m_taped := m_taped) (m_length := m_length) (m_out := m_out) (m_wide := w2420) (m_gathered := m_gathered) (m_sets := m_sets) (m_ranges := m_ranges) (m_nodes := m_nodes) (m_at := a2421) (m_flags := m_flags) (m_fault := m_fault) (m_place := m_place) (m_numbered := m_numbered) (m_depth := m_depth) (m_value := m_value) (m_isNot := m_isNot) (m_least0 := m_least0) (m_most0 := m_most0) (m_slot := m_slot) (m_work := m_work) (m_got := m_got) (m_rowMany := m_rowMany) (m_charAt := m_charAt) (m_charWide := m_charWide) (m_trail := m_trail) (m_isMatch := m_isMatch) (m_matchGroups := m_matchGroups) (m_allFrom := m_allFrom) (m_allBefore := m_allBefore) (m_founds := m_founds) (m_pieces := m_pieces) (m_writtenMany := m_writtenMany) (m_templateWide := m_templateWide) (m_tooMuch := m_tooMuch) h80 (by omega)) (fun oc G2 h => by rcases h with ⟨_, h, _⟩ <;> exact ⟨_, h⟩) (by omega) m_MO_has ml_MO_355 im_MO_has se_MO_has c_MO h80.2.2 (Nat.le_of_ble_eq_true rfl) d_MO_item_165 rfl ?_
              intro v G434 hq
              rcases hq with ⟨v435, hv, hGe, hq436, hq437⟩
              cases hv
              rw [hGe]
              change ab_W _ _ _ G412 168 [some (vR 80), some (vz m_at), some (vz v419), some (vz v419)] [vz v435, vz v419, vz v419, vR 80] _
              refine ab_callV (d' := d - 1) (as := [vz v419, vz v419, vz v435]) (st := []) (r := _) (z_MO_gatherLike (o := o) (m_thrown := m_thrown) (m_taped := m_taped) (m_length := m_length) (m_out := m_out) (m_wide := w2420) (m_gathered := m_gathered) (m_sets := m_sets) (m_ranges := m_ranges) (m_nodes := m_nodes) (m_at := a2421) (m_flags := m_flags) (m_fault := m_fault) (m_place := m_place) (m_numbered := m_numbered) (m_depth := m_depth) (m_value := m_value) (m_isNot := m_isNot) (m_least0 := m_least0) (m_most0 := m_most0) (m_slot := m_slot) (m_work := m_work) (m_got := m_got) (m_rowMany := m_rowMany) (m_charAt := m_charAt) (m_charWide := m_charWide) (m_trail := m_trail) (m_isMatch := m_isMatch) (m_matchGroups := m_matchGroups) (m_allFrom := m_allFrom) (m_allBefore := m_allBefore) (m_founds := m_founds) (m_pieces := m_pieces) (m_writtenMany := m_writtenMany) (m_templateWide := m_templateWide) (m_tooMuch := m_tooMuch) (LO := LO) (HI := HI) (MK := MK) (P := P) (a := v419) (b := v419) (lk := v435) h80 h87 h88 h93 (by omega) (by omega) (by omega) (by omega) jmk jc (by omega)) (fun oc G2 h => by rcases h with ⟨_, _, _, h, _⟩ <;> exact ⟨_, h⟩) (by omega) m_MO_gatherLike ml_MO_358 im_MO_gatherLike se_MO_gatherLike c_MO h80.2.2 (Nat.le_of_ble_eq_true rfl) d_MO_item_168 rfl ?_
              intro v G438 hq
              rcases hq with ⟨LO2439, HI2440, MK2441, hv, hfk, hlk, hsk, hN80, hN87, hN88, hN93, hq442, hq443⟩
              cases hv
              have h84 := hfk.get h84 (by decide)
              have h81 := hfk.get h81 (by decide)
              have h82 := hfk.get h82 (by decide)
              have hfr := hfr.tr hfk (by decide)
              have hlen := hlk.trans hlen
              have hsl := hsk.trans hsl
              have h80 := hN80
              have h87 := hN87
              have h88 := hN88
              have h93 := hN93
              change ab_W _ _ _ G438 171 [some (vR 80), some (vz m_at), some (vz v419), some (vz v419)] [] _
              refine ab_vret rfl d_MO_item_171 ?_
              rw [hQ]; exact (Or.inr ⟨_, _, _, _, _, (mm + 11), _, _, _, (fun x => P x ∨ lkS v435 v419 v419 x), rfl, hfr, hlen, hsl, h80, h87, h88, h93, (by omega), (by first | exact hq442 | exact rgs_w hq442 (by omega)), (by exact hq443), (by exact lfc_or jl (lfc_lk1 (by omega) (by omega))), (by exact Or.inr (Or.inr (Or.inl ⟨(fun z => by have z1 := z.1; have z2 := z.2; omega), _, ⟨Or.inl ⟨by omega, by omega, hq423, hq424⟩, by omega⟩, (fun z => by have z1 := z.1; have z2 := z.2.1; have z3 := z.2.2; omega), (by rw [show m_flags % 2 = v435 by omega]; exact lor_)⟩)))⟩)
        · cases hv
          rw [hGe]
          change ab_W _ _ _ G 35 [some (vR 80), some (vz m_at), none, none] [vz (-1)] _
          exfalso; omega
  · cases hv
    rw [hGe]
    change ab_W _ _ _ G 10 [some (vR 80), some (vz m_at), none, none] [vz (-1)] _
    exfalso; omega
