set_option maxRecDepth 100000 in
set_option maxHeartbeats 4000000 in
theorem z_MO_look {X : ab_X} {d : Nat} {o : Nat → Nat} {G : ab_G} {m_thrown : Int} {m_taped : Int} {m_length : Int} {m_out : Int} {m_wide : Int} {m_gathered : Int} {m_sets : Int} {m_ranges : Int} {m_nodes : Int} {m_at : Int} {m_flags : Int} {m_fault : Int} {m_place : Int} {m_numbered : Int} {m_depth : Int} {m_value : Int} {m_isNot : Int} {m_least0 : Int} {m_most0 : Int} {m_slot : Int} {m_work : Int} {m_got : Int} {m_rowMany : Int} {m_charAt : Int} {m_charWide : Int} {m_trail : Int} {m_isMatch : Int} {m_matchGroups : Int} {m_allFrom : Int} {m_allBefore : Int} {m_founds : Int} {m_pieces : Int} {m_writtenMany : Int} {m_templateWide : Int} {m_tooMuch : Int} {A_subject : Int → Int} {p : Int} (h80 : cc o G 80 280 (ab_ob 12 (mof m_thrown m_taped m_length m_out m_wide m_gathered m_sets m_ranges m_nodes m_at m_flags m_fault m_place m_numbered m_depth m_value m_isNot m_least0 m_most0 m_slot m_work m_got m_rowMany m_charAt m_charWide m_trail m_isMatch m_matchGroups m_allFrom m_allBefore m_founds m_pieces m_writtenMany m_templateWide m_tooMuch))) (h85 : cc o G 85 285 (za 2000 A_subject)) (n18 : ab_n0 = 18) (cle : 0 ≤ m_length ∧ m_length ≤ 2000) (jsb : rgs A_subject 2000 0 255) (cp : 0 ≤ p ∧ p ≤ 2000) (hd : 2 ≤ d) : ab_F X d y_MO_look (.code y_MO_look b_MO_look 2 none) [vR 80, vz p] G (fun oc G2 => ∃ c : Int, ∃ w : Int, oc = .returned none ∧ fx o o [280] G G2 ∧ G2.length = G.length ∧ ab_slots G2 = ab_slots G ∧ cc o G2 80 280 (ab_ob 12 (mof m_thrown m_taped m_length m_out w m_gathered m_sets m_ranges m_nodes m_at m_flags m_fault m_place m_numbered m_depth m_value m_isNot m_least0 m_most0 m_slot m_work m_got m_rowMany c w m_trail m_isMatch m_matchGroups m_allFrom m_allBefore m_founds m_pieces m_writtenMany m_templateWide m_tooMuch)) ∧ (mchr A_subject m_length p c w) ∧ (-1 ≤ c ∧ c ≤ 1114111 ∧ 1 ≤ w ∧ w ≤ 4) ∧ (0 ≤ c → p + w ≤ m_length)) := by
  refine ab_F_of (by decide +kernel) (Nat.le_of_ble_eq_true rfl) ?_
  obtain ⟨Q, hQ⟩ : ∃ z : Outcome → ab_G → Prop, z = (fun oc G2 => ∃ c : Int, ∃ w : Int, oc = .returned none ∧ fx o o [280] G G2 ∧ G2.length = G.length ∧ ab_slots G2 = ab_slots G ∧ cc o G2 80 280 (ab_ob 12 (mof m_thrown m_taped m_length m_out w m_gathered m_sets m_ranges m_nodes m_at m_flags m_fault m_place m_numbered m_depth m_value m_isNot m_least0 m_most0 m_slot m_work m_got m_rowMany c w m_trail m_isMatch m_matchGroups m_allFrom m_allBefore m_founds m_pieces m_writtenMany m_templateWide m_tooMuch)) ∧ (mchr A_subject m_length p c w) ∧ (-1 ≤ c ∧ c ≤ 1114111 ∧ 1 ≤ w ∧ w ≤ 4) ∧ (0 ≤ c → p + w ≤ m_length)) := ⟨_, rfl⟩
  rw [← hQ]
  change ab_W X (ab_pl y_MO_look b_MO_look 2 none) d G 0 [some (vR 80), some (vz p)] [] Q
  have hfr : fx o o [280] G G := fx.rf
  have hlen : G.length = G.length := rfl
  have hsl : ab_slots G = ab_slots G := rfl
  refine ab_aload_n d_MO_look_0 rfl ?_
  refine ab_aload_n d_MO_look_1 rfl ?_
  refine ab_aload_n d_MO_look_2 rfl ?_
  refine ab_getf (fs := mof m_thrown m_taped m_length m_out m_wide m_gathered m_sets m_ranges m_nodes m_at m_flags m_fault m_place m_numbered m_depth m_value m_isNot m_least0 m_most0 m_slot m_work m_got m_rowMany m_charAt m_charWide m_trail m_isMatch m_matchGroups m_allFrom m_allBefore m_founds m_pieces m_writtenMany m_templateWide m_tooMuch) f_MO_22 d_MO_look_3 h80.2.2 rfl ?_
  refine ab_aload_n d_MO_look_6 rfl ?_
  refine ab_getf (fs := mof m_thrown m_taped m_length m_out m_wide m_gathered m_sets m_ranges m_nodes m_at m_flags m_fault m_place m_numbered m_depth m_value m_isNot m_least0 m_most0 m_slot m_work m_got m_rowMany m_charAt m_charWide m_trail m_isMatch m_matchGroups m_allFrom m_allBefore m_founds m_pieces m_writtenMany m_templateWide m_tooMuch) f_MO_510 d_MO_look_7 h80.2.2 rfl ?_
  refine ab_iload_n d_MO_look_10 rfl ?_
  refine ab_callV (d' := d - 1) (as := [vR 85, vz m_length, vz p]) (st := [vR 80]) (r := _) (z_MO_character (o := o) (m_thrown := m_thrown) (m_taped := m_taped) (m_length := m_length) (m_out := m_out) (m_wide := m_wide) (m_gathered := m_gathered) (m_sets := m_sets) (m_ranges := m_ranges) (m_nodes := m_nodes) (m_at := m_at) (m_flags := m_flags) (m_fault := m_fault) (m_place := m_place) (m_numbered := m_numbered) (m_depth := m_depth) (m_value := m_value) (m_isNot := m_isNot) (m_least0 := m_least0) (m_most0 := m_most0) (m_slot := m_slot) (m_work := m_work) (m_got := m_got) (m_rowMany := m_rowMany) (m_charAt := m_charAt) (m_charWide := m_charWide) (m_trail := m_trail) (m_isMatch := m_isMatch) (m_matchGroups := m_matchGroups) (m_allFrom := m_allFrom) (m_allBefore := m_allBefore) (m_founds := m_founds) (m_pieces := m_pieces) (m_writtenMany := m_writtenMany) (m_templateWide := m_templateWide) (m_tooMuch := m_tooMuch) (a := 85) (l := 285) (m := 2000) (f := A_subject) (n := m_length) (p := p) h80 h85 (by omega) (by omega) (by omega) jsb (by omega)) (fun oc G2 h => by rcases h with ⟨h, _⟩ | ⟨_, _, h, _⟩ <;> exact ⟨_, h⟩) (by omega) m_MO_character ml_MO_330 im_MO_character se_MO_character c_MO h80.2.2 (Nat.le_of_ble_eq_true rfl) d_MO_look_11 rfl ?_
  intro v G1 hq
  rcases hq with ⟨hv, hfk, hlk, hsk, hN80, hq2⟩ | ⟨v3, w4, hv, hfk, hlk, hsk, hN80, hq5, hq6⟩
  · cases hv
    have h85 := hfk.get h85 (by decide)
    have hfr := hfr.tr hfk (by decide)
    have hlen := hlk.trans hlen
    have hsl := hsk.trans hsl
    have h80 := hN80
    change ab_W _ _ _ G1 14 [some (vR 80), some (vz p)] [vz (-1), vR 80] _
    refine ab_putf (fs := mof m_thrown m_taped m_length m_out 1 m_gathered m_sets m_ranges m_nodes m_at m_flags m_fault m_place m_numbered m_depth m_value m_isNot m_least0 m_most0 m_slot m_work m_got m_rowMany m_charAt m_charWide m_trail m_isMatch m_matchGroups m_allFrom m_allBefore m_founds m_pieces m_writtenMany m_templateWide m_tooMuch) f_MO_513 (Or.inl rfl) d_MO_look_14 h80.2.2 (Nat.le_of_ble_eq_true rfl) (fun _ => ⟨rfl, rfl⟩) (h80.2.1 (by decide)) ?_
    obtain ⟨G7, eG7⟩ : ∃ z : ab_G, z = List.set G1 80 (ab_ob 12 (mof m_thrown m_taped m_length m_out 1 m_gathered m_sets m_ranges m_nodes m_at m_flags m_fault m_place m_numbered m_depth m_value m_isNot m_least0 m_most0 m_slot m_work m_got m_rowMany (-1) m_charWide m_trail m_isMatch m_matchGroups m_allFrom m_allBefore m_founds m_pieces m_writtenMany m_templateWide m_tooMuch)) := ⟨_, rfl⟩
    have h85 := h85.keep h80 eG7 (by decide)
    have hlen := (z_len eG7).trans hlen
    have hsl := (z_sl h80 eG7 rfl).trans hsl
    have hfr := hfr.wr h80 eG7 (by decide)
    have h80 := h80.kept eG7
    change ab_W _ _ _ (List.set G1 80 (ab_ob 12 (mof m_thrown m_taped m_length m_out 1 m_gathered m_sets m_ranges m_nodes m_at m_flags m_fault m_place m_numbered m_depth m_value m_isNot m_least0 m_most0 m_slot m_work m_got m_rowMany (-1) m_charWide m_trail m_isMatch m_matchGroups m_allFrom m_allBefore m_founds m_pieces m_writtenMany m_templateWide m_tooMuch))) 17 [some (vR 80), some (vz p)] [] _
    rw [← eG7]
    refine ab_aload_n d_MO_look_17 rfl ?_
    refine ab_aload_n d_MO_look_18 rfl ?_
    refine ab_getf (fs := mof m_thrown m_taped m_length m_out 1 m_gathered m_sets m_ranges m_nodes m_at m_flags m_fault m_place m_numbered m_depth m_value m_isNot m_least0 m_most0 m_slot m_work m_got m_rowMany (-1) m_charWide m_trail m_isMatch m_matchGroups m_allFrom m_allBefore m_founds m_pieces m_writtenMany m_templateWide m_tooMuch) f_MO_226 d_MO_look_19 h80.2.2 rfl ?_
    refine ab_putf (fs := mof m_thrown m_taped m_length m_out 1 m_gathered m_sets m_ranges m_nodes m_at m_flags m_fault m_place m_numbered m_depth m_value m_isNot m_least0 m_most0 m_slot m_work m_got m_rowMany (-1) m_charWide m_trail m_isMatch m_matchGroups m_allFrom m_allBefore m_founds m_pieces m_writtenMany m_templateWide m_tooMuch) f_MO_516 (Or.inl rfl) d_MO_look_22 h80.2.2 (Nat.le_of_ble_eq_true rfl) (fun _ => ⟨rfl, rfl⟩) (h80.2.1 (by decide)) ?_
    obtain ⟨G8, eG8⟩ : ∃ z : ab_G, z = List.set G7 80 (ab_ob 12 (mof m_thrown m_taped m_length m_out 1 m_gathered m_sets m_ranges m_nodes m_at m_flags m_fault m_place m_numbered m_depth m_value m_isNot m_least0 m_most0 m_slot m_work m_got m_rowMany (-1) 1 m_trail m_isMatch m_matchGroups m_allFrom m_allBefore m_founds m_pieces m_writtenMany m_templateWide m_tooMuch)) := ⟨_, rfl⟩
    have h85 := h85.keep h80 eG8 (by decide)
    have hlen := (z_len eG8).trans hlen
    have hsl := (z_sl h80 eG8 rfl).trans hsl
    have hfr := hfr.wr h80 eG8 (by decide)
    have h80 := h80.kept eG8
    change ab_W _ _ _ (List.set G7 80 (ab_ob 12 (mof m_thrown m_taped m_length m_out 1 m_gathered m_sets m_ranges m_nodes m_at m_flags m_fault m_place m_numbered m_depth m_value m_isNot m_least0 m_most0 m_slot m_work m_got m_rowMany (-1) 1 m_trail m_isMatch m_matchGroups m_allFrom m_allBefore m_founds m_pieces m_writtenMany m_templateWide m_tooMuch))) 25 [some (vR 80), some (vz p)] [] _
    rw [← eG8]
    refine ab_vret rfl d_MO_look_25 ?_
    rw [hQ]; exact ⟨_, _, rfl, hfr, hlen, hsl, h80, (by exact hq2), (by omega), (by intro _; omega)⟩
  · cases hv
    have h85 := hfk.get h85 (by decide)
    have hfr := hfr.tr hfk (by decide)
    have hlen := hlk.trans hlen
    have hsl := hsk.trans hsl
    have h80 := hN80
    change ab_W _ _ _ G1 14 [some (vR 80), some (vz p)] [vz v3, vR 80] _
    refine ab_putf (fs := mof m_thrown m_taped m_length m_out w4 m_gathered m_sets m_ranges m_nodes m_at m_flags m_fault m_place m_numbered m_depth m_value m_isNot m_least0 m_most0 m_slot m_work m_got m_rowMany m_charAt m_charWide m_trail m_isMatch m_matchGroups m_allFrom m_allBefore m_founds m_pieces m_writtenMany m_templateWide m_tooMuch) f_MO_513 (Or.inl rfl) d_MO_look_14 h80.2.2 (Nat.le_of_ble_eq_true rfl) (fun _ => ⟨rfl, rfl⟩) (h80.2.1 (by decide)) ?_
    obtain ⟨G9, eG9⟩ : ∃ z : ab_G, z = List.set G1 80 (ab_ob 12 (mof m_thrown m_taped m_length m_out w4 m_gathered m_sets m_ranges m_nodes m_at m_flags m_fault m_place m_numbered m_depth m_value m_isNot m_least0 m_most0 m_slot m_work m_got m_rowMany v3 m_charWide m_trail m_isMatch m_matchGroups m_allFrom m_allBefore m_founds m_pieces m_writtenMany m_templateWide m_tooMuch)) := ⟨_, rfl⟩
    have h85 := h85.keep h80 eG9 (by decide)
    have hlen := (z_len eG9).trans hlen
    have hsl := (z_sl h80 eG9 rfl).trans hsl
    have hfr := hfr.wr h80 eG9 (by decide)
    have h80 := h80.kept eG9
    change ab_W _ _ _ (List.set G1 80 (ab_ob 12 (mof m_thrown m_taped m_length m_out w4 m_gathered m_sets m_ranges m_nodes m_at m_flags m_fault m_place m_numbered m_depth m_value m_isNot m_least0 m_most0 m_slot m_work m_got m_rowMany v3 m_charWide m_trail m_isMatch m_matchGroups m_allFrom m_allBefore m_founds m_pieces m_writtenMany m_templateWide m_tooMuch))) 17 [some (vR 80), some (vz p)] [] _
    rw [← eG9]
    refine ab_aload_n d_MO_look_17 rfl ?_
    refine ab_aload_n d_MO_look_18 rfl ?_
    refine ab_getf (fs := mof m_thrown m_taped m_length m_out w4 m_gathered m_sets m_ranges m_nodes m_at m_flags m_fault m_place m_numbered m_depth m_value m_isNot m_least0 m_most0 m_slot m_work m_got m_rowMany v3 m_charWide m_trail m_isMatch m_matchGroups m_allFrom m_allBefore m_founds m_pieces m_writtenMany m_templateWide m_tooMuch) f_MO_226 d_MO_look_19 h80.2.2 rfl ?_
    refine ab_putf (fs := mof m_thrown m_taped m_length m_out w4 m_gathered m_sets m_ranges m_nodes m_at m_flags m_fault m_place m_numbered m_depth m_value m_isNot m_least0 m_most0 m_slot m_work m_got m_rowMany v3 m_charWide m_trail m_isMatch m_matchGroups m_allFrom m_allBefore m_founds m_pieces m_writtenMany m_templateWide m_tooMuch) f_MO_516 (Or.inl rfl) d_MO_look_22 h80.2.2 (Nat.le_of_ble_eq_true rfl) (fun _ => ⟨rfl, rfl⟩) (h80.2.1 (by decide)) ?_
    obtain ⟨G10, eG10⟩ : ∃ z : ab_G, z = List.set G9 80 (ab_ob 12 (mof m_thrown m_taped m_length m_out w4 m_gathered m_sets m_ranges m_nodes m_at m_flags m_fault m_place m_numbered m_depth m_value m_isNot m_least0 m_most0 m_slot m_work m_got m_rowMany v3 w4 m_trail m_isMatch m_matchGroups m_allFrom m_allBefore m_founds m_pieces m_writtenMany m_templateWide m_tooMuch)) := ⟨_, rfl⟩
    have h85 := h85.keep h80 eG10 (by decide)
    have hlen := (z_len eG10).trans hlen
    have hsl := (z_sl h80 eG10 rfl).trans hsl
    have hfr := hfr.wr h80 eG10 (by decide)
    have h80 := h80.kept eG10
    change ab_W _ _ _ (List.set G9 80 (ab_ob 12 (mof m_thrown m_taped m_length m_out w4 m_gathered m_sets m_ranges m_nodes m_at m_flags m_fault m_place m_numbered m_depth m_value m_isNot m_least0 m_most0 m_slot m_work m_got m_rowMany v3 w4 m_trail m_isMatch m_matchGroups m_allFrom m_allBefore m_founds m_pieces m_writtenMany m_templateWide m_tooMuch))) 25 [some (vR 80), some (vz p)] [] _
    rw [← eG10]
    refine ab_vret rfl d_MO_look_25 ?_
    rw [hQ]; exact ⟨_, _, rfl, hfr, hlen, hsl, h80, (by exact hq6), (by omega), (by intro _; omega)⟩
set_option maxRecDepth 100000 in
set_option maxHeartbeats 4000000 in
theorem z_MO_wordAt {X : ab_X} {d : Nat} {o : Nat → Nat} {G : ab_G} {m_thrown : Int} {m_taped : Int} {m_length : Int} {m_out : Int} {m_wide : Int} {m_gathered : Int} {m_sets : Int} {m_ranges : Int} {m_nodes : Int} {m_at : Int} {m_flags : Int} {m_fault : Int} {m_place : Int} {m_numbered : Int} {m_depth : Int} {m_value : Int} {m_isNot : Int} {m_least0 : Int} {m_most0 : Int} {m_slot : Int} {m_work : Int} {m_got : Int} {m_rowMany : Int} {m_charAt : Int} {m_charWide : Int} {m_trail : Int} {m_isMatch : Int} {m_matchGroups : Int} {m_allFrom : Int} {m_allBefore : Int} {m_founds : Int} {m_pieces : Int} {m_writtenMany : Int} {m_templateWide : Int} {m_tooMuch : Int} {A_subject : Int → Int} {p : Int} (h80 : cc o G 80 280 (ab_ob 12 (mof m_thrown m_taped m_length m_out m_wide m_gathered m_sets m_ranges m_nodes m_at m_flags m_fault m_place m_numbered m_depth m_value m_isNot m_least0 m_most0 m_slot m_work m_got m_rowMany m_charAt m_charWide m_trail m_isMatch m_matchGroups m_allFrom m_allBefore m_founds m_pieces m_writtenMany m_templateWide m_tooMuch))) (h85 : cc o G 85 285 (za 2000 A_subject)) (cle : 0 ≤ m_length ∧ m_length ≤ 2000) (jsb : rgs A_subject 2000 0 255) (cp : -1 ≤ p ∧ p ≤ 2000) (hd : 1 ≤ d) : ab_F X d y_MO_wordAt (.code y_MO_wordAt b_MO_wordAt 2 (some (.boolean))) [vR 80, vz p] G (fun oc G2 => (oc = .returned (some (vz 1)) ∧ G2 = G ∧ (wat A_subject m_length p)) ∨ (oc = .returned (some (vz 0)) ∧ G2 = G ∧ (¬ wat A_subject m_length p))) := by
  refine ab_F_of (by decide +kernel) (Nat.le_of_ble_eq_true rfl) ?_
  obtain ⟨Q, hQ⟩ : ∃ z : Outcome → ab_G → Prop, z = (fun oc G2 => (oc = .returned (some (vz 1)) ∧ G2 = G ∧ (wat A_subject m_length p)) ∨ (oc = .returned (some (vz 0)) ∧ G2 = G ∧ (¬ wat A_subject m_length p))) := ⟨_, rfl⟩
  rw [← hQ]
  change ab_W X (ab_pl y_MO_wordAt b_MO_wordAt 2 (some (.boolean))) d G 0 [some (vR 80), some (vz p)] [] Q
  have hfr : fx o o [] G G := fx.rf
  have hlen : G.length = G.length := rfl
  have hsl : ab_slots G = ab_slots G := rfl
  refine ab_iload_n d_MO_wordAt_0 rfl ?_
  refine zz_if_lt (tgt := 28) d_MO_wordAt_1 (by decide) (by omega) (fun c1 => ?_) (fun c1 => ?_)
  · refine zz_iconst d_MO_wordAt_28 ?_
    refine zz_bret rfl (by decide) d_MO_wordAt_29 ?_
    rw [hQ]; exact (Or.inr ⟨rfl, rfl, (by exact fun h => by have := h.1; omega)⟩)
  · refine ab_iload_n d_MO_wordAt_4 rfl ?_
    refine ab_aload_n d_MO_wordAt_5 rfl ?_
    refine ab_getf (fs := mof m_thrown m_taped m_length m_out m_wide m_gathered m_sets m_ranges m_nodes m_at m_flags m_fault m_place m_numbered m_depth m_value m_isNot m_least0 m_most0 m_slot m_work m_got m_rowMany m_charAt m_charWide m_trail m_isMatch m_matchGroups m_allFrom m_allBefore m_founds m_pieces m_writtenMany m_templateWide m_tooMuch) f_MO_510 d_MO_wordAt_6 h80.2.2 rfl ?_
    refine zz_icmp_ge (tgt := 28) d_MO_wordAt_9 (by decide) (by omega) (by omega) (fun c2 => ?_) (fun c2 => ?_)
    · refine zz_iconst d_MO_wordAt_28 ?_
      refine zz_bret rfl (by decide) d_MO_wordAt_29 ?_
      rw [hQ]; exact (Or.inr ⟨rfl, rfl, (by exact fun h => by have := h.1; omega)⟩)
    · refine ab_aload_n d_MO_wordAt_12 rfl ?_
      refine ab_getf (fs := mof m_thrown m_taped m_length m_out m_wide m_gathered m_sets m_ranges m_nodes m_at m_flags m_fault m_place m_numbered m_depth m_value m_isNot m_least0 m_most0 m_slot m_work m_got m_rowMany m_charAt m_charWide m_trail m_isMatch m_matchGroups m_allFrom m_allBefore m_founds m_pieces m_writtenMany m_templateWide m_tooMuch) f_MO_22 d_MO_wordAt_13 h80.2.2 rfl ?_
      refine ab_iload_n d_MO_wordAt_16 rfl ?_
      refine zz_iald d_MO_wordAt_17 h85 (by omega) ?_
      have hq3 := jsb p (by omega) (by omega)
      refine ab_callS (d' := d - 1) (as := [vz (A_subject p)]) (st := []) (z_MO_isWord (o := o) (x := (A_subject p)) (by omega)) (fun oc G2 h => by rcases h with ⟨h, _⟩ | ⟨h, _⟩ <;> exact ⟨_, h⟩) (by omega) m_MO_isWord ml_MO_326 st_MO_isWord (Nat.le_of_ble_eq_true rfl) d_MO_wordAt_18 rfl ?_
      intro v G4 hq
      rcases hq with ⟨hv, hGe, hq5⟩ | ⟨hv, hGe, hq6⟩
      · cases hv
        rw [hGe]
        change ab_W _ _ _ G 21 [some (vR 80), some (vz p)] [vz 1] _
        refine zz_if_eq (tgt := 28) d_MO_wordAt_21 (by decide) (by decide) (fun c7 => absurd c7 (by decide)) (fun c7 => ?_)
        refine zz_iconst d_MO_wordAt_24 ?_
        refine ab_goto (tgt := 29) d_MO_wordAt_25 (by decide) ?_
        refine zz_bret rfl (by decide) d_MO_wordAt_29 ?_
        rw [hQ]; exact (Or.inl ⟨rfl, rfl, (by exact ⟨by omega, hq5⟩)⟩)
      · cases hv
        rw [hGe]
        change ab_W _ _ _ G 21 [some (vR 80), some (vz p)] [vz 0] _
        refine zz_if_eq (tgt := 28) d_MO_wordAt_21 (by decide) (by decide) (fun c8 => ?_) (fun c8 => absurd c8 (by decide))
        refine zz_iconst d_MO_wordAt_28 ?_
        refine zz_bret rfl (by decide) d_MO_wordAt_29 ?_
        rw [hQ]; exact (Or.inr ⟨rfl, rfl, (by exact fun h => hq6 h.2)⟩)
set_option maxRecDepth 100000 in
set_option maxHeartbeats 4000000 in
theorem z_MO_holds {X : ab_X} {d : Nat} {o : Nat → Nat} {G : ab_G} {m_thrown : Int} {m_taped : Int} {m_length : Int} {m_out : Int} {m_wide : Int} {m_gathered : Int} {m_sets : Int} {m_ranges : Int} {m_nodes : Int} {m_at : Int} {m_flags : Int} {m_fault : Int} {m_place : Int} {m_numbered : Int} {m_depth : Int} {m_value : Int} {m_isNot : Int} {m_least0 : Int} {m_most0 : Int} {m_slot : Int} {m_work : Int} {m_got : Int} {m_rowMany : Int} {m_charAt : Int} {m_charWide : Int} {m_trail : Int} {m_isMatch : Int} {m_matchGroups : Int} {m_allFrom : Int} {m_allBefore : Int} {m_founds : Int} {m_pieces : Int} {m_writtenMany : Int} {m_templateWide : Int} {m_tooMuch : Int} {A_subject : Int → Int} {p : Int} {a : Int} (h80 : cc o G 80 280 (ab_ob 12 (mof m_thrown m_taped m_length m_out m_wide m_gathered m_sets m_ranges m_nodes m_at m_flags m_fault m_place m_numbered m_depth m_value m_isNot m_least0 m_most0 m_slot m_work m_got m_rowMany m_charAt m_charWide m_trail m_isMatch m_matchGroups m_allFrom m_allBefore m_founds m_pieces m_writtenMany m_templateWide m_tooMuch))) (h85 : cc o G 85 285 (za 2000 A_subject)) (cle : 0 ≤ m_length ∧ m_length ≤ 2000) (jsb : rgs A_subject 2000 0 255) (cp : 0 ≤ p ∧ p ≤ m_length) (ca : 0 ≤ a ∧ a ≤ 5) (hd : 2 ≤ d) : ab_F X d y_MO_holds (.code y_MO_holds b_MO_holds 3 (some (.boolean))) [vR 80, vz a, vz p] G (fun oc G2 => (oc = .returned (some (vz 1)) ∧ G2 = G ∧ (mhld A_subject m_length p a)) ∨ (oc = .returned (some (vz 0)) ∧ G2 = G ∧ (¬ mhld A_subject m_length p a))) := by
  refine ab_F_of (by decide +kernel) (Nat.le_of_ble_eq_true rfl) ?_
  obtain ⟨Q, hQ⟩ : ∃ z : Outcome → ab_G → Prop, z = (fun oc G2 => (oc = .returned (some (vz 1)) ∧ G2 = G ∧ (mhld A_subject m_length p a)) ∨ (oc = .returned (some (vz 0)) ∧ G2 = G ∧ (¬ mhld A_subject m_length p a))) := ⟨_, rfl⟩
  rw [← hQ]
  change ab_W X (ab_pl y_MO_holds b_MO_holds 3 (some (.boolean))) d G 0 [some (vR 80), some (vz a), some (vz p)] [] Q
  have hfr : fx o o [] G G := fx.rf
  have hlen : G.length = G.length := rfl
  have hsl : ab_slots G = ab_slots G := rfl
  rcases (show a = 0 ∨ a = 1 ∨ a = 2 ∨ a = 3 ∨ a = 4 ∨ a = 5 by omega) with ha | ha | ha | ha | ha | ha
  · subst ha
    refine ab_iload_n d_MO_holds_0 rfl ?_
    refine zz_tableIn (off := 35) (tgt := 36) d_MO_holds_1 (by decide) (by decide) (by decide) (by decide) (by decide) ?_
    refine ab_iload_n d_MO_holds_36 rfl ?_
    refine zz_if_ne (tgt := 44) d_MO_holds_37 (by decide) (by omega) (fun c2 => ?_) (fun c2 => ?_)
    · refine zz_iconst d_MO_holds_44 ?_
      refine zz_bret rfl (by decide) d_MO_holds_45 ?_
      rw [hQ]; exact (Or.inr ⟨rfl, rfl, (by exact fun h => absurd (mhld_0.mp h) (by omega))⟩)
    · refine zz_iconst d_MO_holds_40 ?_
      refine ab_goto (tgt := 45) d_MO_holds_41 (by decide) ?_
      refine zz_bret rfl (by decide) d_MO_holds_45 ?_
      rw [hQ]; exact (Or.inl ⟨rfl, rfl, (by exact mhld_0.mpr (by omega))⟩)
  · subst ha
    refine ab_iload_n d_MO_holds_0 rfl ?_
    refine zz_tableIn (off := 45) (tgt := 46) d_MO_holds_1 (by decide) (by decide) (by decide) (by decide) (by decide) ?_
    refine ab_iload_n d_MO_holds_46 rfl ?_
    refine ab_aload_n d_MO_holds_47 rfl ?_
    refine ab_getf (fs := mof m_thrown m_taped m_length m_out m_wide m_gathered m_sets m_ranges m_nodes m_at m_flags m_fault m_place m_numbered m_depth m_value m_isNot m_least0 m_most0 m_slot m_work m_got m_rowMany m_charAt m_charWide m_trail m_isMatch m_matchGroups m_allFrom m_allBefore m_founds m_pieces m_writtenMany m_templateWide m_tooMuch) f_MO_510 d_MO_holds_48 h80.2.2 rfl ?_
    refine zz_icmp_ne (tgt := 58) d_MO_holds_51 (by decide) (by omega) (by omega) (fun c4 => ?_) (fun c4 => ?_)
    · refine zz_iconst d_MO_holds_58 ?_
      refine zz_bret rfl (by decide) d_MO_holds_59 ?_
      rw [hQ]; exact (Or.inr ⟨rfl, rfl, (by exact fun h => absurd (mhld_1.mp h) (by omega))⟩)
    · refine zz_iconst d_MO_holds_54 ?_
      refine ab_goto (tgt := 59) d_MO_holds_55 (by decide) ?_
      refine zz_bret rfl (by decide) d_MO_holds_59 ?_
      rw [hQ]; exact (Or.inl ⟨rfl, rfl, (by exact mhld_1.mpr (by omega))⟩)
  · subst ha
    refine ab_iload_n d_MO_holds_0 rfl ?_
    refine zz_tableIn (off := 59) (tgt := 60) d_MO_holds_1 (by decide) (by decide) (by decide) (by decide) (by decide) ?_
    refine ab_aload_n d_MO_holds_60 rfl ?_
    refine ab_iload_n d_MO_holds_61 rfl ?_
    refine zz_iconst d_MO_holds_62 ?_
    refine zz_isub d_MO_holds_63 ?_
    refine ab_callV (d' := d - 1) (as := [vz (p - 1)]) (st := []) (r := _) (z_MO_wordAt (o := o) (m_thrown := m_thrown) (m_taped := m_taped) (m_length := m_length) (m_out := m_out) (m_wide := m_wide) (m_gathered := m_gathered) (m_sets := m_sets) (m_ranges := m_ranges) (m_nodes := m_nodes) (m_at := m_at) (m_flags := m_flags) (m_fault := m_fault) (m_place := m_place) (m_numbered := m_numbered) (m_depth := m_depth) (m_value := m_value) (m_isNot := m_isNot) (m_least0 := m_least0) (m_most0 := m_most0) (m_slot := m_slot) (m_work := m_work) (m_got := m_got) (m_rowMany := m_rowMany) (m_charAt := m_charAt) (m_charWide := m_charWide) (m_trail := m_trail) (m_isMatch := m_isMatch) (m_matchGroups := m_matchGroups) (m_allFrom := m_allFrom) (m_allBefore := m_allBefore) (m_founds := m_founds) (m_pieces := m_pieces) (m_writtenMany := m_writtenMany) (m_templateWide := m_templateWide) (m_tooMuch := m_tooMuch) (A_subject := A_subject) (p := (p - 1)) h80 h85 (by omega) jsb (by omega) (by omega)) (fun oc G2 h => by rcases h with ⟨h, _⟩ | ⟨h, _⟩ <;> exact ⟨_, h⟩) (by omega) m_MO_wordAt ml_MO_519 im_MO_wordAt se_MO_wordAt c_MO h80.2.2 (Nat.le_of_ble_eq_true rfl) d_MO_holds_64 rfl ?_
    intro v G6 hq
    rcases hq with ⟨hv, hGe, hq7⟩ | ⟨hv, hGe, hq8⟩
    · cases hv
      rw [hGe]
      change ab_W _ _ _ G 67 [some (vR 80), some (vz 2), some (vz p)] [vz 1] _
      refine ab_aload_n d_MO_holds_67 rfl ?_
      refine ab_iload_n d_MO_holds_68 rfl ?_
      refine ab_callV (d' := d - 1) (as := [vz p]) (st := [vz 1]) (r := _) (z_MO_wordAt (o := o) (m_thrown := m_thrown) (m_taped := m_taped) (m_length := m_length) (m_out := m_out) (m_wide := m_wide) (m_gathered := m_gathered) (m_sets := m_sets) (m_ranges := m_ranges) (m_nodes := m_nodes) (m_at := m_at) (m_flags := m_flags) (m_fault := m_fault) (m_place := m_place) (m_numbered := m_numbered) (m_depth := m_depth) (m_value := m_value) (m_isNot := m_isNot) (m_least0 := m_least0) (m_most0 := m_most0) (m_slot := m_slot) (m_work := m_work) (m_got := m_got) (m_rowMany := m_rowMany) (m_charAt := m_charAt) (m_charWide := m_charWide) (m_trail := m_trail) (m_isMatch := m_isMatch) (m_matchGroups := m_matchGroups) (m_allFrom := m_allFrom) (m_allBefore := m_allBefore) (m_founds := m_founds) (m_pieces := m_pieces) (m_writtenMany := m_writtenMany) (m_templateWide := m_templateWide) (m_tooMuch := m_tooMuch) (A_subject := A_subject) (p := p) h80 h85 (by omega) jsb (by omega) (by omega)) (fun oc G2 h => by rcases h with ⟨h, _⟩ | ⟨h, _⟩ <;> exact ⟨_, h⟩) (by omega) m_MO_wordAt ml_MO_519 im_MO_wordAt se_MO_wordAt c_MO h80.2.2 (Nat.le_of_ble_eq_true rfl) d_MO_holds_69 rfl ?_
      intro v G9 hq
      rcases hq with ⟨hv, hGe, hq10⟩ | ⟨hv, hGe, hq11⟩
      · cases hv
        rw [hGe]
        change ab_W _ _ _ G 72 [some (vR 80), some (vz 2), some (vz p)] [vz 1, vz 1] _
        refine zz_icmp_eq (tgt := 79) d_MO_holds_72 (by decide) (by decide) (by decide) (fun c12 => ?_) (fun c12 => absurd c12 (by decide))
        refine zz_iconst d_MO_holds_79 ?_
        refine zz_bret rfl (by decide) d_MO_holds_80 ?_
        rw [hQ]; exact (Or.inr ⟨rfl, rfl, (by exact fun h => mhld_2.mp h (⟨fun _ => hq10, fun _ => hq7⟩ : wat A_subject m_length (p - 1) ↔ wat A_subject m_length p))⟩)
      · cases hv
        rw [hGe]
        change ab_W _ _ _ G 72 [some (vR 80), some (vz 2), some (vz p)] [vz 0, vz 1] _
        refine zz_icmp_eq (tgt := 79) d_MO_holds_72 (by decide) (by decide) (by decide) (fun c13 => absurd c13 (by decide)) (fun c13 => ?_)
        refine zz_iconst d_MO_holds_75 ?_
        refine ab_goto (tgt := 80) d_MO_holds_76 (by decide) ?_
        refine zz_bret rfl (by decide) d_MO_holds_80 ?_
        rw [hQ]; exact (Or.inl ⟨rfl, rfl, (by exact mhld_2.mpr (fun q => hq11 (q.mp hq7) : ¬ (wat A_subject m_length (p - 1) ↔ wat A_subject m_length p)))⟩)
    · cases hv
      rw [hGe]
      change ab_W _ _ _ G 67 [some (vR 80), some (vz 2), some (vz p)] [vz 0] _
      refine ab_aload_n d_MO_holds_67 rfl ?_
      refine ab_iload_n d_MO_holds_68 rfl ?_
      refine ab_callV (d' := d - 1) (as := [vz p]) (st := [vz 0]) (r := _) (z_MO_wordAt (o := o) (m_thrown := m_thrown) (m_taped := m_taped) (m_length := m_length) (m_out := m_out) (m_wide := m_wide) (m_gathered := m_gathered) (m_sets := m_sets) (m_ranges := m_ranges) (m_nodes := m_nodes) (m_at := m_at) (m_flags := m_flags) (m_fault := m_fault) (m_place := m_place) (m_numbered := m_numbered) (m_depth := m_depth) (m_value := m_value) (m_isNot := m_isNot) (m_least0 := m_least0) (m_most0 := m_most0) (m_slot := m_slot) (m_work := m_work) (m_got := m_got) (m_rowMany := m_rowMany) (m_charAt := m_charAt) (m_charWide := m_charWide) (m_trail := m_trail) (m_isMatch := m_isMatch) (m_matchGroups := m_matchGroups) (m_allFrom := m_allFrom) (m_allBefore := m_allBefore) (m_founds := m_founds) (m_pieces := m_pieces) (m_writtenMany := m_writtenMany) (m_templateWide := m_templateWide) (m_tooMuch := m_tooMuch) (A_subject := A_subject) (p := p) h80 h85 (by omega) jsb (by omega) (by omega)) (fun oc G2 h => by rcases h with ⟨h, _⟩ | ⟨h, _⟩ <;> exact ⟨_, h⟩) (by omega) m_MO_wordAt ml_MO_519 im_MO_wordAt se_MO_wordAt c_MO h80.2.2 (Nat.le_of_ble_eq_true rfl) d_MO_holds_69 rfl ?_
      intro v G14 hq
      rcases hq with ⟨hv, hGe, hq15⟩ | ⟨hv, hGe, hq16⟩
      · cases hv
        rw [hGe]
        change ab_W _ _ _ G 72 [some (vR 80), some (vz 2), some (vz p)] [vz 1, vz 0] _
        refine zz_icmp_eq (tgt := 79) d_MO_holds_72 (by decide) (by decide) (by decide) (fun c17 => absurd c17 (by decide)) (fun c17 => ?_)
        refine zz_iconst d_MO_holds_75 ?_
        refine ab_goto (tgt := 80) d_MO_holds_76 (by decide) ?_
        refine zz_bret rfl (by decide) d_MO_holds_80 ?_
        rw [hQ]; exact (Or.inl ⟨rfl, rfl, (by exact mhld_2.mpr (fun q => hq8 (q.mpr hq15) : ¬ (wat A_subject m_length (p - 1) ↔ wat A_subject m_length p)))⟩)
      · cases hv
        rw [hGe]
        change ab_W _ _ _ G 72 [some (vR 80), some (vz 2), some (vz p)] [vz 0, vz 0] _
        refine zz_icmp_eq (tgt := 79) d_MO_holds_72 (by decide) (by decide) (by decide) (fun c18 => ?_) (fun c18 => absurd c18 (by decide))
        refine zz_iconst d_MO_holds_79 ?_
        refine zz_bret rfl (by decide) d_MO_holds_80 ?_
        rw [hQ]; exact (Or.inr ⟨rfl, rfl, (by exact fun h => mhld_2.mp h (⟨fun h => absurd h hq8, fun h => absurd h hq16⟩ : wat A_subject m_length (p - 1) ↔ wat A_subject m_length p))⟩)
  · subst ha
    refine ab_iload_n d_MO_holds_0 rfl ?_
    refine zz_tableIn (off := 80) (tgt := 81) d_MO_holds_1 (by decide) (by decide) (by decide) (by decide) (by decide) ?_
    refine ab_aload_n d_MO_holds_81 rfl ?_
    refine ab_iload_n d_MO_holds_82 rfl ?_
    refine zz_iconst d_MO_holds_83 ?_
    refine zz_isub d_MO_holds_84 ?_
    refine ab_callV (d' := d - 1) (as := [vz (p - 1)]) (st := []) (r := _) (z_MO_wordAt (o := o) (m_thrown := m_thrown) (m_taped := m_taped) (m_length := m_length) (m_out := m_out) (m_wide := m_wide) (m_gathered := m_gathered) (m_sets := m_sets) (m_ranges := m_ranges) (m_nodes := m_nodes) (m_at := m_at) (m_flags := m_flags) (m_fault := m_fault) (m_place := m_place) (m_numbered := m_numbered) (m_depth := m_depth) (m_value := m_value) (m_isNot := m_isNot) (m_least0 := m_least0) (m_most0 := m_most0) (m_slot := m_slot) (m_work := m_work) (m_got := m_got) (m_rowMany := m_rowMany) (m_charAt := m_charAt) (m_charWide := m_charWide) (m_trail := m_trail) (m_isMatch := m_isMatch) (m_matchGroups := m_matchGroups) (m_allFrom := m_allFrom) (m_allBefore := m_allBefore) (m_founds := m_founds) (m_pieces := m_pieces) (m_writtenMany := m_writtenMany) (m_templateWide := m_templateWide) (m_tooMuch := m_tooMuch) (A_subject := A_subject) (p := (p - 1)) h80 h85 (by omega) jsb (by omega) (by omega)) (fun oc G2 h => by rcases h with ⟨h, _⟩ | ⟨h, _⟩ <;> exact ⟨_, h⟩) (by omega) m_MO_wordAt ml_MO_519 im_MO_wordAt se_MO_wordAt c_MO h80.2.2 (Nat.le_of_ble_eq_true rfl) d_MO_holds_85 rfl ?_
    intro v G20 hq
    rcases hq with ⟨hv, hGe, hq21⟩ | ⟨hv, hGe, hq22⟩
    · cases hv
      rw [hGe]
      change ab_W _ _ _ G 88 [some (vR 80), some (vz 3), some (vz p)] [vz 1] _
      refine ab_aload_n d_MO_holds_88 rfl ?_
      refine ab_iload_n d_MO_holds_89 rfl ?_
      refine ab_callV (d' := d - 1) (as := [vz p]) (st := [vz 1]) (r := _) (z_MO_wordAt (o := o) (m_thrown := m_thrown) (m_taped := m_taped) (m_length := m_length) (m_out := m_out) (m_wide := m_wide) (m_gathered := m_gathered) (m_sets := m_sets) (m_ranges := m_ranges) (m_nodes := m_nodes) (m_at := m_at) (m_flags := m_flags) (m_fault := m_fault) (m_place := m_place) (m_numbered := m_numbered) (m_depth := m_depth) (m_value := m_value) (m_isNot := m_isNot) (m_least0 := m_least0) (m_most0 := m_most0) (m_slot := m_slot) (m_work := m_work) (m_got := m_got) (m_rowMany := m_rowMany) (m_charAt := m_charAt) (m_charWide := m_charWide) (m_trail := m_trail) (m_isMatch := m_isMatch) (m_matchGroups := m_matchGroups) (m_allFrom := m_allFrom) (m_allBefore := m_allBefore) (m_founds := m_founds) (m_pieces := m_pieces) (m_writtenMany := m_writtenMany) (m_templateWide := m_templateWide) (m_tooMuch := m_tooMuch) (A_subject := A_subject) (p := p) h80 h85 (by omega) jsb (by omega) (by omega)) (fun oc G2 h => by rcases h with ⟨h, _⟩ | ⟨h, _⟩ <;> exact ⟨_, h⟩) (by omega) m_MO_wordAt ml_MO_519 im_MO_wordAt se_MO_wordAt c_MO h80.2.2 (Nat.le_of_ble_eq_true rfl) d_MO_holds_90 rfl ?_
      intro v G23 hq
      rcases hq with ⟨hv, hGe, hq24⟩ | ⟨hv, hGe, hq25⟩
      · cases hv
        rw [hGe]
        change ab_W _ _ _ G 93 [some (vR 80), some (vz 3), some (vz p)] [vz 1, vz 1] _
        refine zz_icmp_ne (tgt := 100) d_MO_holds_93 (by decide) (by decide) (by decide) (fun c26 => absurd c26 (by decide)) (fun c26 => ?_)
        refine zz_iconst d_MO_holds_96 ?_
        refine ab_goto (tgt := 101) d_MO_holds_97 (by decide) ?_
        refine zz_bret rfl (by decide) d_MO_holds_101 ?_
        rw [hQ]; exact (Or.inl ⟨rfl, rfl, (by exact mhld_3.mpr (⟨fun _ => hq24, fun _ => hq21⟩ : wat A_subject m_length (p - 1) ↔ wat A_subject m_length p))⟩)
      · cases hv
        rw [hGe]
        change ab_W _ _ _ G 93 [some (vR 80), some (vz 3), some (vz p)] [vz 0, vz 1] _
        refine zz_icmp_ne (tgt := 100) d_MO_holds_93 (by decide) (by decide) (by decide) (fun c27 => ?_) (fun c27 => absurd c27 (by decide))
        refine zz_iconst d_MO_holds_100 ?_
        refine zz_bret rfl (by decide) d_MO_holds_101 ?_
        rw [hQ]; exact (Or.inr ⟨rfl, rfl, (by exact fun h => (fun q => hq25 (q.mp hq21) : ¬ (wat A_subject m_length (p - 1) ↔ wat A_subject m_length p)) (mhld_3.mp h))⟩)
    · cases hv
      rw [hGe]
      change ab_W _ _ _ G 88 [some (vR 80), some (vz 3), some (vz p)] [vz 0] _
      refine ab_aload_n d_MO_holds_88 rfl ?_
      refine ab_iload_n d_MO_holds_89 rfl ?_
      refine ab_callV (d' := d - 1) (as := [vz p]) (st := [vz 0]) (r := _) (z_MO_wordAt (o := o) (m_thrown := m_thrown) (m_taped := m_taped) (m_length := m_length) (m_out := m_out) (m_wide := m_wide) (m_gathered := m_gathered) (m_sets := m_sets) (m_ranges := m_ranges) (m_nodes := m_nodes) (m_at := m_at) (m_flags := m_flags) (m_fault := m_fault) (m_place := m_place) (m_numbered := m_numbered) (m_depth := m_depth) (m_value := m_value) (m_isNot := m_isNot) (m_least0 := m_least0) (m_most0 := m_most0) (m_slot := m_slot) (m_work := m_work) (m_got := m_got) (m_rowMany := m_rowMany) (m_charAt := m_charAt) (m_charWide := m_charWide) (m_trail := m_trail) (m_isMatch := m_isMatch) (m_matchGroups := m_matchGroups) (m_allFrom := m_allFrom) (m_allBefore := m_allBefore) (m_founds := m_founds) (m_pieces := m_pieces) (m_writtenMany := m_writtenMany) (m_templateWide := m_templateWide) (m_tooMuch := m_tooMuch) (A_subject := A_subject) (p := p) h80 h85 (by omega) jsb (by omega) (by omega)) (fun oc G2 h => by rcases h with ⟨h, _⟩ | ⟨h, _⟩ <;> exact ⟨_, h⟩) (by omega) m_MO_wordAt ml_MO_519 im_MO_wordAt se_MO_wordAt c_MO h80.2.2 (Nat.le_of_ble_eq_true rfl) d_MO_holds_90 rfl ?_
      intro v G28 hq
      rcases hq with ⟨hv, hGe, hq29⟩ | ⟨hv, hGe, hq30⟩
      · cases hv
        rw [hGe]
        change ab_W _ _ _ G 93 [some (vR 80), some (vz 3), some (vz p)] [vz 1, vz 0] _
        refine zz_icmp_ne (tgt := 100) d_MO_holds_93 (by decide) (by decide) (by decide) (fun c31 => ?_) (fun c31 => absurd c31 (by decide))
        refine zz_iconst d_MO_holds_100 ?_
        refine zz_bret rfl (by decide) d_MO_holds_101 ?_
        rw [hQ]; exact (Or.inr ⟨rfl, rfl, (by exact fun h => (fun q => hq22 (q.mpr hq29) : ¬ (wat A_subject m_length (p - 1) ↔ wat A_subject m_length p)) (mhld_3.mp h))⟩)
      · cases hv
        rw [hGe]
        change ab_W _ _ _ G 93 [some (vR 80), some (vz 3), some (vz p)] [vz 0, vz 0] _
        refine zz_icmp_ne (tgt := 100) d_MO_holds_93 (by decide) (by decide) (by decide) (fun c32 => absurd c32 (by decide)) (fun c32 => ?_)
        refine zz_iconst d_MO_holds_96 ?_
        refine ab_goto (tgt := 101) d_MO_holds_97 (by decide) ?_
        refine zz_bret rfl (by decide) d_MO_holds_101 ?_
        rw [hQ]; exact (Or.inl ⟨rfl, rfl, (by exact mhld_3.mpr (⟨fun h => absurd h hq22, fun h => absurd h hq30⟩ : wat A_subject m_length (p - 1) ↔ wat A_subject m_length p))⟩)
  · subst ha
    refine ab_iload_n d_MO_holds_0 rfl ?_
    refine zz_tableIn (off := 101) (tgt := 102) d_MO_holds_1 (by decide) (by decide) (by decide) (by decide) (by decide) ?_
    refine ab_iload_n d_MO_holds_102 rfl ?_
    refine zz_if_eq (tgt := 119) d_MO_holds_103 (by decide) (by omega) (fun c34 => ?_) (fun c34 => ?_)
    · refine zz_iconst d_MO_holds_119 ?_
      refine ab_goto (tgt := 124) d_MO_holds_120 (by decide) ?_
      refine zz_bret rfl (by decide) d_MO_holds_124 ?_
      rw [hQ]; exact (Or.inl ⟨rfl, rfl, (by exact mhld_4.mpr (by omega))⟩)
    · refine ab_aload_n d_MO_holds_106 rfl ?_
      refine ab_getf (fs := mof m_thrown m_taped m_length m_out m_wide m_gathered m_sets m_ranges m_nodes m_at m_flags m_fault m_place m_numbered m_depth m_value m_isNot m_least0 m_most0 m_slot m_work m_got m_rowMany m_charAt m_charWide m_trail m_isMatch m_matchGroups m_allFrom m_allBefore m_founds m_pieces m_writtenMany m_templateWide m_tooMuch) f_MO_22 d_MO_holds_107 h80.2.2 rfl ?_
      refine ab_iload_n d_MO_holds_110 rfl ?_
      refine zz_iconst d_MO_holds_111 ?_
      refine zz_isub d_MO_holds_112 ?_
      refine zz_iald d_MO_holds_113 h85 (by omega) ?_
      have hq35 := jsb (p - 1) (by omega) (by omega)
      refine zz_bipush d_MO_holds_114 (by decide) ?_
      refine zz_icmp_ne (tgt := 123) d_MO_holds_116 (by decide) (by omega) (by decide) (fun c36 => ?_) (fun c36 => ?_)
      · refine zz_iconst d_MO_holds_123 ?_
        refine zz_bret rfl (by decide) d_MO_holds_124 ?_
        rw [hQ]; exact (Or.inr ⟨rfl, rfl, (by exact fun h => absurd (mhld_4.mp h) (by omega))⟩)
      · refine zz_iconst d_MO_holds_119 ?_
        refine ab_goto (tgt := 124) d_MO_holds_120 (by decide) ?_
        refine zz_bret rfl (by decide) d_MO_holds_124 ?_
        rw [hQ]; exact (Or.inl ⟨rfl, rfl, (by exact mhld_4.mpr (by omega))⟩)
  · subst ha
    refine ab_iload_n d_MO_holds_0 rfl ?_
    refine zz_tableOut (tgt := 125) d_MO_holds_1 (by decide) (by decide) (by decide) ?_
    refine ab_iload_n d_MO_holds_125 rfl ?_
    refine ab_aload_n d_MO_holds_126 rfl ?_
    refine ab_getf (fs := mof m_thrown m_taped m_length m_out m_wide m_gathered m_sets m_ranges m_nodes m_at m_flags m_fault m_place m_numbered m_depth m_value m_isNot m_least0 m_most0 m_slot m_work m_got m_rowMany m_charAt m_charWide m_trail m_isMatch m_matchGroups m_allFrom m_allBefore m_founds m_pieces m_writtenMany m_templateWide m_tooMuch) f_MO_510 d_MO_holds_127 h80.2.2 rfl ?_
    refine zz_icmp_eq (tgt := 144) d_MO_holds_130 (by decide) (by omega) (by omega) (fun c38 => ?_) (fun c38 => ?_)
    · refine zz_iconst d_MO_holds_144 ?_
      refine ab_goto (tgt := 149) d_MO_holds_145 (by decide) ?_
      refine zz_bret rfl (by decide) d_MO_holds_149 ?_
      rw [hQ]; exact (Or.inl ⟨rfl, rfl, (by exact mhld_5.mpr (by omega))⟩)
    · refine ab_aload_n d_MO_holds_133 rfl ?_
      refine ab_getf (fs := mof m_thrown m_taped m_length m_out m_wide m_gathered m_sets m_ranges m_nodes m_at m_flags m_fault m_place m_numbered m_depth m_value m_isNot m_least0 m_most0 m_slot m_work m_got m_rowMany m_charAt m_charWide m_trail m_isMatch m_matchGroups m_allFrom m_allBefore m_founds m_pieces m_writtenMany m_templateWide m_tooMuch) f_MO_22 d_MO_holds_134 h80.2.2 rfl ?_
      refine ab_iload_n d_MO_holds_137 rfl ?_
      refine zz_iald d_MO_holds_138 h85 (by omega) ?_
      have hq39 := jsb p (by omega) (by omega)
      refine zz_bipush d_MO_holds_139 (by decide) ?_
      refine zz_icmp_ne (tgt := 148) d_MO_holds_141 (by decide) (by omega) (by decide) (fun c40 => ?_) (fun c40 => ?_)
      · refine zz_iconst d_MO_holds_148 ?_
        refine zz_bret rfl (by decide) d_MO_holds_149 ?_
        rw [hQ]; exact (Or.inr ⟨rfl, rfl, (by exact fun h => absurd (mhld_5.mp h) (by omega))⟩)
      · refine zz_iconst d_MO_holds_144 ?_
        refine ab_goto (tgt := 149) d_MO_holds_145 (by decide) ?_
        refine zz_bret rfl (by decide) d_MO_holds_149 ?_
        rw [hQ]; exact (Or.inl ⟨rfl, rfl, (by exact mhld_5.mpr (by omega))⟩)
set_option maxRecDepth 100000 in
set_option maxHeartbeats 4000000 in
theorem y_MO_taken_53 {X : ab_X} {d : Nat} {Q : Outcome → ab_G → Prop} {o : Nat → Nat} {G0 : ab_G} {m_thrown : Int} {m_taped : Int} {m_length : Int} {m_out : Int} {m_wide : Int} {m_gathered : Int} {m_sets : Int} {m_ranges : Int} {m_nodes : Int} {m_at : Int} {m_flags : Int} {m_fault : Int} {m_place : Int} {m_numbered : Int} {m_depth : Int} {m_value : Int} {m_isNot : Int} {m_least0 : Int} {m_most0 : Int} {m_slot : Int} {m_work : Int} {m_got : Int} {m_rowMany : Int} {m_charAt : Int} {m_charWide : Int} {m_trail : Int} {m_isMatch : Int} {m_matchGroups : Int} {m_allFrom : Int} {m_allBefore : Int} {m_founds : Int} {m_pieces : Int} {m_writtenMany : Int} {m_templateWide : Int} {m_tooMuch : Int} {A_step : Int → Int} {A_classAt : Int → Int} {A_classMany : Int → Int} {A_classLow : Int → Int} {A_classHigh : Int → Int} {k : Int} {p : Int} (ck : 0 ≤ k ∧ k < 75000 ∧ 0 ≤ p ∧ p ≤ 2000) (jcl : rgs A_classLow 3600 0 1114111) (jch : rgs A_classHigh 3600 0 1114111) (cch : -1 ≤ m_charAt ∧ m_charAt ≤ 1114111 ∧ 1 ≤ m_charWide ∧ m_charWide ≤ 4) (cab : 0 ≤ A_classAt k ∧ 0 ≤ A_classMany k ∧ A_classAt k + A_classMany k ≤ 3600) (hd : 1 ≤ d) : ∀ (mz : Nat) {G : ab_G} {inn : Int} {j : Int}, (cc o G 80 280 (ab_ob 12 (mof m_thrown m_taped m_length m_out m_wide m_gathered m_sets m_ranges m_nodes m_at m_flags m_fault m_place m_numbered m_depth m_value m_isNot m_least0 m_most0 m_slot m_work m_got m_rowMany m_charAt m_charWide m_trail m_isMatch m_matchGroups m_allFrom m_allBefore m_founds m_pieces m_writtenMany m_templateWide m_tooMuch))) → (cc o G 118 318 (za 75000 A_step)) → (cc o G 121 321 (za 75000 A_classAt)) → (cc o G 122 322 (za 75000 A_classMany)) → (cc o G 123 323 (za 3600 A_classLow)) → (cc o G 124 324 (za 3600 A_classHigh)) → (A_classAt k ≤ j ∧ j ≤ A_classAt k + A_classMany k ∧ 0 ≤ inn ∧ inn ≤ 1) → (inn = 1 → tkIn A_classLow A_classHigh m_charAt (A_classAt k) (A_classMany k)) → (inn = 0 → tkno A_classLow A_classHigh m_charAt (A_classAt k) j) → (fx o o [] G0 G) → (G.length = G0.length) → (ab_slots G = ab_slots G0) → (Int.toNat (A_classAt k + A_classMany k - j) < mz) → (∀ (G2 : ab_G) (i2 : Int), (0 ≤ i2 ∧ i2 ≤ 1) → (i2 = 1 → tkIn A_classLow A_classHigh m_charAt (A_classAt k) (A_classMany k)) → (i2 = 0 → ¬ tkIn A_classLow A_classHigh m_charAt (A_classAt k) (A_classMany k)) → (fx o o [] G0 G2) → (G2.length = G0.length) → (ab_slots G2 = ab_slots G0) → ab_W X (ab_pl y_MO_taken b_MO_taken 5 (some (.int))) d G2 115 [some (vR 80), none, none, some (vz i2), none] [] Q) → ab_W X (ab_pl y_MO_taken b_MO_taken 5 (some (.int))) d G 53 [some (vR 80), some (vz k), none, some (vz inn), some (vz j)] [] Q := by
  intro mz
  induction mz with
  | zero => intro G inn j h80 h118 h121 h122 h123 h124 ci jin jno hfr hlen hsl hm hk0; exact absurd hm (Nat.not_lt_zero _)
  | succ mz ih =>
    intro G inn j h80 h118 h121 h122 h123 h124 ci jin jno hfr hlen hsl hm hk0
    refine ab_iload d_MO_taken_53 rfl ?_
    refine ab_aload_n d_MO_taken_55 rfl ?_
    refine ab_getf (fs := mof m_thrown m_taped m_length m_out m_wide m_gathered m_sets m_ranges m_nodes m_at m_flags m_fault m_place m_numbered m_depth m_value m_isNot m_least0 m_most0 m_slot m_work m_got m_rowMany m_charAt m_charWide m_trail m_isMatch m_matchGroups m_allFrom m_allBefore m_founds m_pieces m_writtenMany m_templateWide m_tooMuch) f_MO_137 d_MO_taken_56 h80.2.2 rfl ?_
    refine ab_iload_n d_MO_taken_59 rfl ?_
    refine zz_iald d_MO_taken_60 h121 (by omega) ?_
    refine ab_aload_n d_MO_taken_61 rfl ?_
    refine ab_getf (fs := mof m_thrown m_taped m_length m_out m_wide m_gathered m_sets m_ranges m_nodes m_at m_flags m_fault m_place m_numbered m_depth m_value m_isNot m_least0 m_most0 m_slot m_work m_got m_rowMany m_charAt m_charWide m_trail m_isMatch m_matchGroups m_allFrom m_allBefore m_founds m_pieces m_writtenMany m_templateWide m_tooMuch) f_MO_140 d_MO_taken_62 h80.2.2 rfl ?_
    refine ab_iload_n d_MO_taken_65 rfl ?_
    refine zz_iald d_MO_taken_66 h122 (by omega) ?_
    refine zz_iadd d_MO_taken_67 ?_
    refine zz_icmp_ge (tgt := 115) d_MO_taken_68 (by decide) (by omega) (by omega) (fun c1 => ?_) (fun c1 => ?_)
    · refine ab_less (L' := [some (vR 80), none, none, some (vz inn), none]) (fun i v h => by rcases i with _ | _ | _ | _ | _ | i <;> first | exact h | (simp at h)) ?_
      exact hk0 _ _ (by omega) (by exact jin) (by exact fun h q => by obtain ⟨i, a1, a2, a3, a4⟩ := q; exact jno h i a1 (by omega) ⟨a3, a4⟩) hfr hlen hsl
    · refine ab_iload_n d_MO_taken_71 rfl ?_
      refine zz_if_ne (tgt := 115) d_MO_taken_72 (by decide) (by omega) (fun c2 => ?_) (fun c2 => ?_)
      · refine ab_less (L' := [some (vR 80), none, none, some (vz inn), none]) (fun i v h => by rcases i with _ | _ | _ | _ | _ | i <;> first | exact h | (simp at h)) ?_
        exact hk0 _ _ (by omega) (by exact jin) (by exact fun h q => by obtain ⟨i, a1, a2, a3, a4⟩ := q; exact jno h i a1 (by omega) ⟨a3, a4⟩) hfr hlen hsl
      · refine ab_aload_n d_MO_taken_75 rfl ?_
        refine ab_getf (fs := mof m_thrown m_taped m_length m_out m_wide m_gathered m_sets m_ranges m_nodes m_at m_flags m_fault m_place m_numbered m_depth m_value m_isNot m_least0 m_most0 m_slot m_work m_got m_rowMany m_charAt m_charWide m_trail m_isMatch m_matchGroups m_allFrom m_allBefore m_founds m_pieces m_writtenMany m_templateWide m_tooMuch) f_MO_513 d_MO_taken_76 h80.2.2 rfl ?_
        refine ab_aload_n d_MO_taken_79 rfl ?_
        refine ab_getf (fs := mof m_thrown m_taped m_length m_out m_wide m_gathered m_sets m_ranges m_nodes m_at m_flags m_fault m_place m_numbered m_depth m_value m_isNot m_least0 m_most0 m_slot m_work m_got m_rowMany m_charAt m_charWide m_trail m_isMatch m_matchGroups m_allFrom m_allBefore m_founds m_pieces m_writtenMany m_templateWide m_tooMuch) f_MO_143 d_MO_taken_80 h80.2.2 rfl ?_
        refine ab_iload d_MO_taken_83 rfl ?_
        refine zz_iald d_MO_taken_85 h123 (by omega) ?_
        have hq3 := jcl j (by omega) (by omega)
        refine zz_icmp_lt (tgt := 107) d_MO_taken_86 (by decide) (by omega) (by omega) (fun c4 => ?_) (fun c4 => ?_)
        · refine zz_iconst d_MO_taken_107 ?_
          refine ab_istore_n d_MO_taken_108 (Nat.le_of_ble_eq_true rfl) (Nat.le_of_ble_eq_true rfl) rfl ?_
          change ab_W _ _ _ G 109 [some (vR 80), some (vz k), none, some (vz 0), some (vz j)] [] _
          refine zz_iinc d_MO_taken_109 rfl (Nat.le_of_ble_eq_true rfl) (Nat.le_of_ble_eq_true rfl) rfl ?_
          change ab_W _ _ _ G 112 [some (vR 80), some (vz k), none, some (vz 0), some (vz (j + 1))] [] _
          refine ab_goto (tgt := 53) d_MO_taken_112 (by decide) ?_
          exact ih (inn := 0) (j := (j + 1)) h80 h118 h121 h122 h123 h124 (by omega) (fun h => absurd h (by decide)) (fun _ => tkno_s (jno (by omega)) (by omega)) hfr hlen hsl (by omega) hk0
        · refine ab_aload_n d_MO_taken_89 rfl ?_
          refine ab_getf (fs := mof m_thrown m_taped m_length m_out m_wide m_gathered m_sets m_ranges m_nodes m_at m_flags m_fault m_place m_numbered m_depth m_value m_isNot m_least0 m_most0 m_slot m_work m_got m_rowMany m_charAt m_charWide m_trail m_isMatch m_matchGroups m_allFrom m_allBefore m_founds m_pieces m_writtenMany m_templateWide m_tooMuch) f_MO_513 d_MO_taken_90 h80.2.2 rfl ?_
          refine ab_aload_n d_MO_taken_93 rfl ?_
          refine ab_getf (fs := mof m_thrown m_taped m_length m_out m_wide m_gathered m_sets m_ranges m_nodes m_at m_flags m_fault m_place m_numbered m_depth m_value m_isNot m_least0 m_most0 m_slot m_work m_got m_rowMany m_charAt m_charWide m_trail m_isMatch m_matchGroups m_allFrom m_allBefore m_founds m_pieces m_writtenMany m_templateWide m_tooMuch) f_MO_146 d_MO_taken_94 h80.2.2 rfl ?_
          refine ab_iload d_MO_taken_97 rfl ?_
          refine zz_iald d_MO_taken_99 h124 (by omega) ?_
          have hq5 := jch j (by omega) (by omega)
          refine zz_icmp_gt (tgt := 107) d_MO_taken_100 (by decide) (by omega) (by omega) (fun c6 => ?_) (fun c6 => ?_)
          · refine zz_iconst d_MO_taken_107 ?_
            refine ab_istore_n d_MO_taken_108 (Nat.le_of_ble_eq_true rfl) (Nat.le_of_ble_eq_true rfl) rfl ?_
            change ab_W _ _ _ G 109 [some (vR 80), some (vz k), none, some (vz 0), some (vz j)] [] _
            refine zz_iinc d_MO_taken_109 rfl (Nat.le_of_ble_eq_true rfl) (Nat.le_of_ble_eq_true rfl) rfl ?_
            change ab_W _ _ _ G 112 [some (vR 80), some (vz k), none, some (vz 0), some (vz (j + 1))] [] _
            refine ab_goto (tgt := 53) d_MO_taken_112 (by decide) ?_
            exact ih (inn := 0) (j := (j + 1)) h80 h118 h121 h122 h123 h124 (by omega) (fun h => absurd h (by decide)) (fun _ => tkno_s (jno (by omega)) (by omega)) hfr hlen hsl (by omega) hk0
          · refine zz_iconst d_MO_taken_103 ?_
            refine ab_goto (tgt := 108) d_MO_taken_104 (by decide) ?_
            refine ab_istore_n d_MO_taken_108 (Nat.le_of_ble_eq_true rfl) (Nat.le_of_ble_eq_true rfl) rfl ?_
            change ab_W _ _ _ G 109 [some (vR 80), some (vz k), none, some (vz 1), some (vz j)] [] _
            refine zz_iinc d_MO_taken_109 rfl (Nat.le_of_ble_eq_true rfl) (Nat.le_of_ble_eq_true rfl) rfl ?_
            change ab_W _ _ _ G 112 [some (vR 80), some (vz k), none, some (vz 1), some (vz (j + 1))] [] _
            refine ab_goto (tgt := 53) d_MO_taken_112 (by decide) ?_
            exact ih (inn := 1) (j := (j + 1)) h80 h118 h121 h122 h123 h124 (by omega) (fun _ => ⟨j, by omega, by omega, by omega, by omega⟩) (fun h => absurd h (by decide)) hfr hlen hsl (by omega) hk0
set_option maxRecDepth 100000 in
set_option maxHeartbeats 4000000 in
theorem z_MO_taken {X : ab_X} {d : Nat} {o : Nat → Nat} {G : ab_G} {m_thrown : Int} {m_taped : Int} {m_length : Int} {m_out : Int} {m_wide : Int} {m_gathered : Int} {m_sets : Int} {m_ranges : Int} {m_nodes : Int} {m_at : Int} {m_flags : Int} {m_fault : Int} {m_place : Int} {m_numbered : Int} {m_depth : Int} {m_value : Int} {m_isNot : Int} {m_least0 : Int} {m_most0 : Int} {m_slot : Int} {m_work : Int} {m_got : Int} {m_rowMany : Int} {m_charAt : Int} {m_charWide : Int} {m_trail : Int} {m_isMatch : Int} {m_matchGroups : Int} {m_allFrom : Int} {m_allBefore : Int} {m_founds : Int} {m_pieces : Int} {m_writtenMany : Int} {m_templateWide : Int} {m_tooMuch : Int} {A_step : Int → Int} {A_classAt : Int → Int} {A_classMany : Int → Int} {A_classLow : Int → Int} {A_classHigh : Int → Int} {k : Int} {p : Int} (h80 : cc o G 80 280 (ab_ob 12 (mof m_thrown m_taped m_length m_out m_wide m_gathered m_sets m_ranges m_nodes m_at m_flags m_fault m_place m_numbered m_depth m_value m_isNot m_least0 m_most0 m_slot m_work m_got m_rowMany m_charAt m_charWide m_trail m_isMatch m_matchGroups m_allFrom m_allBefore m_founds m_pieces m_writtenMany m_templateWide m_tooMuch))) (h118 : cc o G 118 318 (za 75000 A_step)) (h121 : cc o G 121 321 (za 75000 A_classAt)) (h122 : cc o G 122 322 (za 75000 A_classMany)) (h123 : cc o G 123 323 (za 3600 A_classLow)) (h124 : cc o G 124 324 (za 3600 A_classHigh)) (ck : 0 ≤ k ∧ k < 75000 ∧ 0 ≤ p ∧ p ≤ 2000) (cle : 0 ≤ m_length ∧ m_length ≤ 2000) (jst : rgs A_step 75000 0 6) (jcl : rgs A_classLow 3600 0 1114111) (jch : rgs A_classHigh 3600 0 1114111) (jca : A_step k = 1 → 0 ≤ A_classAt k ∧ 0 ≤ A_classMany k ∧ A_classAt k + A_classMany k ≤ 3600) (cch : -1 ≤ m_charAt ∧ m_charAt ≤ 1114111 ∧ 1 ≤ m_charWide ∧ m_charWide ≤ 4) (clk : 0 ≤ m_charAt → p + m_charWide ≤ m_length) (hd : 2 ≤ d) : ab_F X d y_MO_taken (.code y_MO_taken b_MO_taken 5 (some (.int))) [vR 80, vz k, vz p] G (fun oc G2 => ∃ v : Int, oc = .returned (some (vz v)) ∧ fx o o [] G G2 ∧ G2.length = G.length ∧ ab_slots G2 = ab_slots G ∧ (tkv A_step A_classAt A_classMany A_classLow A_classHigh m_charAt m_charWide m_length k p v) ∧ (0 ≤ v ∧ v ≤ 4) ∧ (0 < v → p + v ≤ m_length ∧ 1 ≤ A_step k ∧ A_step k ≤ 2)) := by
  refine ab_F_of (by decide +kernel) (Nat.le_of_ble_eq_true rfl) ?_
  obtain ⟨Q, hQ⟩ : ∃ z : Outcome → ab_G → Prop, z = (fun oc G2 => ∃ v : Int, oc = .returned (some (vz v)) ∧ fx o o [] G G2 ∧ G2.length = G.length ∧ ab_slots G2 = ab_slots G ∧ (tkv A_step A_classAt A_classMany A_classLow A_classHigh m_charAt m_charWide m_length k p v) ∧ (0 ≤ v ∧ v ≤ 4) ∧ (0 < v → p + v ≤ m_length ∧ 1 ≤ A_step k ∧ A_step k ≤ 2)) := ⟨_, rfl⟩
  rw [← hQ]
  change ab_W X (ab_pl y_MO_taken b_MO_taken 5 (some (.int))) d G 0 [some (vR 80), some (vz k), some (vz p), none, none] [] Q
  have hfr : fx o o [] G G := fx.rf
  have hlen : G.length = G.length := rfl
  have hsl : ab_slots G = ab_slots G := rfl
  refine ab_aload_n d_MO_taken_0 rfl ?_
  refine ab_getf (fs := mof m_thrown m_taped m_length m_out m_wide m_gathered m_sets m_ranges m_nodes m_at m_flags m_fault m_place m_numbered m_depth m_value m_isNot m_least0 m_most0 m_slot m_work m_got m_rowMany m_charAt m_charWide m_trail m_isMatch m_matchGroups m_allFrom m_allBefore m_founds m_pieces m_writtenMany m_templateWide m_tooMuch) f_MO_128 d_MO_taken_1 h80.2.2 rfl ?_
  refine ab_iload_n d_MO_taken_4 rfl ?_
  refine zz_iald d_MO_taken_5 h118 (by omega) ?_
  have hq1 := jst k (by omega) (by omega)
  refine zz_iconst d_MO_taken_6 ?_
  refine zz_icmp_ne (tgt := 24) d_MO_taken_7 (by decide) (by omega) (by decide) (fun c2 => ?_) (fun c2 => ?_)
  · refine ab_aload_n d_MO_taken_24 rfl ?_
    refine ab_getf (fs := mof m_thrown m_taped m_length m_out m_wide m_gathered m_sets m_ranges m_nodes m_at m_flags m_fault m_place m_numbered m_depth m_value m_isNot m_least0 m_most0 m_slot m_work m_got m_rowMany m_charAt m_charWide m_trail m_isMatch m_matchGroups m_allFrom m_allBefore m_founds m_pieces m_writtenMany m_templateWide m_tooMuch) f_MO_128 d_MO_taken_25 h80.2.2 rfl ?_
    refine ab_iload_n d_MO_taken_28 rfl ?_
    refine zz_iald d_MO_taken_29 h118 (by omega) ?_
    have hq3 := jst k (by omega) (by omega)
    refine zz_iconst d_MO_taken_30 ?_
    refine zz_icmp_ne (tgt := 41) d_MO_taken_31 (by decide) (by omega) (by decide) (fun c4 => ?_) (fun c4 => ?_)
    · refine zz_iconst d_MO_taken_41 ?_
      refine zz_iret rfl d_MO_taken_42 ?_
      rw [hQ]; exact ⟨_, rfl, hfr, hlen, hsl, (by first | exact Or.inl ⟨by omega, by omega, rfl⟩ | exact Or.inr (Or.inl ⟨by omega, by omega, rfl⟩) | exact Or.inr (Or.inr (Or.inr ⟨by omega, fun q => by have := q.1; have := q.2.1; omega, rfl⟩))), (by omega), (by intro hv0; omega)⟩
    · refine ab_aload_n d_MO_taken_34 rfl ?_
      refine ab_getf (fs := mof m_thrown m_taped m_length m_out m_wide m_gathered m_sets m_ranges m_nodes m_at m_flags m_fault m_place m_numbered m_depth m_value m_isNot m_least0 m_most0 m_slot m_work m_got m_rowMany m_charAt m_charWide m_trail m_isMatch m_matchGroups m_allFrom m_allBefore m_founds m_pieces m_writtenMany m_templateWide m_tooMuch) f_MO_513 d_MO_taken_35 h80.2.2 rfl ?_
      refine zz_if_ge (tgt := 43) d_MO_taken_38 (by decide) (by omega) (fun c5 => ?_) (fun c5 => ?_)
      · have cab := jca (by omega)
        refine zz_iconst d_MO_taken_43 ?_
        refine ab_istore_n d_MO_taken_44 (Nat.le_of_ble_eq_true rfl) (Nat.le_of_ble_eq_true rfl) rfl ?_
        change ab_W _ _ _ G 45 [some (vR 80), some (vz k), some (vz p), some (vz 0), none] [] _
        refine ab_aload_n d_MO_taken_45 rfl ?_
        refine ab_getf (fs := mof m_thrown m_taped m_length m_out m_wide m_gathered m_sets m_ranges m_nodes m_at m_flags m_fault m_place m_numbered m_depth m_value m_isNot m_least0 m_most0 m_slot m_work m_got m_rowMany m_charAt m_charWide m_trail m_isMatch m_matchGroups m_allFrom m_allBefore m_founds m_pieces m_writtenMany m_templateWide m_tooMuch) f_MO_137 d_MO_taken_46 h80.2.2 rfl ?_
        refine ab_iload_n d_MO_taken_49 rfl ?_
        refine zz_iald d_MO_taken_50 h121 (by omega) ?_
        refine ab_istore d_MO_taken_51 (Nat.le_of_ble_eq_true rfl) (Nat.le_of_ble_eq_true rfl) rfl ?_
        change ab_W _ _ _ G 53 [some (vR 80), some (vz k), some (vz p), some (vz 0), some (vz (A_classAt k))] [] _
        refine ab_less (L' := [some (vR 80), some (vz k), none, some (vz 0), some (vz (A_classAt k))]) (fun i v h => by rcases i with _ | _ | _ | _ | _ | i <;> first | exact h | (simp at h)) ?_
        refine y_MO_taken_53 (m_thrown := m_thrown) (m_taped := m_taped) (m_length := m_length) (m_out := m_out) (m_wide := m_wide) (m_gathered := m_gathered) (m_sets := m_sets) (m_ranges := m_ranges) (m_nodes := m_nodes) (m_at := m_at) (m_flags := m_flags) (m_fault := m_fault) (m_place := m_place) (m_numbered := m_numbered) (m_depth := m_depth) (m_value := m_value) (m_isNot := m_isNot) (m_least0 := m_least0) (m_most0 := m_most0) (m_slot := m_slot) (m_work := m_work) (m_got := m_got) (m_rowMany := m_rowMany) (m_charAt := m_charAt) (m_charWide := m_charWide) (m_trail := m_trail) (m_isMatch := m_isMatch) (m_matchGroups := m_matchGroups) (m_allFrom := m_allFrom) (m_allBefore := m_allBefore) (m_founds := m_founds) (m_pieces := m_pieces) (m_writtenMany := m_writtenMany) (m_templateWide := m_templateWide) (m_tooMuch := m_tooMuch) (A_step := A_step) (A_classAt := A_classAt) (A_classMany := A_classMany) (A_classLow := A_classLow) (A_classHigh := A_classHigh) (k := k) (G0 := G) (inn := 0) (j := (A_classAt k)) (by omega) jcl jch (by omega) (by omega) (by omega) (Int.toNat (A_classAt k + A_classMany k - (A_classAt k)) + 1) h80 h118 h121 h122 h123 h124 (by omega) (fun h => absurd h (by decide)) (fun _ => tkno_0) fx.rf rfl rfl (by omega) (fun G6 i27 hq8 hq9 hq10 hfk hlk hsk => ?_)
        · have h80 := hfk.get h80 (by decide)
          have h118 := hfk.get h118 (by decide)
          have h121 := hfk.get h121 (by decide)
          have h122 := hfk.get h122 (by decide)
          have h123 := hfk.get h123 (by decide)
          have h124 := hfk.get h124 (by decide)
          have hfr := hfr.tr hfk (by decide)
          have hlen := hlk.trans hlen
          have hsl := hsk.trans hsl
          change ab_W _ _ _ G6 115 [some (vR 80), none, none, some (vz i27), none] [] _
          refine ab_iload_n d_MO_taken_115 rfl ?_
          refine zz_if_eq (tgt := 126) d_MO_taken_116 (by decide) (by omega) (fun c11 => ?_) (fun c11 => ?_)
          · refine zz_iconst d_MO_taken_126 ?_
            refine zz_iret rfl d_MO_taken_127 ?_
            rw [hQ]; exact ⟨_, rfl, hfr, hlen, hsl, (by exact Or.inr (Or.inr (Or.inr ⟨by omega, fun q => hq10 (by omega) q.2.2, rfl⟩))), (by omega), (by intro hv0; omega)⟩
          · refine ab_aload_n d_MO_taken_119 rfl ?_
            refine ab_getf (fs := mof m_thrown m_taped m_length m_out m_wide m_gathered m_sets m_ranges m_nodes m_at m_flags m_fault m_place m_numbered m_depth m_value m_isNot m_least0 m_most0 m_slot m_work m_got m_rowMany m_charAt m_charWide m_trail m_isMatch m_matchGroups m_allFrom m_allBefore m_founds m_pieces m_writtenMany m_templateWide m_tooMuch) f_MO_516 d_MO_taken_120 h80.2.2 rfl ?_
            refine ab_goto (tgt := 127) d_MO_taken_123 (by decide) ?_
            refine zz_iret rfl d_MO_taken_127 ?_
            rw [hQ]; exact ⟨_, rfl, hfr, hlen, hsl, (by exact Or.inr (Or.inr (Or.inl ⟨by omega, by omega, hq9 (by omega), rfl⟩))), (by omega), (by intro hv0; omega)⟩
      · refine zz_iconst d_MO_taken_41 ?_
        refine zz_iret rfl d_MO_taken_42 ?_
        rw [hQ]; exact ⟨_, rfl, hfr, hlen, hsl, (by first | exact Or.inl ⟨by omega, by omega, rfl⟩ | exact Or.inr (Or.inl ⟨by omega, by omega, rfl⟩) | exact Or.inr (Or.inr (Or.inr ⟨by omega, fun q => by have := q.1; have := q.2.1; omega, rfl⟩))), (by omega), (by intro hv0; omega)⟩
  · refine ab_iload_n d_MO_taken_10 rfl ?_
    refine ab_aload_n d_MO_taken_11 rfl ?_
    refine ab_getf (fs := mof m_thrown m_taped m_length m_out m_wide m_gathered m_sets m_ranges m_nodes m_at m_flags m_fault m_place m_numbered m_depth m_value m_isNot m_least0 m_most0 m_slot m_work m_got m_rowMany m_charAt m_charWide m_trail m_isMatch m_matchGroups m_allFrom m_allBefore m_founds m_pieces m_writtenMany m_templateWide m_tooMuch) f_MO_510 d_MO_taken_12 h80.2.2 rfl ?_
    refine zz_icmp_ge (tgt := 22) d_MO_taken_15 (by decide) (by omega) (by omega) (fun c12 => ?_) (fun c12 => ?_)
    · refine zz_iconst d_MO_taken_22 ?_
      refine zz_iret rfl d_MO_taken_23 ?_
      rw [hQ]; exact ⟨_, rfl, hfr, hlen, hsl, (by first | exact Or.inl ⟨by omega, by omega, rfl⟩ | exact Or.inr (Or.inl ⟨by omega, by omega, rfl⟩) | exact Or.inr (Or.inr (Or.inr ⟨by omega, fun q => by have := q.1; have := q.2.1; omega, rfl⟩))), (by omega), (by intro hv0; omega)⟩
    · refine zz_iconst d_MO_taken_18 ?_
      refine ab_goto (tgt := 23) d_MO_taken_19 (by decide) ?_
      refine zz_iret rfl d_MO_taken_23 ?_
      rw [hQ]; exact ⟨_, rfl, hfr, hlen, hsl, (by first | exact Or.inl ⟨by omega, by omega, rfl⟩ | exact Or.inr (Or.inl ⟨by omega, by omega, rfl⟩) | exact Or.inr (Or.inr (Or.inr ⟨by omega, fun q => by have := q.1; have := q.2.1; omega, rfl⟩))), (by omega), (by intro hv0; omega)⟩
