set_option maxRecDepth 100000 in
set_option maxHeartbeats 4000000 in
theorem z_MO_store {X : ab_X} {d : Nat} {o : Nat → Nat} {G : ab_G} {m_thrown : Int} {m_taped : Int} {m_length : Int} {m_out : Int} {m_wide : Int} {m_gathered : Int} {m_sets : Int} {m_ranges : Int} {m_nodes : Int} {m_at : Int} {m_flags : Int} {m_fault : Int} {m_place : Int} {m_numbered : Int} {m_depth : Int} {m_value : Int} {m_isNot : Int} {m_least0 : Int} {m_most0 : Int} {m_slot : Int} {m_work : Int} {m_got : Int} {m_rowMany : Int} {m_charAt : Int} {m_charWide : Int} {m_trail : Int} {m_isMatch : Int} {m_matchGroups : Int} {m_allFrom : Int} {m_allBefore : Int} {m_founds : Int} {m_pieces : Int} {m_writtenMany : Int} {m_templateWide : Int} {m_tooMuch : Int} {RL : Int → Int} {RH : Int → Int} {a : Int} {b : Int} (h80 : cc o G 80 280 (ab_ob 12 (mof m_thrown m_taped m_length m_out m_wide m_gathered m_sets m_ranges m_nodes m_at m_flags m_fault m_place m_numbered m_depth m_value m_isNot m_least0 m_most0 m_slot m_work m_got m_rowMany m_charAt m_charWide m_trail m_isMatch m_matchGroups m_allFrom m_allBefore m_founds m_pieces m_writtenMany m_templateWide m_tooMuch))) (h91 : cc o G 91 291 (za 24000 RL)) (h92 : cc o G 92 292 (za 24000 RH)) (n18 : ab_n0 = 18) (ca : 0 ≤ a ∧ a ≤ 2000000 ∧ -1 ≤ b ∧ b ≤ 1114111) (cr : 0 ≤ m_ranges) (cr2 : a ≤ b → m_ranges < 24000) (jrl : rgs RL 24000 0 1114111) (jrh : rgs RH 24000 0 1114111) : ab_F X d y_MO_store (.code y_MO_store b_MO_store 3 none) [vR 80, vz a, vz b] G (fun oc G2 => ∃ r2 : Int, ∃ RL2 : Int → Int, ∃ RH2 : Int → Int, oc = .returned none ∧ fx o o [280, 291, 292] G G2 ∧ G2.length = G.length ∧ ab_slots G2 = ab_slots G ∧ cc o G2 80 280 (ab_ob 12 (mof m_thrown m_taped m_length m_out m_wide m_gathered m_sets r2 m_nodes m_at m_flags m_fault m_place m_numbered m_depth m_value m_isNot m_least0 m_most0 m_slot m_work m_got m_rowMany m_charAt m_charWide m_trail m_isMatch m_matchGroups m_allFrom m_allBefore m_founds m_pieces m_writtenMany m_templateWide m_tooMuch)) ∧ cc o G2 91 291 (za 24000 RL2) ∧ cc o G2 92 292 (za 24000 RH2) ∧ (rgs RL2 24000 0 1114111) ∧ (rgs RH2 24000 0 1114111) ∧ (m_ranges ≤ r2 ∧ r2 ≤ m_ranges + 1) ∧ (b < a → r2 = m_ranges) ∧ (stq RL RH m_ranges a b RL2 RH2 r2)) := by
  refine ab_F_of (by decide +kernel) (Nat.le_of_ble_eq_true rfl) ?_
  obtain ⟨Q, hQ⟩ : ∃ z : Outcome → ab_G → Prop, z = (fun oc G2 => ∃ r2 : Int, ∃ RL2 : Int → Int, ∃ RH2 : Int → Int, oc = .returned none ∧ fx o o [280, 291, 292] G G2 ∧ G2.length = G.length ∧ ab_slots G2 = ab_slots G ∧ cc o G2 80 280 (ab_ob 12 (mof m_thrown m_taped m_length m_out m_wide m_gathered m_sets r2 m_nodes m_at m_flags m_fault m_place m_numbered m_depth m_value m_isNot m_least0 m_most0 m_slot m_work m_got m_rowMany m_charAt m_charWide m_trail m_isMatch m_matchGroups m_allFrom m_allBefore m_founds m_pieces m_writtenMany m_templateWide m_tooMuch)) ∧ cc o G2 91 291 (za 24000 RL2) ∧ cc o G2 92 292 (za 24000 RH2) ∧ (rgs RL2 24000 0 1114111) ∧ (rgs RH2 24000 0 1114111) ∧ (m_ranges ≤ r2 ∧ r2 ≤ m_ranges + 1) ∧ (b < a → r2 = m_ranges) ∧ (stq RL RH m_ranges a b RL2 RH2 r2)) := ⟨_, rfl⟩
  rw [← hQ]
  change ab_W X (ab_pl y_MO_store b_MO_store 3 none) d G 0 [some (vR 80), some (vz a), some (vz b)] [] Q
  have hfr : fx o o [280, 291, 292] G G := fx.rf
  have hlen : G.length = G.length := rfl
  have hsl : ab_slots G = ab_slots G := rfl
  refine ab_iload_n d_MO_store_0 rfl ?_
  refine ab_iload_n d_MO_store_1 rfl ?_
  refine zz_icmp_le (tgt := 6) d_MO_store_2 (by decide) (by omega) (by omega) (fun c1 => ?_) (fun c1 => ?_)
  · refine ab_aload_n d_MO_store_6 rfl ?_
    refine ab_getf (fs := mof m_thrown m_taped m_length m_out m_wide m_gathered m_sets m_ranges m_nodes m_at m_flags m_fault m_place m_numbered m_depth m_value m_isNot m_least0 m_most0 m_slot m_work m_got m_rowMany m_charAt m_charWide m_trail m_isMatch m_matchGroups m_allFrom m_allBefore m_founds m_pieces m_writtenMany m_templateWide m_tooMuch) f_MO_40 d_MO_store_7 h80.2.2 rfl ?_
    refine ab_aload_n d_MO_store_10 rfl ?_
    refine ab_getf (fs := mof m_thrown m_taped m_length m_out m_wide m_gathered m_sets m_ranges m_nodes m_at m_flags m_fault m_place m_numbered m_depth m_value m_isNot m_least0 m_most0 m_slot m_work m_got m_rowMany m_charAt m_charWide m_trail m_isMatch m_matchGroups m_allFrom m_allBefore m_founds m_pieces m_writtenMany m_templateWide m_tooMuch) f_MO_248 d_MO_store_11 h80.2.2 rfl ?_
    refine ab_iload_n d_MO_store_14 rfl ?_
    refine zz_iast d_MO_store_15 h91 (by omega) (h91.2.1 (by decide)) ?_
    obtain ⟨G2, eG2⟩ : ∃ z : ab_G, z = List.set G 91 (za 24000 (zu RL m_ranges a)) := ⟨_, rfl⟩
    have h80 := h80.keep h91 eG2 (by decide)
    have h92 := h92.keep h91 eG2 (by decide)
    have hlen := (z_len eG2).trans hlen
    have hsl := (z_sl h91 eG2 rfl).trans hsl
    have hfr := hfr.wr h91 eG2 (by decide)
    have h91 := h91.kept eG2
    change ab_W _ _ _ (List.set G 91 (za 24000 (zu RL m_ranges a))) 16 [some (vR 80), some (vz a), some (vz b)] [] _
    rw [← eG2]
    refine ab_aload_n d_MO_store_16 rfl ?_
    refine ab_getf (fs := mof m_thrown m_taped m_length m_out m_wide m_gathered m_sets m_ranges m_nodes m_at m_flags m_fault m_place m_numbered m_depth m_value m_isNot m_least0 m_most0 m_slot m_work m_got m_rowMany m_charAt m_charWide m_trail m_isMatch m_matchGroups m_allFrom m_allBefore m_founds m_pieces m_writtenMany m_templateWide m_tooMuch) f_MO_43 d_MO_store_17 h80.2.2 rfl ?_
    refine ab_aload_n d_MO_store_20 rfl ?_
    refine ab_getf (fs := mof m_thrown m_taped m_length m_out m_wide m_gathered m_sets m_ranges m_nodes m_at m_flags m_fault m_place m_numbered m_depth m_value m_isNot m_least0 m_most0 m_slot m_work m_got m_rowMany m_charAt m_charWide m_trail m_isMatch m_matchGroups m_allFrom m_allBefore m_founds m_pieces m_writtenMany m_templateWide m_tooMuch) f_MO_248 d_MO_store_21 h80.2.2 rfl ?_
    refine ab_iload_n d_MO_store_24 rfl ?_
    refine zz_iast d_MO_store_25 h92 (by omega) (h92.2.1 (by decide)) ?_
    obtain ⟨G3, eG3⟩ : ∃ z : ab_G, z = List.set G2 92 (za 24000 (zu RH m_ranges b)) := ⟨_, rfl⟩
    have h80 := h80.keep h92 eG3 (by decide)
    have h91 := h91.keep h92 eG3 (by decide)
    have hlen := (z_len eG3).trans hlen
    have hsl := (z_sl h92 eG3 rfl).trans hsl
    have hfr := hfr.wr h92 eG3 (by decide)
    have h92 := h92.kept eG3
    change ab_W _ _ _ (List.set G2 92 (za 24000 (zu RH m_ranges b))) 26 [some (vR 80), some (vz a), some (vz b)] [] _
    rw [← eG3]
    refine ab_aload_n d_MO_store_26 rfl ?_
    refine ab_dup d_MO_store_27 rfl ?_
    refine ab_getf (fs := mof m_thrown m_taped m_length m_out m_wide m_gathered m_sets m_ranges m_nodes m_at m_flags m_fault m_place m_numbered m_depth m_value m_isNot m_least0 m_most0 m_slot m_work m_got m_rowMany m_charAt m_charWide m_trail m_isMatch m_matchGroups m_allFrom m_allBefore m_founds m_pieces m_writtenMany m_templateWide m_tooMuch) f_MO_248 d_MO_store_28 h80.2.2 rfl ?_
    refine zz_iconst d_MO_store_31 ?_
    refine zz_iadd d_MO_store_32 ?_
    refine ab_putf (fs := mof m_thrown m_taped m_length m_out m_wide m_gathered m_sets m_ranges m_nodes m_at m_flags m_fault m_place m_numbered m_depth m_value m_isNot m_least0 m_most0 m_slot m_work m_got m_rowMany m_charAt m_charWide m_trail m_isMatch m_matchGroups m_allFrom m_allBefore m_founds m_pieces m_writtenMany m_templateWide m_tooMuch) f_MO_248 (Or.inl rfl) d_MO_store_33 h80.2.2 (Nat.le_of_ble_eq_true rfl) (fun _ => ⟨rfl, rfl⟩) (h80.2.1 (by decide)) ?_
    obtain ⟨G4, eG4⟩ : ∃ z : ab_G, z = List.set G3 80 (ab_ob 12 (mof m_thrown m_taped m_length m_out m_wide m_gathered m_sets (m_ranges + 1) m_nodes m_at m_flags m_fault m_place m_numbered m_depth m_value m_isNot m_least0 m_most0 m_slot m_work m_got m_rowMany m_charAt m_charWide m_trail m_isMatch m_matchGroups m_allFrom m_allBefore m_founds m_pieces m_writtenMany m_templateWide m_tooMuch)) := ⟨_, rfl⟩
    have h91 := h91.keep h80 eG4 (by decide)
    have h92 := h92.keep h80 eG4 (by decide)
    have hlen := (z_len eG4).trans hlen
    have hsl := (z_sl h80 eG4 rfl).trans hsl
    have hfr := hfr.wr h80 eG4 (by decide)
    have h80 := h80.kept eG4
    change ab_W _ _ _ (List.set G3 80 (ab_ob 12 (mof m_thrown m_taped m_length m_out m_wide m_gathered m_sets (m_ranges + 1) m_nodes m_at m_flags m_fault m_place m_numbered m_depth m_value m_isNot m_least0 m_most0 m_slot m_work m_got m_rowMany m_charAt m_charWide m_trail m_isMatch m_matchGroups m_allFrom m_allBefore m_founds m_pieces m_writtenMany m_templateWide m_tooMuch))) 36 [some (vR 80), some (vz a), some (vz b)] [] _
    rw [← eG4]
    refine ab_vret rfl d_MO_store_36 ?_
    rw [hQ]; exact ⟨_, _, _, rfl, hfr, hlen, hsl, h80, h91, h92, (by first | exact (rgs_zu jrl (by omega)) | exact rgs_w (rgs_zu jrl (by omega)) (by omega)), (by first | exact (rgs_zu jrh (by omega)) | exact rgs_w (rgs_zu jrh (by omega)) (by omega)), (by omega), (by intro _; omega), (by unfold stq; first | (left; exact ⟨by omega, rfl, rfl, rfl⟩) | (right; exact ⟨by omega, rfl, rfl, rfl⟩))⟩
  · refine ab_vret rfl d_MO_store_5 ?_
    rw [hQ]; exact ⟨_, _, _, rfl, hfr, hlen, hsl, h80, h91, h92, (by first | exact jrl | exact rgs_w jrl (by omega)), (by first | exact jrh | exact rgs_w jrh (by omega)), (by omega), (by intro _; omega), (by unfold stq; first | (left; exact ⟨by omega, rfl, rfl, rfl⟩) | (right; exact ⟨by omega, rfl, rfl, rfl⟩))⟩
set_option maxRecDepth 100000 in
set_option maxHeartbeats 4000000 in
theorem z_MO_storeCut {X : ab_X} {d : Nat} {o : Nat → Nat} {G : ab_G} {m_thrown : Int} {m_taped : Int} {m_length : Int} {m_out : Int} {m_wide : Int} {m_gathered : Int} {m_sets : Int} {m_ranges : Int} {m_nodes : Int} {m_at : Int} {m_flags : Int} {m_fault : Int} {m_place : Int} {m_numbered : Int} {m_depth : Int} {m_value : Int} {m_isNot : Int} {m_least0 : Int} {m_most0 : Int} {m_slot : Int} {m_work : Int} {m_got : Int} {m_rowMany : Int} {m_charAt : Int} {m_charWide : Int} {m_trail : Int} {m_isMatch : Int} {m_matchGroups : Int} {m_allFrom : Int} {m_allBefore : Int} {m_founds : Int} {m_pieces : Int} {m_writtenMany : Int} {m_templateWide : Int} {m_tooMuch : Int} {RL : Int → Int} {RH : Int → Int} {a : Int} {b : Int} {r0 : Int} {Q : Int → Prop} {RL9 : Int → Int} {RH9 : Int → Int} (h80 : cc o G 80 280 (ab_ob 12 (mof m_thrown m_taped m_length m_out m_wide m_gathered m_sets m_ranges m_nodes m_at m_flags m_fault m_place m_numbered m_depth m_value m_isNot m_least0 m_most0 m_slot m_work m_got m_rowMany m_charAt m_charWide m_trail m_isMatch m_matchGroups m_allFrom m_allBefore m_founds m_pieces m_writtenMany m_templateWide m_tooMuch))) (h91 : cc o G 91 291 (za 24000 RL)) (h92 : cc o G 92 292 (za 24000 RH)) (n18 : ab_n0 = 18) (ca : 0 ≤ a ∧ a ≤ 1114112 ∧ -1 ≤ b ∧ b ≤ 1114111) (cr : 0 ≤ m_ranges ∧ m_ranges + 1 ≤ 24000) (cr2 : a < 55296 → 57344 ≤ b → m_ranges + 2 ≤ 24000) (jrl : rgs RL 24000 0 1114111) (jrh : rgs RH 24000 0 1114111) (jst : sto RL RH r0 m_ranges Q) (hq : ∀ x : Int, Q x → x + 1 < a) (jkx : kx2 RL9 RH9 RL RH r0) (hd : 1 ≤ d) : ab_F X d y_MO_storeCut (.code y_MO_storeCut b_MO_storeCut 3 none) [vR 80, vz a, vz b] G (fun oc G2 => ∃ r2 : Int, ∃ RL2 : Int → Int, ∃ RH2 : Int → Int, oc = .returned none ∧ fx o o [280, 291, 292] G G2 ∧ G2.length = G.length ∧ ab_slots G2 = ab_slots G ∧ cc o G2 80 280 (ab_ob 12 (mof m_thrown m_taped m_length m_out m_wide m_gathered m_sets r2 m_nodes m_at m_flags m_fault m_place m_numbered m_depth m_value m_isNot m_least0 m_most0 m_slot m_work m_got m_rowMany m_charAt m_charWide m_trail m_isMatch m_matchGroups m_allFrom m_allBefore m_founds m_pieces m_writtenMany m_templateWide m_tooMuch)) ∧ cc o G2 91 291 (za 24000 RL2) ∧ cc o G2 92 292 (za 24000 RH2) ∧ (rgs RL2 24000 0 1114111) ∧ (rgs RH2 24000 0 1114111) ∧ (m_ranges ≤ r2 ∧ r2 ≤ m_ranges + 2) ∧ (55296 ≤ a ∨ b < 57344 → r2 ≤ m_ranges + 1) ∧ (sto RL2 RH2 r0 r2 (fun x => Q x ∨ ((a ≤ x ∧ x ≤ b) ∧ ¬ cs_gap x))) ∧ (kx2 RL9 RH9 RL2 RH2 r0)) := by
  refine ab_F_of (by decide +kernel) (Nat.le_of_ble_eq_true rfl) ?_
  obtain ⟨Q, hQ⟩ : ∃ z : Outcome → ab_G → Prop, z = (fun oc G2 => ∃ r2 : Int, ∃ RL2 : Int → Int, ∃ RH2 : Int → Int, oc = .returned none ∧ fx o o [280, 291, 292] G G2 ∧ G2.length = G.length ∧ ab_slots G2 = ab_slots G ∧ cc o G2 80 280 (ab_ob 12 (mof m_thrown m_taped m_length m_out m_wide m_gathered m_sets r2 m_nodes m_at m_flags m_fault m_place m_numbered m_depth m_value m_isNot m_least0 m_most0 m_slot m_work m_got m_rowMany m_charAt m_charWide m_trail m_isMatch m_matchGroups m_allFrom m_allBefore m_founds m_pieces m_writtenMany m_templateWide m_tooMuch)) ∧ cc o G2 91 291 (za 24000 RL2) ∧ cc o G2 92 292 (za 24000 RH2) ∧ (rgs RL2 24000 0 1114111) ∧ (rgs RH2 24000 0 1114111) ∧ (m_ranges ≤ r2 ∧ r2 ≤ m_ranges + 2) ∧ (55296 ≤ a ∨ b < 57344 → r2 ≤ m_ranges + 1) ∧ (sto RL2 RH2 r0 r2 (fun x => Q x ∨ ((a ≤ x ∧ x ≤ b) ∧ ¬ cs_gap x))) ∧ (kx2 RL9 RH9 RL2 RH2 r0)) := ⟨_, rfl⟩
  rw [← hQ]
  change ab_W X (ab_pl y_MO_storeCut b_MO_storeCut 3 none) d G 0 [some (vR 80), some (vz a), some (vz b)] [] Q
  have hfr : fx o o [280, 291, 292] G G := fx.rf
  have hlen : G.length = G.length := rfl
  have hsl : ab_slots G = ab_slots G := rfl
  refine ab_aload_n d_MO_storeCut_0 rfl ?_
  refine ab_iload_n d_MO_storeCut_1 rfl ?_
  refine ab_iload_n d_MO_storeCut_2 rfl ?_
  refine zz_ldc 55296 d_MO_storeCut_3 cn_MO_233 (by decide) ?_
  refine zz_icmp_ge (tgt := 12) d_MO_storeCut_5 (by decide) (by omega) (by decide) (fun c1 => ?_) (fun c1 => ?_)
  · refine zz_ldc 55295 d_MO_storeCut_12 cn_MO_251 (by decide) ?_
    refine ab_callV (d' := d - 1) (as := [vz a, vz 55295]) (st := []) (r := _) (z_MO_store (o := o) (m_thrown := m_thrown) (m_taped := m_taped) (m_length := m_length) (m_out := m_out) (m_wide := m_wide) (m_gathered := m_gathered) (m_sets := m_sets) (m_ranges := m_ranges) (m_nodes := m_nodes) (m_at := m_at) (m_flags := m_flags) (m_fault := m_fault) (m_place := m_place) (m_numbered := m_numbered) (m_depth := m_depth) (m_value := m_value) (m_isNot := m_isNot) (m_least0 := m_least0) (m_most0 := m_most0) (m_slot := m_slot) (m_work := m_work) (m_got := m_got) (m_rowMany := m_rowMany) (m_charAt := m_charAt) (m_charWide := m_charWide) (m_trail := m_trail) (m_isMatch := m_isMatch) (m_matchGroups := m_matchGroups) (m_allFrom := m_allFrom) (m_allBefore := m_allBefore) (m_founds := m_founds) (m_pieces := m_pieces) (m_writtenMany := m_writtenMany) (m_templateWide := m_templateWide) (m_tooMuch := m_tooMuch) (RL := RL) (RH := RH) (a := a) (b := 55295) h80 h91 h92 (by omega) (by omega) (by omega) (by omega) jrl jrh) (fun oc G2 h => by rcases h with ⟨_, _, _, h, _⟩ <;> exact ⟨_, h⟩) (by omega) m_MO_store ml_MO_252 im_MO_store se_MO_store c_MO h80.2.2 (Nat.le_of_ble_eq_true rfl) d_MO_storeCut_14 rfl ?_
    intro v G2 hq
    rcases hq with ⟨r23, RL24, RH25, hv, hfk, hlk, hsk, hN80, hN91, hN92, hq6, hq7, hq8, hq9, hq10⟩
    cases hv
    have hfr := hfr.tr hfk (by decide)
    have hlen := hlk.trans hlen
    have hsl := hsk.trans hsl
    have h80 := hN80
    have h91 := hN91
    have h92 := hN92
    change ab_W _ _ _ G2 17 [some (vR 80), some (vz a), some (vz b)] [] _
    refine ab_aload_n d_MO_storeCut_17 rfl ?_
    refine ab_iload_n d_MO_storeCut_18 rfl ?_
    refine zz_ldc 57344 d_MO_storeCut_19 cn_MO_234 (by decide) ?_
    refine zz_icmp_le (tgt := 28) d_MO_storeCut_21 (by decide) (by omega) (by decide) (fun c11 => ?_) (fun c11 => ?_)
    · refine zz_ldc 57344 d_MO_storeCut_28 cn_MO_234 (by decide) ?_
      refine ab_iload_n d_MO_storeCut_30 rfl ?_
      refine ab_callV (d' := d - 1) (as := [vz 57344, vz b]) (st := []) (r := _) (z_MO_store (o := o) (m_thrown := m_thrown) (m_taped := m_taped) (m_length := m_length) (m_out := m_out) (m_wide := m_wide) (m_gathered := m_gathered) (m_sets := m_sets) (m_ranges := r23) (m_nodes := m_nodes) (m_at := m_at) (m_flags := m_flags) (m_fault := m_fault) (m_place := m_place) (m_numbered := m_numbered) (m_depth := m_depth) (m_value := m_value) (m_isNot := m_isNot) (m_least0 := m_least0) (m_most0 := m_most0) (m_slot := m_slot) (m_work := m_work) (m_got := m_got) (m_rowMany := m_rowMany) (m_charAt := m_charAt) (m_charWide := m_charWide) (m_trail := m_trail) (m_isMatch := m_isMatch) (m_matchGroups := m_matchGroups) (m_allFrom := m_allFrom) (m_allBefore := m_allBefore) (m_founds := m_founds) (m_pieces := m_pieces) (m_writtenMany := m_writtenMany) (m_templateWide := m_templateWide) (m_tooMuch := m_tooMuch) (RL := RL24) (RH := RH25) (a := 57344) (b := b) h80 h91 h92 (by omega) (by omega) (by omega) (by omega) hq6 hq7) (fun oc G2 h => by rcases h with ⟨_, _, _, h, _⟩ <;> exact ⟨_, h⟩) (by omega) m_MO_store ml_MO_252 im_MO_store se_MO_store c_MO h80.2.2 (Nat.le_of_ble_eq_true rfl) d_MO_storeCut_31 rfl ?_
      intro v G12 hq
      rcases hq with ⟨r213, RL214, RH215, hv, hfk, hlk, hsk, hN80, hN91, hN92, hq16, hq17, hq18, hq19, hq20⟩
      cases hv
      have hfr := hfr.tr hfk (by decide)
      have hlen := hlk.trans hlen
      have hsl := hsk.trans hsl
      have h80 := hN80
      have h91 := hN91
      have h92 := hN92
      change ab_W _ _ _ G12 34 [some (vR 80), some (vz a), some (vz b)] [] _
      refine ab_vret rfl d_MO_storeCut_34 ?_
      rw [hQ]; exact ⟨_, _, _, rfl, hfr, hlen, hsl, h80, h91, h92, (by first | exact hq16 | exact rgs_w hq16 (by omega)), (by first | exact hq17 | exact rgs_w hq17 (by omega)), (by omega), (by intro _; omega), (by exact stq_cut jst hq (by omega) (by omega) (by omega) (by omega) hq10 hq20), (by have t_ := jst.1; exact (jkx.stq hq10 t_).stq hq20 (by omega))⟩
    · refine ab_iload_n d_MO_storeCut_24 rfl ?_
      refine ab_goto (tgt := 30) d_MO_storeCut_25 (by decide) ?_
      refine ab_iload_n d_MO_storeCut_30 rfl ?_
      refine ab_callV (d' := d - 1) (as := [vz a, vz b]) (st := []) (r := _) (z_MO_store (o := o) (m_thrown := m_thrown) (m_taped := m_taped) (m_length := m_length) (m_out := m_out) (m_wide := m_wide) (m_gathered := m_gathered) (m_sets := m_sets) (m_ranges := r23) (m_nodes := m_nodes) (m_at := m_at) (m_flags := m_flags) (m_fault := m_fault) (m_place := m_place) (m_numbered := m_numbered) (m_depth := m_depth) (m_value := m_value) (m_isNot := m_isNot) (m_least0 := m_least0) (m_most0 := m_most0) (m_slot := m_slot) (m_work := m_work) (m_got := m_got) (m_rowMany := m_rowMany) (m_charAt := m_charAt) (m_charWide := m_charWide) (m_trail := m_trail) (m_isMatch := m_isMatch) (m_matchGroups := m_matchGroups) (m_allFrom := m_allFrom) (m_allBefore := m_allBefore) (m_founds := m_founds) (m_pieces := m_pieces) (m_writtenMany := m_writtenMany) (m_templateWide := m_templateWide) (m_tooMuch := m_tooMuch) (RL := RL24) (RH := RH25) (a := a) (b := b) h80 h91 h92 (by omega) (by omega) (by omega) (by omega) hq6 hq7) (fun oc G2 h => by rcases h with ⟨_, _, _, h, _⟩ <;> exact ⟨_, h⟩) (by omega) m_MO_store ml_MO_252 im_MO_store se_MO_store c_MO h80.2.2 (Nat.le_of_ble_eq_true rfl) d_MO_storeCut_31 rfl ?_
      intro v G21 hq
      rcases hq with ⟨r222, RL223, RH224, hv, hfk, hlk, hsk, hN80, hN91, hN92, hq25, hq26, hq27, hq28, hq29⟩
      cases hv
      have hfr := hfr.tr hfk (by decide)
      have hlen := hlk.trans hlen
      have hsl := hsk.trans hsl
      have h80 := hN80
      have h91 := hN91
      have h92 := hN92
      change ab_W _ _ _ G21 34 [some (vR 80), some (vz a), some (vz b)] [] _
      refine ab_vret rfl d_MO_storeCut_34 ?_
      rw [hQ]; exact ⟨_, _, _, rfl, hfr, hlen, hsl, h80, h91, h92, (by first | exact hq25 | exact rgs_w hq25 (by omega)), (by first | exact hq26 | exact rgs_w hq26 (by omega)), (by omega), (by intro _; omega), (by exact stq_cut jst hq (by omega) (by omega) (by omega) (by omega) hq10 hq29), (by have t_ := jst.1; exact (jkx.stq hq10 t_).stq hq29 (by omega))⟩
  · refine ab_iload_n d_MO_storeCut_8 rfl ?_
    refine ab_goto (tgt := 14) d_MO_storeCut_9 (by decide) ?_
    refine ab_callV (d' := d - 1) (as := [vz a, vz b]) (st := []) (r := _) (z_MO_store (o := o) (m_thrown := m_thrown) (m_taped := m_taped) (m_length := m_length) (m_out := m_out) (m_wide := m_wide) (m_gathered := m_gathered) (m_sets := m_sets) (m_ranges := m_ranges) (m_nodes := m_nodes) (m_at := m_at) (m_flags := m_flags) (m_fault := m_fault) (m_place := m_place) (m_numbered := m_numbered) (m_depth := m_depth) (m_value := m_value) (m_isNot := m_isNot) (m_least0 := m_least0) (m_most0 := m_most0) (m_slot := m_slot) (m_work := m_work) (m_got := m_got) (m_rowMany := m_rowMany) (m_charAt := m_charAt) (m_charWide := m_charWide) (m_trail := m_trail) (m_isMatch := m_isMatch) (m_matchGroups := m_matchGroups) (m_allFrom := m_allFrom) (m_allBefore := m_allBefore) (m_founds := m_founds) (m_pieces := m_pieces) (m_writtenMany := m_writtenMany) (m_templateWide := m_templateWide) (m_tooMuch := m_tooMuch) (RL := RL) (RH := RH) (a := a) (b := b) h80 h91 h92 (by omega) (by omega) (by omega) (by omega) jrl jrh) (fun oc G2 h => by rcases h with ⟨_, _, _, h, _⟩ <;> exact ⟨_, h⟩) (by omega) m_MO_store ml_MO_252 im_MO_store se_MO_store c_MO h80.2.2 (Nat.le_of_ble_eq_true rfl) d_MO_storeCut_14 rfl ?_
    intro v G30 hq
    rcases hq with ⟨r231, RL232, RH233, hv, hfk, hlk, hsk, hN80, hN91, hN92, hq34, hq35, hq36, hq37, hq38⟩
    cases hv
    have hfr := hfr.tr hfk (by decide)
    have hlen := hlk.trans hlen
    have hsl := hsk.trans hsl
    have h80 := hN80
    have h91 := hN91
    have h92 := hN92
    change ab_W _ _ _ G30 17 [some (vR 80), some (vz a), some (vz b)] [] _
    refine ab_aload_n d_MO_storeCut_17 rfl ?_
    refine ab_iload_n d_MO_storeCut_18 rfl ?_
    refine zz_ldc 57344 d_MO_storeCut_19 cn_MO_234 (by decide) ?_
    refine zz_icmp_le (tgt := 28) d_MO_storeCut_21 (by decide) (by omega) (by decide) (fun c39 => ?_) (fun c39 => ?_)
    · refine zz_ldc 57344 d_MO_storeCut_28 cn_MO_234 (by decide) ?_
      refine ab_iload_n d_MO_storeCut_30 rfl ?_
      refine ab_callV (d' := d - 1) (as := [vz 57344, vz b]) (st := []) (r := _) (z_MO_store (o := o) (m_thrown := m_thrown) (m_taped := m_taped) (m_length := m_length) (m_out := m_out) (m_wide := m_wide) (m_gathered := m_gathered) (m_sets := m_sets) (m_ranges := r231) (m_nodes := m_nodes) (m_at := m_at) (m_flags := m_flags) (m_fault := m_fault) (m_place := m_place) (m_numbered := m_numbered) (m_depth := m_depth) (m_value := m_value) (m_isNot := m_isNot) (m_least0 := m_least0) (m_most0 := m_most0) (m_slot := m_slot) (m_work := m_work) (m_got := m_got) (m_rowMany := m_rowMany) (m_charAt := m_charAt) (m_charWide := m_charWide) (m_trail := m_trail) (m_isMatch := m_isMatch) (m_matchGroups := m_matchGroups) (m_allFrom := m_allFrom) (m_allBefore := m_allBefore) (m_founds := m_founds) (m_pieces := m_pieces) (m_writtenMany := m_writtenMany) (m_templateWide := m_templateWide) (m_tooMuch := m_tooMuch) (RL := RL232) (RH := RH233) (a := 57344) (b := b) h80 h91 h92 (by omega) (by omega) (by omega) (by omega) hq34 hq35) (fun oc G2 h => by rcases h with ⟨_, _, _, h, _⟩ <;> exact ⟨_, h⟩) (by omega) m_MO_store ml_MO_252 im_MO_store se_MO_store c_MO h80.2.2 (Nat.le_of_ble_eq_true rfl) d_MO_storeCut_31 rfl ?_
      intro v G40 hq
      rcases hq with ⟨r241, RL242, RH243, hv, hfk, hlk, hsk, hN80, hN91, hN92, hq44, hq45, hq46, hq47, hq48⟩
      cases hv
      have hfr := hfr.tr hfk (by decide)
      have hlen := hlk.trans hlen
      have hsl := hsk.trans hsl
      have h80 := hN80
      have h91 := hN91
      have h92 := hN92
      change ab_W _ _ _ G40 34 [some (vR 80), some (vz a), some (vz b)] [] _
      refine ab_vret rfl d_MO_storeCut_34 ?_
      rw [hQ]; exact ⟨_, _, _, rfl, hfr, hlen, hsl, h80, h91, h92, (by first | exact hq44 | exact rgs_w hq44 (by omega)), (by first | exact hq45 | exact rgs_w hq45 (by omega)), (by omega), (by intro _; omega), (by exact stq_cut jst hq (by omega) (by omega) (by omega) (by omega) hq38 hq48), (by have t_ := jst.1; exact (jkx.stq hq38 t_).stq hq48 (by omega))⟩
    · refine ab_iload_n d_MO_storeCut_24 rfl ?_
      refine ab_goto (tgt := 30) d_MO_storeCut_25 (by decide) ?_
      refine ab_iload_n d_MO_storeCut_30 rfl ?_
      refine ab_callV (d' := d - 1) (as := [vz a, vz b]) (st := []) (r := _) (z_MO_store (o := o) (m_thrown := m_thrown) (m_taped := m_taped) (m_length := m_length) (m_out := m_out) (m_wide := m_wide) (m_gathered := m_gathered) (m_sets := m_sets) (m_ranges := r231) (m_nodes := m_nodes) (m_at := m_at) (m_flags := m_flags) (m_fault := m_fault) (m_place := m_place) (m_numbered := m_numbered) (m_depth := m_depth) (m_value := m_value) (m_isNot := m_isNot) (m_least0 := m_least0) (m_most0 := m_most0) (m_slot := m_slot) (m_work := m_work) (m_got := m_got) (m_rowMany := m_rowMany) (m_charAt := m_charAt) (m_charWide := m_charWide) (m_trail := m_trail) (m_isMatch := m_isMatch) (m_matchGroups := m_matchGroups) (m_allFrom := m_allFrom) (m_allBefore := m_allBefore) (m_founds := m_founds) (m_pieces := m_pieces) (m_writtenMany := m_writtenMany) (m_templateWide := m_templateWide) (m_tooMuch := m_tooMuch) (RL := RL232) (RH := RH233) (a := a) (b := b) h80 h91 h92 (by omega) (by omega) (by omega) (by omega) hq34 hq35) (fun oc G2 h => by rcases h with ⟨_, _, _, h, _⟩ <;> exact ⟨_, h⟩) (by omega) m_MO_store ml_MO_252 im_MO_store se_MO_store c_MO h80.2.2 (Nat.le_of_ble_eq_true rfl) d_MO_storeCut_31 rfl ?_
      intro v G49 hq
      rcases hq with ⟨r250, RL251, RH252, hv, hfk, hlk, hsk, hN80, hN91, hN92, hq53, hq54, hq55, hq56, hq57⟩
      cases hv
      have hfr := hfr.tr hfk (by decide)
      have hlen := hlk.trans hlen
      have hsl := hsk.trans hsl
      have h80 := hN80
      have h91 := hN91
      have h92 := hN92
      change ab_W _ _ _ G49 34 [some (vR 80), some (vz a), some (vz b)] [] _
      refine ab_vret rfl d_MO_storeCut_34 ?_
      rw [hQ]; exact ⟨_, _, _, rfl, hfr, hlen, hsl, h80, h91, h92, (by first | exact hq53 | exact rgs_w hq53 (by omega)), (by first | exact hq54 | exact rgs_w hq54 (by omega)), (by omega), (by intro _; omega), (by exact stq_cut jst hq (by omega) (by omega) (by omega) (by omega) hq38 hq57), (by have t_ := jst.1; exact (jkx.stq hq38 t_).stq hq57 (by omega))⟩
set_option maxRecDepth 100000 in
set_option maxHeartbeats 4000000 in
theorem y_MO_close_32 {X : ab_X} {d : Nat} {Q : Outcome → ab_G → Prop} {o : Nat → Nat} {G0 : ab_G} {m_thrown : Int} {m_taped : Int} {m_length : Int} {m_out : Int} {m_wide : Int} {m_gathered : Int} {m_sets : Int} {m_ranges : Int} {m_nodes : Int} {m_at : Int} {m_flags : Int} {m_fault : Int} {m_place : Int} {m_numbered : Int} {m_depth : Int} {m_value : Int} {m_isNot : Int} {m_least0 : Int} {m_most0 : Int} {m_slot : Int} {m_work : Int} {m_got : Int} {m_rowMany : Int} {m_charAt : Int} {m_charWide : Int} {m_trail : Int} {m_isMatch : Int} {m_matchGroups : Int} {m_allFrom : Int} {m_allBefore : Int} {m_founds : Int} {m_pieces : Int} {m_writtenMany : Int} {m_templateWide : Int} {m_tooMuch : Int} {P : Int → Prop} {a : Int} {b : Int} {nt : Int} {i_ : Int} (n18 : ab_n0 = 18) (cgg : 0 ≤ m_gathered ∧ m_gathered ≤ 8990) (ck : 0 ≤ i_ ∧ i_ < m_gathered) (hd : 1 ≤ d) : ∀ (mz : Nat) {G : ab_G} {j : Int} {LO : Int → Int} {HI : Int → Int}, (cc o G 80 280 (ab_ob 12 (mof m_thrown m_taped m_length m_out m_wide m_gathered m_sets m_ranges m_nodes m_at m_flags m_fault m_place m_numbered m_depth m_value m_isNot m_least0 m_most0 m_slot m_work m_got m_rowMany m_charAt m_charWide m_trail m_isMatch m_matchGroups m_allFrom m_allBefore m_founds m_pieces m_writtenMany m_templateWide m_tooMuch))) → (cc o G 87 287 (za 9000 LO)) → (cc o G 88 288 (za 9000 HI)) → (0 ≤ j ∧ j ≤ i_) → (insI LO HI m_gathered i_ j a b P) → (fx o o [287, 288] G0 G) → (G.length = G0.length) → (ab_slots G = ab_slots G0) → (Int.toNat j < mz) → (∀ (G2 : ab_G) (j2 : Int) (LO2 : Int → Int) (HI2 : Int → Int), (cc o G2 87 287 (za 9000 LO2)) → (cc o G2 88 288 (za 9000 HI2)) → (0 ≤ j2 ∧ j2 ≤ i_) → (insI LO2 HI2 m_gathered i_ j2 a b P) → (j2 = 0 ∨ LO2 (j2 - 1) ≤ a) → (fx o o [287, 288] G0 G2) → (G2.length = G0.length) → (ab_slots G2 = ab_slots G0) → ab_W X (ab_pl y_MO_close b_MO_close 6 (some (.int))) d G2 88 [some (vR 80), some (vz nt), some (vz i_), some (vz a), some (vz b), some (vz j2)] [] Q) → ab_W X (ab_pl y_MO_close b_MO_close 6 (some (.int))) d G 32 [some (vR 80), some (vz nt), some (vz i_), some (vz a), some (vz b), some (vz j)] [] Q := by
  intro mz
  induction mz with
  | zero => intro G j LO HI h80 h87 h88 ci ji hfr hlen hsl hm hk0; exact absurd hm (Nat.not_lt_zero _)
  | succ mz ih =>
    intro G j LO HI h80 h87 h88 ci ji hfr hlen hsl hm hk0
    have hab_ := ji.2.1
    refine ab_iload d_MO_close_32 rfl ?_
    refine zz_if_le (tgt := 88) d_MO_close_34 (by decide) (by omega) (fun c1 => ?_) (fun c1 => ?_)
    · exact hk0 _ _ _ _ h87 h88 (by omega) (by exact ji) (by first | (left; omega) | (right; omega)) hfr hlen hsl
    · have hb_ := ji.1 (j - 1) (by omega) (by omega) (by omega)
      refine ab_aload_n d_MO_close_37 rfl ?_
      refine ab_getf (fs := mof m_thrown m_taped m_length m_out m_wide m_gathered m_sets m_ranges m_nodes m_at m_flags m_fault m_place m_numbered m_depth m_value m_isNot m_least0 m_most0 m_slot m_work m_got m_rowMany m_charAt m_charWide m_trail m_isMatch m_matchGroups m_allFrom m_allBefore m_founds m_pieces m_writtenMany m_templateWide m_tooMuch) f_MO_28 d_MO_close_38 h80.2.2 rfl ?_
      refine ab_iload d_MO_close_41 rfl ?_
      refine zz_iconst d_MO_close_43 ?_
      refine zz_isub d_MO_close_44 ?_
      refine zz_iald d_MO_close_45 h87 (by omega) ?_
      refine ab_iload_n d_MO_close_46 rfl ?_
      refine zz_icmp_le (tgt := 88) d_MO_close_47 (by decide) (by omega) (by omega) (fun c2 => ?_) (fun c2 => ?_)
      · exact hk0 _ _ _ _ h87 h88 (by omega) (by exact ji) (by first | (left; omega) | (right; omega)) hfr hlen hsl
      · refine ab_aload_n d_MO_close_50 rfl ?_
        refine ab_getf (fs := mof m_thrown m_taped m_length m_out m_wide m_gathered m_sets m_ranges m_nodes m_at m_flags m_fault m_place m_numbered m_depth m_value m_isNot m_least0 m_most0 m_slot m_work m_got m_rowMany m_charAt m_charWide m_trail m_isMatch m_matchGroups m_allFrom m_allBefore m_founds m_pieces m_writtenMany m_templateWide m_tooMuch) f_MO_28 d_MO_close_51 h80.2.2 rfl ?_
        refine ab_iload d_MO_close_54 rfl ?_
        refine ab_aload_n d_MO_close_56 rfl ?_
        refine ab_getf (fs := mof m_thrown m_taped m_length m_out m_wide m_gathered m_sets m_ranges m_nodes m_at m_flags m_fault m_place m_numbered m_depth m_value m_isNot m_least0 m_most0 m_slot m_work m_got m_rowMany m_charAt m_charWide m_trail m_isMatch m_matchGroups m_allFrom m_allBefore m_founds m_pieces m_writtenMany m_templateWide m_tooMuch) f_MO_28 d_MO_close_57 h80.2.2 rfl ?_
        refine ab_iload d_MO_close_60 rfl ?_
        refine zz_iconst d_MO_close_62 ?_
        refine zz_isub d_MO_close_63 ?_
        refine zz_iald d_MO_close_64 h87 (by omega) ?_
        refine zz_iast d_MO_close_65 h87 (by omega) (h87.2.1 (by decide)) ?_
        obtain ⟨G3, eG3⟩ : ∃ z : ab_G, z = List.set G 87 (za 9000 (zu LO j (LO (j - 1)))) := ⟨_, rfl⟩
        have h80 := h80.keep h87 eG3 (by decide)
        have h88 := h88.keep h87 eG3 (by decide)
        have hlen := (z_len eG3).trans hlen
        have hsl := (z_sl h87 eG3 rfl).trans hsl
        have hfr := hfr.wr h87 eG3 (by decide)
        have h87 := h87.kept eG3
        change ab_W _ _ _ (List.set G 87 (za 9000 (zu LO j (LO (j - 1))))) 66 [some (vR 80), some (vz nt), some (vz i_), some (vz a), some (vz b), some (vz j)] [] _
        rw [← eG3]
        refine ab_aload_n d_MO_close_66 rfl ?_
        refine ab_getf (fs := mof m_thrown m_taped m_length m_out m_wide m_gathered m_sets m_ranges m_nodes m_at m_flags m_fault m_place m_numbered m_depth m_value m_isNot m_least0 m_most0 m_slot m_work m_got m_rowMany m_charAt m_charWide m_trail m_isMatch m_matchGroups m_allFrom m_allBefore m_founds m_pieces m_writtenMany m_templateWide m_tooMuch) f_MO_31 d_MO_close_67 h80.2.2 rfl ?_
        refine ab_iload d_MO_close_70 rfl ?_
        refine ab_aload_n d_MO_close_72 rfl ?_
        refine ab_getf (fs := mof m_thrown m_taped m_length m_out m_wide m_gathered m_sets m_ranges m_nodes m_at m_flags m_fault m_place m_numbered m_depth m_value m_isNot m_least0 m_most0 m_slot m_work m_got m_rowMany m_charAt m_charWide m_trail m_isMatch m_matchGroups m_allFrom m_allBefore m_founds m_pieces m_writtenMany m_templateWide m_tooMuch) f_MO_31 d_MO_close_73 h80.2.2 rfl ?_
        refine ab_iload d_MO_close_76 rfl ?_
        refine zz_iconst d_MO_close_78 ?_
        refine zz_isub d_MO_close_79 ?_
        refine zz_iald d_MO_close_80 h88 (by omega) ?_
        refine zz_iast d_MO_close_81 h88 (by omega) (h88.2.1 (by decide)) ?_
        obtain ⟨G4, eG4⟩ : ∃ z : ab_G, z = List.set G3 88 (za 9000 (zu HI j (HI (j - 1)))) := ⟨_, rfl⟩
        have h80 := h80.keep h88 eG4 (by decide)
        have h87 := h87.keep h88 eG4 (by decide)
        have hlen := (z_len eG4).trans hlen
        have hsl := (z_sl h88 eG4 rfl).trans hsl
        have hfr := hfr.wr h88 eG4 (by decide)
        have h88 := h88.kept eG4
        change ab_W _ _ _ (List.set G3 88 (za 9000 (zu HI j (HI (j - 1))))) 82 [some (vR 80), some (vz nt), some (vz i_), some (vz a), some (vz b), some (vz j)] [] _
        rw [← eG4]
        refine zz_iinc d_MO_close_82 rfl (Nat.le_of_ble_eq_true rfl) (Nat.le_of_ble_eq_true rfl) rfl ?_
        change ab_W _ _ _ G4 85 [some (vR 80), some (vz nt), some (vz i_), some (vz a), some (vz b), some (vz (j + (-1)))] [] _
        refine ab_goto (tgt := 32) d_MO_close_85 (by decide) ?_
        exact ih (j := (j + (-1))) (LO := (zu LO j (LO (j - 1)))) (HI := (zu HI j (HI (j - 1)))) h80 h87 h88 (by omega) (by rw [show j + -1 = j - 1 by omega]; exact insI_s ji (by omega) (by omega)) hfr hlen hsl (by omega) hk0
set_option maxRecDepth 100000 in
set_option maxHeartbeats 4000000 in
theorem y_MO_close_6 {X : ab_X} {d : Nat} {Q : Outcome → ab_G → Prop} {o : Nat → Nat} {G0 : ab_G} {m_thrown : Int} {m_taped : Int} {m_length : Int} {m_out : Int} {m_wide : Int} {m_gathered : Int} {m_sets : Int} {m_ranges : Int} {m_nodes : Int} {m_at : Int} {m_flags : Int} {m_fault : Int} {m_place : Int} {m_numbered : Int} {m_depth : Int} {m_value : Int} {m_isNot : Int} {m_least0 : Int} {m_most0 : Int} {m_slot : Int} {m_work : Int} {m_got : Int} {m_rowMany : Int} {m_charAt : Int} {m_charWide : Int} {m_trail : Int} {m_isMatch : Int} {m_matchGroups : Int} {m_allFrom : Int} {m_allBefore : Int} {m_founds : Int} {m_pieces : Int} {m_writtenMany : Int} {m_templateWide : Int} {m_tooMuch : Int} {P : Int → Prop} {nt : Int} (n18 : ab_n0 = 18) (cgg : 0 ≤ m_gathered ∧ m_gathered ≤ 8990) (hd : 2 ≤ d) : ∀ (mz : Nat) {G : ab_G} {i_ : Int} {LO : Int → Int} {HI : Int → Int}, (cc o G 80 280 (ab_ob 12 (mof m_thrown m_taped m_length m_out m_wide m_gathered m_sets m_ranges m_nodes m_at m_flags m_fault m_place m_numbered m_depth m_value m_isNot m_least0 m_most0 m_slot m_work m_got m_rowMany m_charAt m_charWide m_trail m_isMatch m_matchGroups m_allFrom m_allBefore m_founds m_pieces m_writtenMany m_templateWide m_tooMuch))) → (cc o G 87 287 (za 9000 LO)) → (cc o G 88 288 (za 9000 HI)) → (1 ≤ i_ ∧ i_ ≤ m_gathered + 1) → (srtI LO HI m_gathered i_ P) → (fx o o [287, 288] G0 G) → (G.length = G0.length) → (ab_slots G = ab_slots G0) → (Int.toNat (m_gathered + 1 - i_) < mz) → (∀ (G2 : ab_G) (LO2 : Int → Int) (HI2 : Int → Int), (cc o G2 87 287 (za 9000 LO2)) → (cc o G2 88 288 (za 9000 HI2)) → (mrgI LO2 HI2 m_gathered 0 0 P) → (fx o o [287, 288] G0 G2) → (G2.length = G0.length) → (ab_slots G2 = ab_slots G0) → ab_W X (ab_pl y_MO_close b_MO_close 6 (some (.int))) d G2 111 [some (vR 80), some (vz nt), none, none, none, none] [] Q) → ab_W X (ab_pl y_MO_close b_MO_close 6 (some (.int))) d G 6 [some (vR 80), some (vz nt), some (vz i_), none, none, none] [] Q := by
  intro mz
  induction mz with
  | zero => intro G i_ LO HI h80 h87 h88 ci js hfr hlen hsl hm hk0; exact absurd hm (Nat.not_lt_zero _)
  | succ mz ih =>
    intro G i_ LO HI h80 h87 h88 ci js hfr hlen hsl hm hk0
    refine ab_iload_n d_MO_close_6 rfl ?_
    refine ab_aload_n d_MO_close_7 rfl ?_
    refine ab_getf (fs := mof m_thrown m_taped m_length m_out m_wide m_gathered m_sets m_ranges m_nodes m_at m_flags m_fault m_place m_numbered m_depth m_value m_isNot m_least0 m_most0 m_slot m_work m_got m_rowMany m_charAt m_charWide m_trail m_isMatch m_matchGroups m_allFrom m_allBefore m_founds m_pieces m_writtenMany m_templateWide m_tooMuch) f_MO_237 d_MO_close_8 h80.2.2 rfl ?_
    refine zz_icmp_ge (tgt := 111) d_MO_close_11 (by decide) (by omega) (by omega) (fun c1 => ?_) (fun c1 => ?_)
    · refine ab_less (L' := [some (vR 80), some (vz nt), none, none, none, none]) (fun i v h => by rcases i with _ | _ | _ | _ | _ | _ | i <;> first | exact h | (simp at h)) ?_
      exact hk0 _ _ _ h87 h88 (by exact mrgI_0 js (by omega)) hfr hlen hsl
    · refine ab_aload_n d_MO_close_14 rfl ?_
      refine ab_getf (fs := mof m_thrown m_taped m_length m_out m_wide m_gathered m_sets m_ranges m_nodes m_at m_flags m_fault m_place m_numbered m_depth m_value m_isNot m_least0 m_most0 m_slot m_work m_got m_rowMany m_charAt m_charWide m_trail m_isMatch m_matchGroups m_allFrom m_allBefore m_founds m_pieces m_writtenMany m_templateWide m_tooMuch) f_MO_28 d_MO_close_15 h80.2.2 rfl ?_
      refine ab_iload_n d_MO_close_18 rfl ?_
      refine zz_iald d_MO_close_19 h87 (by omega) ?_
      refine ab_istore_n d_MO_close_20 (Nat.le_of_ble_eq_true rfl) (Nat.le_of_ble_eq_true rfl) rfl ?_
      change ab_W _ _ _ G 21 [some (vR 80), some (vz nt), some (vz i_), some (vz (LO i_)), none, none] [] _
      refine ab_aload_n d_MO_close_21 rfl ?_
      refine ab_getf (fs := mof m_thrown m_taped m_length m_out m_wide m_gathered m_sets m_ranges m_nodes m_at m_flags m_fault m_place m_numbered m_depth m_value m_isNot m_least0 m_most0 m_slot m_work m_got m_rowMany m_charAt m_charWide m_trail m_isMatch m_matchGroups m_allFrom m_allBefore m_founds m_pieces m_writtenMany m_templateWide m_tooMuch) f_MO_31 d_MO_close_22 h80.2.2 rfl ?_
      refine ab_iload_n d_MO_close_25 rfl ?_
      refine zz_iald d_MO_close_26 h88 (by omega) ?_
      refine ab_istore d_MO_close_27 (Nat.le_of_ble_eq_true rfl) (Nat.le_of_ble_eq_true rfl) rfl ?_
      change ab_W _ _ _ G 29 [some (vR 80), some (vz nt), some (vz i_), some (vz (LO i_)), some (vz (HI i_)), none] [] _
      refine ab_iload_n d_MO_close_29 rfl ?_
      refine ab_istore d_MO_close_30 (Nat.le_of_ble_eq_true rfl) (Nat.le_of_ble_eq_true rfl) rfl ?_
      change ab_W _ _ _ G 32 [some (vR 80), some (vz nt), some (vz i_), some (vz (LO i_)), some (vz (HI i_)), some (vz i_)] [] _
      refine y_MO_close_32 (m_thrown := m_thrown) (m_taped := m_taped) (m_length := m_length) (m_out := m_out) (m_wide := m_wide) (m_gathered := m_gathered) (m_sets := m_sets) (m_ranges := m_ranges) (m_nodes := m_nodes) (m_at := m_at) (m_flags := m_flags) (m_fault := m_fault) (m_place := m_place) (m_numbered := m_numbered) (m_depth := m_depth) (m_value := m_value) (m_isNot := m_isNot) (m_least0 := m_least0) (m_most0 := m_most0) (m_slot := m_slot) (m_work := m_work) (m_got := m_got) (m_rowMany := m_rowMany) (m_charAt := m_charAt) (m_charWide := m_charWide) (m_trail := m_trail) (m_isMatch := m_isMatch) (m_matchGroups := m_matchGroups) (m_allFrom := m_allFrom) (m_allBefore := m_allBefore) (m_founds := m_founds) (m_pieces := m_pieces) (m_writtenMany := m_writtenMany) (m_templateWide := m_templateWide) (m_tooMuch := m_tooMuch) (P := P) (a := (LO i_)) (b := (HI i_)) (nt := nt) (i_ := i_) (G0 := G) (j := i_) (LO := LO) (HI := HI) (by omega) (by omega) (by omega) (by omega) (Int.toNat i_ + 1) h80 h87 h88 (by omega) (insI_0 js (by omega)) fx.rf rfl rfl (by omega) (fun G2 j23 LO24 HI25 hN87 hN88 hq6 hq7 hq8 hfk hlk hsk => ?_)
      · have h80 := hfk.get h80 (by decide)
        have hfr := hfr.tr hfk (by decide)
        have hlen := hlk.trans hlen
        have hsl := hsk.trans hsl
        have h87 := hN87
        have h88 := hN88
        change ab_W _ _ _ G2 88 [some (vR 80), some (vz nt), some (vz i_), some (vz (LO i_)), some (vz (HI i_)), some (vz j23)] [] _
        refine ab_aload_n d_MO_close_88 rfl ?_
        refine ab_getf (fs := mof m_thrown m_taped m_length m_out m_wide m_gathered m_sets m_ranges m_nodes m_at m_flags m_fault m_place m_numbered m_depth m_value m_isNot m_least0 m_most0 m_slot m_work m_got m_rowMany m_charAt m_charWide m_trail m_isMatch m_matchGroups m_allFrom m_allBefore m_founds m_pieces m_writtenMany m_templateWide m_tooMuch) f_MO_28 d_MO_close_89 h80.2.2 rfl ?_
        refine ab_iload d_MO_close_92 rfl ?_
        refine ab_iload_n d_MO_close_94 rfl ?_
        refine zz_iast d_MO_close_95 h87 (by omega) (h87.2.1 (by decide)) ?_
        obtain ⟨G9, eG9⟩ : ∃ z : ab_G, z = List.set G2 87 (za 9000 (zu LO24 j23 (LO i_))) := ⟨_, rfl⟩
        have h80 := h80.keep h87 eG9 (by decide)
        have h88 := h88.keep h87 eG9 (by decide)
        have hlen := (z_len eG9).trans hlen
        have hsl := (z_sl h87 eG9 rfl).trans hsl
        have hfr := hfr.wr h87 eG9 (by decide)
        have h87 := h87.kept eG9
        change ab_W _ _ _ (List.set G2 87 (za 9000 (zu LO24 j23 (LO i_)))) 96 [some (vR 80), some (vz nt), some (vz i_), some (vz (LO i_)), some (vz (HI i_)), some (vz j23)] [] _
        rw [← eG9]
        refine ab_aload_n d_MO_close_96 rfl ?_
        refine ab_getf (fs := mof m_thrown m_taped m_length m_out m_wide m_gathered m_sets m_ranges m_nodes m_at m_flags m_fault m_place m_numbered m_depth m_value m_isNot m_least0 m_most0 m_slot m_work m_got m_rowMany m_charAt m_charWide m_trail m_isMatch m_matchGroups m_allFrom m_allBefore m_founds m_pieces m_writtenMany m_templateWide m_tooMuch) f_MO_31 d_MO_close_97 h80.2.2 rfl ?_
        refine ab_iload d_MO_close_100 rfl ?_
        refine ab_iload d_MO_close_102 rfl ?_
        refine zz_iast d_MO_close_104 h88 (by omega) (h88.2.1 (by decide)) ?_
        obtain ⟨G10, eG10⟩ : ∃ z : ab_G, z = List.set G9 88 (za 9000 (zu HI25 j23 (HI i_))) := ⟨_, rfl⟩
        have h80 := h80.keep h88 eG10 (by decide)
        have h87 := h87.keep h88 eG10 (by decide)
        have hlen := (z_len eG10).trans hlen
        have hsl := (z_sl h88 eG10 rfl).trans hsl
        have hfr := hfr.wr h88 eG10 (by decide)
        have h88 := h88.kept eG10
        change ab_W _ _ _ (List.set G9 88 (za 9000 (zu HI25 j23 (HI i_)))) 105 [some (vR 80), some (vz nt), some (vz i_), some (vz (LO i_)), some (vz (HI i_)), some (vz j23)] [] _
        rw [← eG10]
        refine zz_iinc d_MO_close_105 rfl (Nat.le_of_ble_eq_true rfl) (Nat.le_of_ble_eq_true rfl) rfl ?_
        change ab_W _ _ _ G10 108 [some (vR 80), some (vz nt), some (vz (i_ + 1)), some (vz (LO i_)), some (vz (HI i_)), some (vz j23)] [] _
        refine ab_goto (tgt := 6) d_MO_close_108 (by decide) ?_
        refine ab_less (L' := [some (vR 80), some (vz nt), some (vz (i_ + 1)), none, none, none]) (fun i v h => by rcases i with _ | _ | _ | _ | _ | _ | i <;> first | exact h | (simp at h)) ?_
        exact ih (i_ := (i_ + 1)) (LO := (zu LO24 j23 (LO i_))) (HI := (zu HI25 j23 (HI i_))) h80 h87 h88 (by omega) (insI_e hq7 (by omega) hq8) hfr hlen hsl (by omega) hk0
set_option maxRecDepth 100000 in
set_option maxHeartbeats 4000000 in
theorem y_MO_close_115 {X : ab_X} {d : Nat} {Q : Outcome → ab_G → Prop} {o : Nat → Nat} {G0 : ab_G} {m_thrown : Int} {m_taped : Int} {m_length : Int} {m_out : Int} {m_wide : Int} {m_gathered : Int} {m_sets : Int} {m_ranges : Int} {m_nodes : Int} {m_at : Int} {m_flags : Int} {m_fault : Int} {m_place : Int} {m_numbered : Int} {m_depth : Int} {m_value : Int} {m_isNot : Int} {m_least0 : Int} {m_most0 : Int} {m_slot : Int} {m_work : Int} {m_got : Int} {m_rowMany : Int} {m_charAt : Int} {m_charWide : Int} {m_trail : Int} {m_isMatch : Int} {m_matchGroups : Int} {m_allFrom : Int} {m_allBefore : Int} {m_founds : Int} {m_pieces : Int} {m_writtenMany : Int} {m_templateWide : Int} {m_tooMuch : Int} {P : Int → Prop} {nt : Int} {mm : Int} (n18 : ab_n0 = 18) (cgg : 0 ≤ m_gathered ∧ m_gathered ≤ 8990) (jl : lfc P mm) (hd : 1 ≤ d) : ∀ (mz : Nat) {G : ab_G} {i_ : Int} {n : Int} {LO : Int → Int} {HI : Int → Int}, (cc o G 80 280 (ab_ob 12 (mof m_thrown m_taped m_length m_out m_wide m_gathered m_sets m_ranges m_nodes m_at m_flags m_fault m_place m_numbered m_depth m_value m_isNot m_least0 m_most0 m_slot m_work m_got m_rowMany m_charAt m_charWide m_trail m_isMatch m_matchGroups m_allFrom m_allBefore m_founds m_pieces m_writtenMany m_templateWide m_tooMuch))) → (cc o G 87 287 (za 9000 LO)) → (cc o G 88 288 (za 9000 HI)) → (0 ≤ n ∧ n ≤ i_ ∧ i_ ≤ m_gathered) → (mrgI LO HI m_gathered i_ n P) → (fx o o [287, 288] G0 G) → (G.length = G0.length) → (ab_slots G = ab_slots G0) → (Int.toNat (m_gathered - i_) < mz) → (∀ (G2 : ab_G) (n2 : Int) (LO2 : Int → Int) (HI2 : Int → Int), (cc o G2 87 287 (za 9000 LO2)) → (cc o G2 88 288 (za 9000 HI2)) → (0 ≤ n2 ∧ n2 ≤ mm ∧ n2 ≤ m_gathered) → (gcan LO2 HI2 n2) → (∀ x : Int, P x ↔ gm LO2 HI2 n2 x) → (fx o o [287, 288] G0 G2) → (G2.length = G0.length) → (ab_slots G2 = ab_slots G0) → ab_W X (ab_pl y_MO_close b_MO_close 6 (some (.int))) d G2 224 [some (vR 80), some (vz nt), some (vz n2), none, none, none] [] Q) → ab_W X (ab_pl y_MO_close b_MO_close 6 (some (.int))) d G 115 [some (vR 80), some (vz nt), some (vz n), some (vz i_), none, none] [] Q := by
  intro mz
  induction mz with
  | zero => intro G i_ n LO HI h80 h87 h88 ci jm hfr hlen hsl hm hk0; exact absurd hm (Nat.not_lt_zero _)
  | succ mz ih =>
    intro G i_ n LO HI h80 h87 h88 ci jm hfr hlen hsl hm hk0
    refine ab_iload_n d_MO_close_115 rfl ?_
    refine ab_aload_n d_MO_close_116 rfl ?_
    refine ab_getf (fs := mof m_thrown m_taped m_length m_out m_wide m_gathered m_sets m_ranges m_nodes m_at m_flags m_fault m_place m_numbered m_depth m_value m_isNot m_least0 m_most0 m_slot m_work m_got m_rowMany m_charAt m_charWide m_trail m_isMatch m_matchGroups m_allFrom m_allBefore m_founds m_pieces m_writtenMany m_templateWide m_tooMuch) f_MO_237 d_MO_close_117 h80.2.2 rfl ?_
    refine zz_icmp_ge (tgt := 224) d_MO_close_120 (by decide) (by omega) (by omega) (fun c1 => ?_) (fun c1 => ?_)
    · refine ab_less (L' := [some (vR 80), some (vz nt), some (vz n), none, none, none]) (fun i v h => by rcases i with _ | _ | _ | _ | _ | _ | i <;> first | exact h | (simp at h)) ?_
      exact hk0 _ _ _ _ h87 h88 (by have t_ := (mrgI_e jm (by omega) (by omega) jl).2.2; omega) (by exact (mrgI_e jm (by omega) (by omega) jl).1) (by exact (mrgI_e jm (by omega) (by omega) jl).2.1) hfr hlen hsl
    · have hbk_ := jm.2.1 i_ (by omega) (by omega)
      refine ab_iload_n d_MO_close_123 rfl ?_
      refine zz_if_le (tgt := 191) d_MO_close_124 (by decide) (by omega) (fun c2 => ?_) (fun c2 => ?_)
      · refine ab_aload_n d_MO_close_191 rfl ?_
        refine ab_getf (fs := mof m_thrown m_taped m_length m_out m_wide m_gathered m_sets m_ranges m_nodes m_at m_flags m_fault m_place m_numbered m_depth m_value m_isNot m_least0 m_most0 m_slot m_work m_got m_rowMany m_charAt m_charWide m_trail m_isMatch m_matchGroups m_allFrom m_allBefore m_founds m_pieces m_writtenMany m_templateWide m_tooMuch) f_MO_28 d_MO_close_192 h80.2.2 rfl ?_
        refine ab_iload_n d_MO_close_195 rfl ?_
        refine ab_aload_n d_MO_close_196 rfl ?_
        refine ab_getf (fs := mof m_thrown m_taped m_length m_out m_wide m_gathered m_sets m_ranges m_nodes m_at m_flags m_fault m_place m_numbered m_depth m_value m_isNot m_least0 m_most0 m_slot m_work m_got m_rowMany m_charAt m_charWide m_trail m_isMatch m_matchGroups m_allFrom m_allBefore m_founds m_pieces m_writtenMany m_templateWide m_tooMuch) f_MO_28 d_MO_close_197 h80.2.2 rfl ?_
        refine ab_iload_n d_MO_close_200 rfl ?_
        refine zz_iald d_MO_close_201 h87 (by omega) ?_
        refine zz_iast d_MO_close_202 h87 (by omega) (h87.2.1 (by decide)) ?_
        obtain ⟨G3, eG3⟩ : ∃ z : ab_G, z = List.set G 87 (za 9000 (zu LO n (LO i_))) := ⟨_, rfl⟩
        have h80 := h80.keep h87 eG3 (by decide)
        have h88 := h88.keep h87 eG3 (by decide)
        have hlen := (z_len eG3).trans hlen
        have hsl := (z_sl h87 eG3 rfl).trans hsl
        have hfr := hfr.wr h87 eG3 (by decide)
        have h87 := h87.kept eG3
        change ab_W _ _ _ (List.set G 87 (za 9000 (zu LO n (LO i_)))) 203 [some (vR 80), some (vz nt), some (vz n), some (vz i_), none, none] [] _
        rw [← eG3]
        refine ab_aload_n d_MO_close_203 rfl ?_
        refine ab_getf (fs := mof m_thrown m_taped m_length m_out m_wide m_gathered m_sets m_ranges m_nodes m_at m_flags m_fault m_place m_numbered m_depth m_value m_isNot m_least0 m_most0 m_slot m_work m_got m_rowMany m_charAt m_charWide m_trail m_isMatch m_matchGroups m_allFrom m_allBefore m_founds m_pieces m_writtenMany m_templateWide m_tooMuch) f_MO_31 d_MO_close_204 h80.2.2 rfl ?_
        refine ab_iload_n d_MO_close_207 rfl ?_
        refine ab_aload_n d_MO_close_208 rfl ?_
        refine ab_getf (fs := mof m_thrown m_taped m_length m_out m_wide m_gathered m_sets m_ranges m_nodes m_at m_flags m_fault m_place m_numbered m_depth m_value m_isNot m_least0 m_most0 m_slot m_work m_got m_rowMany m_charAt m_charWide m_trail m_isMatch m_matchGroups m_allFrom m_allBefore m_founds m_pieces m_writtenMany m_templateWide m_tooMuch) f_MO_31 d_MO_close_209 h80.2.2 rfl ?_
        refine ab_iload_n d_MO_close_212 rfl ?_
        refine zz_iald d_MO_close_213 h88 (by omega) ?_
        refine zz_iast d_MO_close_214 h88 (by omega) (h88.2.1 (by decide)) ?_
        obtain ⟨G4, eG4⟩ : ∃ z : ab_G, z = List.set G3 88 (za 9000 (zu HI n (HI i_))) := ⟨_, rfl⟩
        have h80 := h80.keep h88 eG4 (by decide)
        have h87 := h87.keep h88 eG4 (by decide)
        have hlen := (z_len eG4).trans hlen
        have hsl := (z_sl h88 eG4 rfl).trans hsl
        have hfr := hfr.wr h88 eG4 (by decide)
        have h88 := h88.kept eG4
        change ab_W _ _ _ (List.set G3 88 (za 9000 (zu HI n (HI i_)))) 215 [some (vR 80), some (vz nt), some (vz n), some (vz i_), none, none] [] _
        rw [← eG4]
        refine zz_iinc d_MO_close_215 rfl (Nat.le_of_ble_eq_true rfl) (Nat.le_of_ble_eq_true rfl) rfl ?_
        change ab_W _ _ _ G4 218 [some (vR 80), some (vz nt), some (vz (n + 1)), some (vz i_), none, none] [] _
        refine zz_iinc d_MO_close_218 rfl (Nat.le_of_ble_eq_true rfl) (Nat.le_of_ble_eq_true rfl) rfl ?_
        change ab_W _ _ _ G4 221 [some (vR 80), some (vz nt), some (vz (n + 1)), some (vz (i_ + 1)), none, none] [] _
        refine ab_goto (tgt := 115) d_MO_close_221 (by decide) ?_
        exact ih (i_ := (i_ + 1)) (n := (n + 1)) (LO := (zu LO n (LO i_))) (HI := (zu HI n (HI i_))) h80 h87 h88 (by omega) (mrgI_n jm (by omega) (by omega)) hfr hlen hsl (by omega) hk0
      · have hbn_ := (jm.1 (n - 1) (by omega) (by omega)).1
        refine ab_aload_n d_MO_close_127 rfl ?_
        refine ab_getf (fs := mof m_thrown m_taped m_length m_out m_wide m_gathered m_sets m_ranges m_nodes m_at m_flags m_fault m_place m_numbered m_depth m_value m_isNot m_least0 m_most0 m_slot m_work m_got m_rowMany m_charAt m_charWide m_trail m_isMatch m_matchGroups m_allFrom m_allBefore m_founds m_pieces m_writtenMany m_templateWide m_tooMuch) f_MO_28 d_MO_close_128 h80.2.2 rfl ?_
        refine ab_iload_n d_MO_close_131 rfl ?_
        refine zz_iald d_MO_close_132 h87 (by omega) ?_
        refine ab_aload_n d_MO_close_133 rfl ?_
        refine ab_getf (fs := mof m_thrown m_taped m_length m_out m_wide m_gathered m_sets m_ranges m_nodes m_at m_flags m_fault m_place m_numbered m_depth m_value m_isNot m_least0 m_most0 m_slot m_work m_got m_rowMany m_charAt m_charWide m_trail m_isMatch m_matchGroups m_allFrom m_allBefore m_founds m_pieces m_writtenMany m_templateWide m_tooMuch) f_MO_31 d_MO_close_134 h80.2.2 rfl ?_
        refine ab_iload_n d_MO_close_137 rfl ?_
        refine zz_iconst d_MO_close_138 ?_
        refine zz_isub d_MO_close_139 ?_
        refine zz_iald d_MO_close_140 h88 (by omega) ?_
        refine zz_iconst d_MO_close_141 ?_
        refine zz_iadd d_MO_close_142 ?_
        refine zz_icmp_gt (tgt := 191) d_MO_close_143 (by decide) (by omega) (by omega) (fun c5 => ?_) (fun c5 => ?_)
        · refine ab_aload_n d_MO_close_191 rfl ?_
          refine ab_getf (fs := mof m_thrown m_taped m_length m_out m_wide m_gathered m_sets m_ranges m_nodes m_at m_flags m_fault m_place m_numbered m_depth m_value m_isNot m_least0 m_most0 m_slot m_work m_got m_rowMany m_charAt m_charWide m_trail m_isMatch m_matchGroups m_allFrom m_allBefore m_founds m_pieces m_writtenMany m_templateWide m_tooMuch) f_MO_28 d_MO_close_192 h80.2.2 rfl ?_
          refine ab_iload_n d_MO_close_195 rfl ?_
          refine ab_aload_n d_MO_close_196 rfl ?_
          refine ab_getf (fs := mof m_thrown m_taped m_length m_out m_wide m_gathered m_sets m_ranges m_nodes m_at m_flags m_fault m_place m_numbered m_depth m_value m_isNot m_least0 m_most0 m_slot m_work m_got m_rowMany m_charAt m_charWide m_trail m_isMatch m_matchGroups m_allFrom m_allBefore m_founds m_pieces m_writtenMany m_templateWide m_tooMuch) f_MO_28 d_MO_close_197 h80.2.2 rfl ?_
          refine ab_iload_n d_MO_close_200 rfl ?_
          refine zz_iald d_MO_close_201 h87 (by omega) ?_
          refine zz_iast d_MO_close_202 h87 (by omega) (h87.2.1 (by decide)) ?_
          obtain ⟨G6, eG6⟩ : ∃ z : ab_G, z = List.set G 87 (za 9000 (zu LO n (LO i_))) := ⟨_, rfl⟩
          have h80 := h80.keep h87 eG6 (by decide)
          have h88 := h88.keep h87 eG6 (by decide)
          have hlen := (z_len eG6).trans hlen
          have hsl := (z_sl h87 eG6 rfl).trans hsl
          have hfr := hfr.wr h87 eG6 (by decide)
          have h87 := h87.kept eG6
          change ab_W _ _ _ (List.set G 87 (za 9000 (zu LO n (LO i_)))) 203 [some (vR 80), some (vz nt), some (vz n), some (vz i_), none, none] [] _
          rw [← eG6]
          refine ab_aload_n d_MO_close_203 rfl ?_
          refine ab_getf (fs := mof m_thrown m_taped m_length m_out m_wide m_gathered m_sets m_ranges m_nodes m_at m_flags m_fault m_place m_numbered m_depth m_value m_isNot m_least0 m_most0 m_slot m_work m_got m_rowMany m_charAt m_charWide m_trail m_isMatch m_matchGroups m_allFrom m_allBefore m_founds m_pieces m_writtenMany m_templateWide m_tooMuch) f_MO_31 d_MO_close_204 h80.2.2 rfl ?_
          refine ab_iload_n d_MO_close_207 rfl ?_
          refine ab_aload_n d_MO_close_208 rfl ?_
          refine ab_getf (fs := mof m_thrown m_taped m_length m_out m_wide m_gathered m_sets m_ranges m_nodes m_at m_flags m_fault m_place m_numbered m_depth m_value m_isNot m_least0 m_most0 m_slot m_work m_got m_rowMany m_charAt m_charWide m_trail m_isMatch m_matchGroups m_allFrom m_allBefore m_founds m_pieces m_writtenMany m_templateWide m_tooMuch) f_MO_31 d_MO_close_209 h80.2.2 rfl ?_
          refine ab_iload_n d_MO_close_212 rfl ?_
          refine zz_iald d_MO_close_213 h88 (by omega) ?_
          refine zz_iast d_MO_close_214 h88 (by omega) (h88.2.1 (by decide)) ?_
          obtain ⟨G7, eG7⟩ : ∃ z : ab_G, z = List.set G6 88 (za 9000 (zu HI n (HI i_))) := ⟨_, rfl⟩
          have h80 := h80.keep h88 eG7 (by decide)
          have h87 := h87.keep h88 eG7 (by decide)
          have hlen := (z_len eG7).trans hlen
          have hsl := (z_sl h88 eG7 rfl).trans hsl
          have hfr := hfr.wr h88 eG7 (by decide)
          have h88 := h88.kept eG7
          change ab_W _ _ _ (List.set G6 88 (za 9000 (zu HI n (HI i_)))) 215 [some (vR 80), some (vz nt), some (vz n), some (vz i_), none, none] [] _
          rw [← eG7]
          refine zz_iinc d_MO_close_215 rfl (Nat.le_of_ble_eq_true rfl) (Nat.le_of_ble_eq_true rfl) rfl ?_
          change ab_W _ _ _ G7 218 [some (vR 80), some (vz nt), some (vz (n + 1)), some (vz i_), none, none] [] _
          refine zz_iinc d_MO_close_218 rfl (Nat.le_of_ble_eq_true rfl) (Nat.le_of_ble_eq_true rfl) rfl ?_
          change ab_W _ _ _ G7 221 [some (vR 80), some (vz nt), some (vz (n + 1)), some (vz (i_ + 1)), none, none] [] _
          refine ab_goto (tgt := 115) d_MO_close_221 (by decide) ?_
          exact ih (i_ := (i_ + 1)) (n := (n + 1)) (LO := (zu LO n (LO i_))) (HI := (zu HI n (HI i_))) h80 h87 h88 (by omega) (mrgI_n jm (by omega) (by omega)) hfr hlen hsl (by omega) hk0
        · refine ab_aload_n d_MO_close_146 rfl ?_
          refine ab_getf (fs := mof m_thrown m_taped m_length m_out m_wide m_gathered m_sets m_ranges m_nodes m_at m_flags m_fault m_place m_numbered m_depth m_value m_isNot m_least0 m_most0 m_slot m_work m_got m_rowMany m_charAt m_charWide m_trail m_isMatch m_matchGroups m_allFrom m_allBefore m_founds m_pieces m_writtenMany m_templateWide m_tooMuch) f_MO_31 d_MO_close_147 h80.2.2 rfl ?_
          refine ab_iload_n d_MO_close_150 rfl ?_
          refine zz_iconst d_MO_close_151 ?_
          refine zz_isub d_MO_close_152 ?_
          refine ab_aload_n d_MO_close_153 rfl ?_
          refine ab_getf (fs := mof m_thrown m_taped m_length m_out m_wide m_gathered m_sets m_ranges m_nodes m_at m_flags m_fault m_place m_numbered m_depth m_value m_isNot m_least0 m_most0 m_slot m_work m_got m_rowMany m_charAt m_charWide m_trail m_isMatch m_matchGroups m_allFrom m_allBefore m_founds m_pieces m_writtenMany m_templateWide m_tooMuch) f_MO_31 d_MO_close_154 h80.2.2 rfl ?_
          refine ab_iload_n d_MO_close_157 rfl ?_
          refine zz_iald d_MO_close_158 h88 (by omega) ?_
          refine ab_aload_n d_MO_close_159 rfl ?_
          refine ab_getf (fs := mof m_thrown m_taped m_length m_out m_wide m_gathered m_sets m_ranges m_nodes m_at m_flags m_fault m_place m_numbered m_depth m_value m_isNot m_least0 m_most0 m_slot m_work m_got m_rowMany m_charAt m_charWide m_trail m_isMatch m_matchGroups m_allFrom m_allBefore m_founds m_pieces m_writtenMany m_templateWide m_tooMuch) f_MO_31 d_MO_close_160 h80.2.2 rfl ?_
          refine ab_iload_n d_MO_close_163 rfl ?_
          refine zz_iconst d_MO_close_164 ?_
          refine zz_isub d_MO_close_165 ?_
          refine zz_iald d_MO_close_166 h88 (by omega) ?_
          refine zz_icmp_le (tgt := 179) d_MO_close_167 (by decide) (by omega) (by omega) (fun c8 => ?_) (fun c8 => ?_)
          · refine ab_aload_n d_MO_close_179 rfl ?_
            refine ab_getf (fs := mof m_thrown m_taped m_length m_out m_wide m_gathered m_sets m_ranges m_nodes m_at m_flags m_fault m_place m_numbered m_depth m_value m_isNot m_least0 m_most0 m_slot m_work m_got m_rowMany m_charAt m_charWide m_trail m_isMatch m_matchGroups m_allFrom m_allBefore m_founds m_pieces m_writtenMany m_templateWide m_tooMuch) f_MO_31 d_MO_close_180 h80.2.2 rfl ?_
            refine ab_iload_n d_MO_close_183 rfl ?_
            refine zz_iconst d_MO_close_184 ?_
            refine zz_isub d_MO_close_185 ?_
            refine zz_iald d_MO_close_186 h88 (by omega) ?_
            refine zz_iast d_MO_close_187 h88 (by omega) (h88.2.1 (by decide)) ?_
            obtain ⟨G9, eG9⟩ : ∃ z : ab_G, z = List.set G 88 (za 9000 (zu HI (n - 1) (HI (n - 1)))) := ⟨_, rfl⟩
            have h80 := h80.keep h88 eG9 (by decide)
            have h87 := h87.keep h88 eG9 (by decide)
            have hlen := (z_len eG9).trans hlen
            have hsl := (z_sl h88 eG9 rfl).trans hsl
            have hfr := hfr.wr h88 eG9 (by decide)
            have h88 := h88.kept eG9
            change ab_W _ _ _ (List.set G 88 (za 9000 (zu HI (n - 1) (HI (n - 1))))) 188 [some (vR 80), some (vz nt), some (vz n), some (vz i_), none, none] [] _
            rw [← eG9]
            refine ab_goto (tgt := 218) d_MO_close_188 (by decide) ?_
            refine zz_iinc d_MO_close_218 rfl (Nat.le_of_ble_eq_true rfl) (Nat.le_of_ble_eq_true rfl) rfl ?_
            change ab_W _ _ _ G9 221 [some (vR 80), some (vz nt), some (vz n), some (vz (i_ + 1)), none, none] [] _
            refine ab_goto (tgt := 115) d_MO_close_221 (by decide) ?_
            exact ih (i_ := (i_ + 1)) (n := n) (LO := LO) (HI := (zu HI (n - 1) (HI (n - 1)))) h80 h87 h88 (by omega) (mrgI_j jm (by omega) (by omega) (by omega)) hfr hlen hsl (by omega) hk0
          · refine ab_aload_n d_MO_close_170 rfl ?_
            refine ab_getf (fs := mof m_thrown m_taped m_length m_out m_wide m_gathered m_sets m_ranges m_nodes m_at m_flags m_fault m_place m_numbered m_depth m_value m_isNot m_least0 m_most0 m_slot m_work m_got m_rowMany m_charAt m_charWide m_trail m_isMatch m_matchGroups m_allFrom m_allBefore m_founds m_pieces m_writtenMany m_templateWide m_tooMuch) f_MO_31 d_MO_close_171 h80.2.2 rfl ?_
            refine ab_iload_n d_MO_close_174 rfl ?_
            refine zz_iald d_MO_close_175 h88 (by omega) ?_
            refine ab_goto (tgt := 187) d_MO_close_176 (by decide) ?_
            refine zz_iast d_MO_close_187 h88 (by omega) (h88.2.1 (by decide)) ?_
            obtain ⟨G10, eG10⟩ : ∃ z : ab_G, z = List.set G 88 (za 9000 (zu HI (n - 1) (HI i_))) := ⟨_, rfl⟩
            have h80 := h80.keep h88 eG10 (by decide)
            have h87 := h87.keep h88 eG10 (by decide)
            have hlen := (z_len eG10).trans hlen
            have hsl := (z_sl h88 eG10 rfl).trans hsl
            have hfr := hfr.wr h88 eG10 (by decide)
            have h88 := h88.kept eG10
            change ab_W _ _ _ (List.set G 88 (za 9000 (zu HI (n - 1) (HI i_)))) 188 [some (vR 80), some (vz nt), some (vz n), some (vz i_), none, none] [] _
            rw [← eG10]
            refine ab_goto (tgt := 218) d_MO_close_188 (by decide) ?_
            refine zz_iinc d_MO_close_218 rfl (Nat.le_of_ble_eq_true rfl) (Nat.le_of_ble_eq_true rfl) rfl ?_
            change ab_W _ _ _ G10 221 [some (vR 80), some (vz nt), some (vz n), some (vz (i_ + 1)), none, none] [] _
            refine ab_goto (tgt := 115) d_MO_close_221 (by decide) ?_
            exact ih (i_ := (i_ + 1)) (n := n) (LO := LO) (HI := (zu HI (n - 1) (HI i_))) h80 h87 h88 (by omega) (mrgI_j jm (by omega) (by omega) (by omega)) hfr hlen hsl (by omega) hk0
set_option maxRecDepth 100000 in
set_option maxHeartbeats 4000000 in
theorem y_MO_close_242 {X : ab_X} {d : Nat} {Q : Outcome → ab_G → Prop} {o : Nat → Nat} {G0 : ab_G} {m_thrown : Int} {m_taped : Int} {m_length : Int} {m_out : Int} {m_wide : Int} {m_gathered : Int} {m_sets : Int} {m_nodes : Int} {m_at : Int} {m_flags : Int} {m_fault : Int} {m_place : Int} {m_numbered : Int} {m_depth : Int} {m_value : Int} {m_isNot : Int} {m_least0 : Int} {m_most0 : Int} {m_slot : Int} {m_work : Int} {m_got : Int} {m_rowMany : Int} {m_charAt : Int} {m_charWide : Int} {m_trail : Int} {m_isMatch : Int} {m_matchGroups : Int} {m_allFrom : Int} {m_allBefore : Int} {m_founds : Int} {m_pieces : Int} {m_writtenMany : Int} {m_templateWide : Int} {m_tooMuch : Int} {LO : Int → Int} {HI : Int → Int} {nt : Int} {n : Int} {mm : Int} {r0 : Int} {RL9 : Int → Int} {RH9 : Int → Int} (n18 : ab_n0 = 18) (cn : 0 ≤ n ∧ n ≤ mm ∧ n ≤ 8990 ∧ 0 ≤ r0 ∧ 0 ≤ nt ∧ nt ≤ 1 ∧ r0 + mm + 1 + nt ≤ 24000) (jg : gcan LO HI n) (hd : 2 ≤ d) : ∀ (mz : Nat) {G : ab_G} {i_ : Int} {nx : Int} {m_ranges : Int} {RL : Int → Int} {RH : Int → Int}, (cc o G 80 280 (ab_ob 12 (mof m_thrown m_taped m_length m_out m_wide m_gathered m_sets m_ranges m_nodes m_at m_flags m_fault m_place m_numbered m_depth m_value m_isNot m_least0 m_most0 m_slot m_work m_got m_rowMany m_charAt m_charWide m_trail m_isMatch m_matchGroups m_allFrom m_allBefore m_founds m_pieces m_writtenMany m_templateWide m_tooMuch))) → (cc o G 87 287 (za 9000 LO)) → (cc o G 88 288 (za 9000 HI)) → (cc o G 91 291 (za 24000 RL)) → (cc o G 92 292 (za 24000 RH)) → (0 ≤ i_ ∧ i_ ≤ n) → (0 ≤ nx ∧ nx ≤ 1114112 ∧ r0 ≤ m_ranges ∧ ((nx ≤ 57344 ∧ m_ranges ≤ r0 + i_) ∨ (57344 < nx ∧ m_ranges ≤ r0 + i_ + 1))) → ((i_ = 0 ∧ nx = 0) ∨ (0 < i_ ∧ nx = HI (i_ - 1) + 1)) → (rgs RL 24000 0 1114111) → (rgs RH 24000 0 1114111) → (sto RL RH r0 m_ranges (clQ nt LO HI i_ nx)) → (kx2 RL9 RH9 RL RH r0) → (fx o o [280, 291, 292] G0 G) → (G.length = G0.length) → (ab_slots G = ab_slots G0) → (Int.toNat (n - i_) < mz) → (∀ (G2 : ab_G) (nx2 : Int) (r2 : Int) (RL2 : Int → Int) (RH2 : Int → Int), (cc o G2 80 280 (ab_ob 12 (mof m_thrown m_taped m_length m_out m_wide m_gathered m_sets r2 m_nodes m_at m_flags m_fault m_place m_numbered m_depth m_value m_isNot m_least0 m_most0 m_slot m_work m_got m_rowMany m_charAt m_charWide m_trail m_isMatch m_matchGroups m_allFrom m_allBefore m_founds m_pieces m_writtenMany m_templateWide m_tooMuch))) → (cc o G2 91 291 (za 24000 RL2)) → (cc o G2 92 292 (za 24000 RH2)) → (rgs RL2 24000 0 1114111) → (rgs RH2 24000 0 1114111) → (0 ≤ nx2 ∧ nx2 ≤ 1114112 ∧ r0 ≤ r2 ∧ ((nx2 ≤ 57344 ∧ r2 ≤ r0 + n) ∨ (57344 < nx2 ∧ r2 ≤ r0 + n + 1))) → (kx2 RL9 RH9 RL2 RH2 r0) → (sto RL2 RH2 r0 r2 (clQ nt LO HI n nx2)) → ((n = 0 ∧ nx2 = 0) ∨ (0 < n ∧ nx2 = HI (n - 1) + 1)) → (fx o o [280, 291, 292] G0 G2) → (G2.length = G0.length) → (ab_slots G2 = ab_slots G0) → ab_W X (ab_pl y_MO_close b_MO_close 6 (some (.int))) d G2 303 [some (vR 80), some (vz nt), none, some (vz nx2), none, none] [] Q) → ab_W X (ab_pl y_MO_close b_MO_close 6 (some (.int))) d G 242 [some (vR 80), some (vz nt), some (vz n), some (vz nx), some (vz i_), none] [] Q := by
  intro mz
  induction mz with
  | zero => intro G i_ nx m_ranges RL RH h80 h87 h88 h91 h92 ci cr jnx jrl jrh jst jkx hfr hlen hsl hm hk0; exact absurd hm (Nat.not_lt_zero _)
  | succ mz ih =>
    intro G i_ nx m_ranges RL RH h80 h87 h88 h91 h92 ci cr jnx jrl jrh jst jkx hfr hlen hsl hm hk0
    refine ab_iload d_MO_close_242 rfl ?_
    refine ab_iload_n d_MO_close_244 rfl ?_
    refine zz_icmp_ge (tgt := 303) d_MO_close_245 (by decide) (by omega) (by omega) (fun c1 => ?_) (fun c1 => ?_)
    · refine ab_less (L' := [some (vR 80), some (vz nt), none, some (vz nx), none, none]) (fun i v h => by rcases i with _ | _ | _ | _ | _ | _ | i <;> first | exact h | (simp at h)) ?_
      exact hk0 _ _ _ _ _ h80 h91 h92 (by first | exact jrl | exact rgs_w jrl (by omega)) (by first | exact jrh | exact rgs_w jrh (by omega)) (by omega) (by exact jkx) (by rw [show n = i_ by omega]; exact jst) (by rw [show n = i_ by omega]; exact jnx) hfr hlen hsl
    · have hnx_ := gcan_nx jg (by omega) jnx
      refine ab_iload_n d_MO_close_248 rfl ?_
      refine zz_if_eq (tgt := 269) d_MO_close_249 (by decide) (by omega) (fun c2 => ?_) (fun c2 => ?_)
      · refine ab_aload_n d_MO_close_269 rfl ?_
        refine ab_aload_n d_MO_close_270 rfl ?_
        refine ab_getf (fs := mof m_thrown m_taped m_length m_out m_wide m_gathered m_sets m_ranges m_nodes m_at m_flags m_fault m_place m_numbered m_depth m_value m_isNot m_least0 m_most0 m_slot m_work m_got m_rowMany m_charAt m_charWide m_trail m_isMatch m_matchGroups m_allFrom m_allBefore m_founds m_pieces m_writtenMany m_templateWide m_tooMuch) f_MO_28 d_MO_close_271 h80.2.2 rfl ?_
        refine ab_iload d_MO_close_274 rfl ?_
        refine zz_iald d_MO_close_276 h87 (by omega) ?_
        refine ab_aload_n d_MO_close_277 rfl ?_
        refine ab_getf (fs := mof m_thrown m_taped m_length m_out m_wide m_gathered m_sets m_ranges m_nodes m_at m_flags m_fault m_place m_numbered m_depth m_value m_isNot m_least0 m_most0 m_slot m_work m_got m_rowMany m_charAt m_charWide m_trail m_isMatch m_matchGroups m_allFrom m_allBefore m_founds m_pieces m_writtenMany m_templateWide m_tooMuch) f_MO_31 d_MO_close_278 h80.2.2 rfl ?_
        refine ab_iload d_MO_close_281 rfl ?_
        refine zz_iald d_MO_close_283 h88 (by omega) ?_
        refine ab_callV (d' := d - 1) (as := [vz (LO i_), vz (HI i_)]) (st := []) (r := _) (z_MO_storeCut (o := o) (m_thrown := m_thrown) (m_taped := m_taped) (m_length := m_length) (m_out := m_out) (m_wide := m_wide) (m_gathered := m_gathered) (m_sets := m_sets) (m_ranges := m_ranges) (m_nodes := m_nodes) (m_at := m_at) (m_flags := m_flags) (m_fault := m_fault) (m_place := m_place) (m_numbered := m_numbered) (m_depth := m_depth) (m_value := m_value) (m_isNot := m_isNot) (m_least0 := m_least0) (m_most0 := m_most0) (m_slot := m_slot) (m_work := m_work) (m_got := m_got) (m_rowMany := m_rowMany) (m_charAt := m_charAt) (m_charWide := m_charWide) (m_trail := m_trail) (m_isMatch := m_isMatch) (m_matchGroups := m_matchGroups) (m_allFrom := m_allFrom) (m_allBefore := m_allBefore) (m_founds := m_founds) (m_pieces := m_pieces) (m_writtenMany := m_writtenMany) (m_templateWide := m_templateWide) (m_tooMuch := m_tooMuch) (RL := RL) (RH := RH) (a := (LO i_)) (b := (HI i_)) (r0 := r0) (Q := (clQ nt LO HI i_ nx)) (RL9 := RL9) (RH9 := RH9) h80 h91 h92 (by omega) (by omega) (by omega) (by omega) jrl jrh jst (by rw [show nt = 0 by omega]; exact clQ_lo jg (by omega)) jkx (by omega)) (fun oc G2 h => by rcases h with ⟨_, _, _, h, _⟩ <;> exact ⟨_, h⟩) (by omega) m_MO_storeCut ml_MO_261 im_MO_storeCut se_MO_storeCut c_MO h80.2.2 (Nat.le_of_ble_eq_true rfl) d_MO_close_284 rfl ?_
        intro v G3 hq
        rcases hq with ⟨r24, RL25, RH26, hv, hfk, hlk, hsk, hN80, hN91, hN92, hq7, hq8, hq9, hq10, hq11, hq12⟩
        cases hv
        have h87 := hfk.get h87 (by decide)
        have h88 := hfk.get h88 (by decide)
        have hfr := hfr.tr hfk (by decide)
        have hlen := hlk.trans hlen
        have hsl := hsk.trans hsl
        have h80 := hN80
        have h91 := hN91
        have h92 := hN92
        change ab_W _ _ _ G3 287 [some (vR 80), some (vz nt), some (vz n), some (vz nx), some (vz i_), none] [] _
        refine ab_aload_n d_MO_close_287 rfl ?_
        refine ab_getf (fs := mof m_thrown m_taped m_length m_out m_wide m_gathered m_sets r24 m_nodes m_at m_flags m_fault m_place m_numbered m_depth m_value m_isNot m_least0 m_most0 m_slot m_work m_got m_rowMany m_charAt m_charWide m_trail m_isMatch m_matchGroups m_allFrom m_allBefore m_founds m_pieces m_writtenMany m_templateWide m_tooMuch) f_MO_31 d_MO_close_288 h80.2.2 rfl ?_
        refine ab_iload d_MO_close_291 rfl ?_
        refine zz_iald d_MO_close_293 h88 (by omega) ?_
        refine zz_iconst d_MO_close_294 ?_
        refine zz_iadd d_MO_close_295 ?_
        refine ab_istore_n d_MO_close_296 (Nat.le_of_ble_eq_true rfl) (Nat.le_of_ble_eq_true rfl) rfl ?_
        change ab_W _ _ _ G3 297 [some (vR 80), some (vz nt), some (vz n), some (vz ((HI i_) + 1)), some (vz i_), none] [] _
        refine zz_iinc d_MO_close_297 rfl (Nat.le_of_ble_eq_true rfl) (Nat.le_of_ble_eq_true rfl) rfl ?_
        change ab_W _ _ _ G3 300 [some (vR 80), some (vz nt), some (vz n), some (vz ((HI i_) + 1)), some (vz (i_ + 1)), none] [] _
        refine ab_goto (tgt := 242) d_MO_close_300 (by decide) ?_
        exact ih (i_ := (i_ + 1)) (nx := ((HI i_) + 1)) (m_ranges := r24) (RL := RL25) (RH := RH26) h80 h87 h88 h91 h92 (by omega) (by omega) (by right; exact ⟨by omega, by rw [show i_ + 1 - 1 = i_ by omega]⟩) hq7 hq8 (sto_iff hq11 (fun x => by rw [show nt = 0 by omega]; exact clQ_s0 (by omega) x)) hq12 hfr hlen hsl (by omega) hk0
      · refine ab_aload_n d_MO_close_252 rfl ?_
        refine ab_iload_n d_MO_close_253 rfl ?_
        refine ab_aload_n d_MO_close_254 rfl ?_
        refine ab_getf (fs := mof m_thrown m_taped m_length m_out m_wide m_gathered m_sets m_ranges m_nodes m_at m_flags m_fault m_place m_numbered m_depth m_value m_isNot m_least0 m_most0 m_slot m_work m_got m_rowMany m_charAt m_charWide m_trail m_isMatch m_matchGroups m_allFrom m_allBefore m_founds m_pieces m_writtenMany m_templateWide m_tooMuch) f_MO_28 d_MO_close_255 h80.2.2 rfl ?_
        refine ab_iload d_MO_close_258 rfl ?_
        refine zz_iald d_MO_close_260 h87 (by omega) ?_
        refine zz_iconst d_MO_close_261 ?_
        refine zz_isub d_MO_close_262 ?_
        refine ab_callV (d' := d - 1) (as := [vz nx, vz ((LO i_) - 1)]) (st := []) (r := _) (z_MO_storeCut (o := o) (m_thrown := m_thrown) (m_taped := m_taped) (m_length := m_length) (m_out := m_out) (m_wide := m_wide) (m_gathered := m_gathered) (m_sets := m_sets) (m_ranges := m_ranges) (m_nodes := m_nodes) (m_at := m_at) (m_flags := m_flags) (m_fault := m_fault) (m_place := m_place) (m_numbered := m_numbered) (m_depth := m_depth) (m_value := m_value) (m_isNot := m_isNot) (m_least0 := m_least0) (m_most0 := m_most0) (m_slot := m_slot) (m_work := m_work) (m_got := m_got) (m_rowMany := m_rowMany) (m_charAt := m_charAt) (m_charWide := m_charWide) (m_trail := m_trail) (m_isMatch := m_isMatch) (m_matchGroups := m_matchGroups) (m_allFrom := m_allFrom) (m_allBefore := m_allBefore) (m_founds := m_founds) (m_pieces := m_pieces) (m_writtenMany := m_writtenMany) (m_templateWide := m_templateWide) (m_tooMuch := m_tooMuch) (RL := RL) (RH := RH) (a := nx) (b := ((LO i_) - 1)) (r0 := r0) (Q := (clQ nt LO HI i_ nx)) (RL9 := RL9) (RH9 := RH9) h80 h91 h92 (by omega) (by omega) (by omega) (by omega) jrl jrh jst (by rw [show nt = 1 by omega]; exact clQ_nx jg (by omega) jnx) jkx (by omega)) (fun oc G2 h => by rcases h with ⟨_, _, _, h, _⟩ <;> exact ⟨_, h⟩) (by omega) m_MO_storeCut ml_MO_261 im_MO_storeCut se_MO_storeCut c_MO h80.2.2 (Nat.le_of_ble_eq_true rfl) d_MO_close_263 rfl ?_
        intro v G13 hq
        rcases hq with ⟨r214, RL215, RH216, hv, hfk, hlk, hsk, hN80, hN91, hN92, hq17, hq18, hq19, hq20, hq21, hq22⟩
        cases hv
        have h87 := hfk.get h87 (by decide)
        have h88 := hfk.get h88 (by decide)
        have hfr := hfr.tr hfk (by decide)
        have hlen := hlk.trans hlen
        have hsl := hsk.trans hsl
        have h80 := hN80
        have h91 := hN91
        have h92 := hN92
        change ab_W _ _ _ G13 266 [some (vR 80), some (vz nt), some (vz n), some (vz nx), some (vz i_), none] [] _
        refine ab_goto (tgt := 287) d_MO_close_266 (by decide) ?_
        refine ab_aload_n d_MO_close_287 rfl ?_
        refine ab_getf (fs := mof m_thrown m_taped m_length m_out m_wide m_gathered m_sets r214 m_nodes m_at m_flags m_fault m_place m_numbered m_depth m_value m_isNot m_least0 m_most0 m_slot m_work m_got m_rowMany m_charAt m_charWide m_trail m_isMatch m_matchGroups m_allFrom m_allBefore m_founds m_pieces m_writtenMany m_templateWide m_tooMuch) f_MO_31 d_MO_close_288 h80.2.2 rfl ?_
        refine ab_iload d_MO_close_291 rfl ?_
        refine zz_iald d_MO_close_293 h88 (by omega) ?_
        refine zz_iconst d_MO_close_294 ?_
        refine zz_iadd d_MO_close_295 ?_
        refine ab_istore_n d_MO_close_296 (Nat.le_of_ble_eq_true rfl) (Nat.le_of_ble_eq_true rfl) rfl ?_
        change ab_W _ _ _ G13 297 [some (vR 80), some (vz nt), some (vz n), some (vz ((HI i_) + 1)), some (vz i_), none] [] _
        refine zz_iinc d_MO_close_297 rfl (Nat.le_of_ble_eq_true rfl) (Nat.le_of_ble_eq_true rfl) rfl ?_
        change ab_W _ _ _ G13 300 [some (vR 80), some (vz nt), some (vz n), some (vz ((HI i_) + 1)), some (vz (i_ + 1)), none] [] _
        refine ab_goto (tgt := 242) d_MO_close_300 (by decide) ?_
        exact ih (i_ := (i_ + 1)) (nx := ((HI i_) + 1)) (m_ranges := r214) (RL := RL215) (RH := RH216) h80 h87 h88 h91 h92 (by omega) (by omega) (by right; exact ⟨by omega, by rw [show i_ + 1 - 1 = i_ by omega]⟩) hq17 hq18 (sto_iff hq21 (fun x => by rw [show nt = 1 by omega]; exact clQ_s1 jg (by omega) jnx x)) hq22 hfr hlen hsl (by omega) hk0
set_option maxRecDepth 100000 in
set_option maxHeartbeats 4000000 in
theorem z_MO_close {X : ab_X} {d : Nat} {o : Nat → Nat} {G : ab_G} {m_thrown : Int} {m_taped : Int} {m_length : Int} {m_out : Int} {m_wide : Int} {m_gathered : Int} {m_sets : Int} {m_ranges : Int} {m_nodes : Int} {m_at : Int} {m_flags : Int} {m_fault : Int} {m_place : Int} {m_numbered : Int} {m_depth : Int} {m_value : Int} {m_isNot : Int} {m_least0 : Int} {m_most0 : Int} {m_slot : Int} {m_work : Int} {m_got : Int} {m_rowMany : Int} {m_charAt : Int} {m_charWide : Int} {m_trail : Int} {m_isMatch : Int} {m_matchGroups : Int} {m_allFrom : Int} {m_allBefore : Int} {m_founds : Int} {m_pieces : Int} {m_writtenMany : Int} {m_templateWide : Int} {m_tooMuch : Int} {LO : Int → Int} {HI : Int → Int} {MK : Int → Int} {RL : Int → Int} {RH : Int → Int} {SA : Int → Int} {SM : Int → Int} {P : Int → Prop} {nt : Int} {mm : Int} (h80 : cc o G 80 280 (ab_ob 12 (mof m_thrown m_taped m_length m_out m_wide m_gathered m_sets m_ranges m_nodes m_at m_flags m_fault m_place m_numbered m_depth m_value m_isNot m_least0 m_most0 m_slot m_work m_got m_rowMany m_charAt m_charWide m_trail m_isMatch m_matchGroups m_allFrom m_allBefore m_founds m_pieces m_writtenMany m_templateWide m_tooMuch))) (h87 : cc o G 87 287 (za 9000 LO)) (h88 : cc o G 88 288 (za 9000 HI)) (h93 : cc o G 93 293 (zb 1200 MK)) (h91 : cc o G 91 291 (za 24000 RL)) (h92 : cc o G 92 292 (za 24000 RH)) (h89 : cc o G 89 289 (za 2100 SA)) (h90 : cc o G 90 290 (za 2100 SM)) (n18 : ab_n0 = 18) (jmk : rgs MK 1200 0 1) (cg : 0 ≤ m_gathered ∧ m_gathered ≤ 7800 ∧ 0 ≤ m_sets ∧ m_sets < 2100 ∧ 0 ≤ m_ranges ∧ 0 ≤ mm ∧ 0 ≤ nt ∧ nt ≤ 1 ∧ m_ranges + mm + 1 + nt ≤ 24000) (jc : clsI LO HI m_gathered MK P) (jl : lfc P mm) (jrl : rgs RL 24000 0 1114111) (jrh : rgs RH 24000 0 1114111) (hd : 4 ≤ d) : ab_F X d y_MO_close (.code y_MO_close b_MO_close 6 (some (.int))) [vR 80, vz nt] G (fun oc G2 => ∃ g2 : Int, ∃ r2 : Int, ∃ LO2 : Int → Int, ∃ HI2 : Int → Int, ∃ RL2 : Int → Int, ∃ RH2 : Int → Int, oc = .returned (some (vz m_sets)) ∧ fx o o [280, 287, 288, 291, 292, 289, 290] G G2 ∧ G2.length = G.length ∧ ab_slots G2 = ab_slots G ∧ cc o G2 80 280 (ab_ob 12 (mof m_thrown m_taped m_length m_out m_wide g2 (m_sets + 1) r2 m_nodes m_at m_flags m_fault m_place m_numbered m_depth m_value m_isNot m_least0 m_most0 m_slot m_work m_got m_rowMany m_charAt m_charWide m_trail m_isMatch m_matchGroups m_allFrom m_allBefore m_founds m_pieces m_writtenMany m_templateWide m_tooMuch)) ∧ cc o G2 87 287 (za 9000 LO2) ∧ cc o G2 88 288 (za 9000 HI2) ∧ cc o G2 91 291 (za 24000 RL2) ∧ cc o G2 92 292 (za 24000 RH2) ∧ cc o G2 89 289 (za 2100 (zu SA m_sets m_ranges)) ∧ cc o G2 90 290 (za 2100 (zu SM m_sets (r2 - m_ranges))) ∧ (rgs RL2 24000 0 1114111) ∧ (rgs RH2 24000 0 1114111) ∧ (m_ranges ≤ r2 ∧ r2 ≤ m_ranges + mm + 1 + nt) ∧ (sto RL2 RH2 m_ranges r2 (clno nt P)) ∧ (kx2 RL RH RL2 RH2 m_ranges)) := by
  refine ab_F_of (by decide +kernel) (Nat.le_of_ble_eq_true rfl) ?_
  obtain ⟨Q, hQ⟩ : ∃ z : Outcome → ab_G → Prop, z = (fun oc G2 => ∃ g2 : Int, ∃ r2 : Int, ∃ LO2 : Int → Int, ∃ HI2 : Int → Int, ∃ RL2 : Int → Int, ∃ RH2 : Int → Int, oc = .returned (some (vz m_sets)) ∧ fx o o [280, 287, 288, 291, 292, 289, 290] G G2 ∧ G2.length = G.length ∧ ab_slots G2 = ab_slots G ∧ cc o G2 80 280 (ab_ob 12 (mof m_thrown m_taped m_length m_out m_wide g2 (m_sets + 1) r2 m_nodes m_at m_flags m_fault m_place m_numbered m_depth m_value m_isNot m_least0 m_most0 m_slot m_work m_got m_rowMany m_charAt m_charWide m_trail m_isMatch m_matchGroups m_allFrom m_allBefore m_founds m_pieces m_writtenMany m_templateWide m_tooMuch)) ∧ cc o G2 87 287 (za 9000 LO2) ∧ cc o G2 88 288 (za 9000 HI2) ∧ cc o G2 91 291 (za 24000 RL2) ∧ cc o G2 92 292 (za 24000 RH2) ∧ cc o G2 89 289 (za 2100 (zu SA m_sets m_ranges)) ∧ cc o G2 90 290 (za 2100 (zu SM m_sets (r2 - m_ranges))) ∧ (rgs RL2 24000 0 1114111) ∧ (rgs RH2 24000 0 1114111) ∧ (m_ranges ≤ r2 ∧ r2 ≤ m_ranges + mm + 1 + nt) ∧ (sto RL2 RH2 m_ranges r2 (clno nt P)) ∧ (kx2 RL RH RL2 RH2 m_ranges)) := ⟨_, rfl⟩
  rw [← hQ]
  change ab_W X (ab_pl y_MO_close b_MO_close 6 (some (.int))) d G 0 [some (vR 80), some (vz nt), none, none, none, none] [] Q
  have hfr : fx o o [280, 287, 288, 291, 292, 289, 290] G G := fx.rf
  have hlen : G.length = G.length := rfl
  have hsl : ab_slots G = ab_slots G := rfl
  refine ab_aload_n d_MO_close_0 rfl ?_
  refine ab_callV (d' := d - 1) (as := []) (st := []) (r := _) (z_MO_gatherMarked (o := o) (m_thrown := m_thrown) (m_taped := m_taped) (m_length := m_length) (m_out := m_out) (m_wide := m_wide) (m_gathered := m_gathered) (m_sets := m_sets) (m_ranges := m_ranges) (m_nodes := m_nodes) (m_at := m_at) (m_flags := m_flags) (m_fault := m_fault) (m_place := m_place) (m_numbered := m_numbered) (m_depth := m_depth) (m_value := m_value) (m_isNot := m_isNot) (m_least0 := m_least0) (m_most0 := m_most0) (m_slot := m_slot) (m_work := m_work) (m_got := m_got) (m_rowMany := m_rowMany) (m_charAt := m_charAt) (m_charWide := m_charWide) (m_trail := m_trail) (m_isMatch := m_isMatch) (m_matchGroups := m_matchGroups) (m_allFrom := m_allFrom) (m_allBefore := m_allBefore) (m_founds := m_founds) (m_pieces := m_pieces) (m_writtenMany := m_writtenMany) (m_templateWide := m_templateWide) (m_tooMuch := m_tooMuch) (LO := LO) (HI := HI) (MK := MK) h80 h87 h88 h93 (by omega) jmk (by omega) jc (by omega)) (fun oc G2 h => by rcases h with ⟨_, _, _, h, _⟩ <;> exact ⟨_, h⟩) (by omega) m_MO_gatherMarked ml_MO_255 im_MO_gatherMarked se_MO_gatherMarked c_MO h80.2.2 (Nat.le_of_ble_eq_true rfl) d_MO_close_1 rfl ?_
  intro v G1 hq
  rcases hq with ⟨g22, LO23, HI24, hv, hfk, hlk, hsk, hN80, hN87, hN88, hq5, hq6⟩
  cases hv
  have h93 := hfk.get h93 (by decide)
  have h91 := hfk.get h91 (by decide)
  have h92 := hfk.get h92 (by decide)
  have h89 := hfk.get h89 (by decide)
  have h90 := hfk.get h90 (by decide)
  have hfr := hfr.tr hfk (by decide)
  have hlen := hlk.trans hlen
  have hsl := hsk.trans hsl
  have h80 := hN80
  have h87 := hN87
  have h88 := hN88
  change ab_W _ _ _ G1 4 [some (vR 80), some (vz nt), none, none, none, none] [] _
  refine zz_iconst d_MO_close_4 ?_
  refine ab_istore_n d_MO_close_5 (Nat.le_of_ble_eq_true rfl) (Nat.le_of_ble_eq_true rfl) rfl ?_
  change ab_W _ _ _ G1 6 [some (vR 80), some (vz nt), some (vz 1), none, none, none] [] _
  refine y_MO_close_6 (m_thrown := m_thrown) (m_taped := m_taped) (m_length := m_length) (m_out := m_out) (m_wide := m_wide) (m_gathered := g22) (m_sets := m_sets) (m_ranges := m_ranges) (m_nodes := m_nodes) (m_at := m_at) (m_flags := m_flags) (m_fault := m_fault) (m_place := m_place) (m_numbered := m_numbered) (m_depth := m_depth) (m_value := m_value) (m_isNot := m_isNot) (m_least0 := m_least0) (m_most0 := m_most0) (m_slot := m_slot) (m_work := m_work) (m_got := m_got) (m_rowMany := m_rowMany) (m_charAt := m_charAt) (m_charWide := m_charWide) (m_trail := m_trail) (m_isMatch := m_isMatch) (m_matchGroups := m_matchGroups) (m_allFrom := m_allFrom) (m_allBefore := m_allBefore) (m_founds := m_founds) (m_pieces := m_pieces) (m_writtenMany := m_writtenMany) (m_templateWide := m_templateWide) (m_tooMuch := m_tooMuch) (P := P) (nt := nt) (G0 := G1) (i_ := 1) (LO := LO23) (HI := HI24) (by omega) (by omega) (by omega) (Int.toNat (g22 + 1 - 1) + 1) h80 h87 h88 (by omega) (srtI_0 hq6.1 hq6.2) fx.rf rfl rfl (by omega) (fun G7 LO28 HI29 hN87 hN88 hq10 hfk hlk hsk => ?_)
  · have h80 := hfk.get h80 (by decide)
    have h93 := hfk.get h93 (by decide)
    have h91 := hfk.get h91 (by decide)
    have h92 := hfk.get h92 (by decide)
    have h89 := hfk.get h89 (by decide)
    have h90 := hfk.get h90 (by decide)
    have hfr := hfr.tr hfk (by decide)
    have hlen := hlk.trans hlen
    have hsl := hsk.trans hsl
    have h87 := hN87
    have h88 := hN88
    change ab_W _ _ _ G7 111 [some (vR 80), some (vz nt), none, none, none, none] [] _
    refine zz_iconst d_MO_close_111 ?_
    refine ab_istore_n d_MO_close_112 (Nat.le_of_ble_eq_true rfl) (Nat.le_of_ble_eq_true rfl) rfl ?_
    change ab_W _ _ _ G7 113 [some (vR 80), some (vz nt), some (vz 0), none, none, none] [] _
    refine zz_iconst d_MO_close_113 ?_
    refine ab_istore_n d_MO_close_114 (Nat.le_of_ble_eq_true rfl) (Nat.le_of_ble_eq_true rfl) rfl ?_
    change ab_W _ _ _ G7 115 [some (vR 80), some (vz nt), some (vz 0), some (vz 0), none, none] [] _
    refine y_MO_close_115 (m_thrown := m_thrown) (m_taped := m_taped) (m_length := m_length) (m_out := m_out) (m_wide := m_wide) (m_gathered := g22) (m_sets := m_sets) (m_ranges := m_ranges) (m_nodes := m_nodes) (m_at := m_at) (m_flags := m_flags) (m_fault := m_fault) (m_place := m_place) (m_numbered := m_numbered) (m_depth := m_depth) (m_value := m_value) (m_isNot := m_isNot) (m_least0 := m_least0) (m_most0 := m_most0) (m_slot := m_slot) (m_work := m_work) (m_got := m_got) (m_rowMany := m_rowMany) (m_charAt := m_charAt) (m_charWide := m_charWide) (m_trail := m_trail) (m_isMatch := m_isMatch) (m_matchGroups := m_matchGroups) (m_allFrom := m_allFrom) (m_allBefore := m_allBefore) (m_founds := m_founds) (m_pieces := m_pieces) (m_writtenMany := m_writtenMany) (m_templateWide := m_templateWide) (m_tooMuch := m_tooMuch) (P := P) (nt := nt) (mm := mm) (G0 := G7) (i_ := 0) (n := 0) (LO := LO28) (HI := HI29) (by omega) (by omega) jl (by omega) (Int.toNat (g22 - 0) + 1) h80 h87 h88 (by omega) hq10 fx.rf rfl rfl (by omega) (fun G11 n212 LO213 HI214 hN87 hN88 hq15 hq16 hq17 hfk hlk hsk => ?_)
    · have h80 := hfk.get h80 (by decide)
      have h93 := hfk.get h93 (by decide)
      have h91 := hfk.get h91 (by decide)
      have h92 := hfk.get h92 (by decide)
      have h89 := hfk.get h89 (by decide)
      have h90 := hfk.get h90 (by decide)
      have hfr := hfr.tr hfk (by decide)
      have hlen := hlk.trans hlen
      have hsl := hsk.trans hsl
      have h87 := hN87
      have h88 := hN88
      change ab_W _ _ _ G11 224 [some (vR 80), some (vz nt), some (vz n212), none, none, none] [] _
      refine ab_aload_n d_MO_close_224 rfl ?_
      refine ab_getf (fs := mof m_thrown m_taped m_length m_out m_wide g22 m_sets m_ranges m_nodes m_at m_flags m_fault m_place m_numbered m_depth m_value m_isNot m_least0 m_most0 m_slot m_work m_got m_rowMany m_charAt m_charWide m_trail m_isMatch m_matchGroups m_allFrom m_allBefore m_founds m_pieces m_writtenMany m_templateWide m_tooMuch) f_MO_34 d_MO_close_225 h80.2.2 rfl ?_
      refine ab_aload_n d_MO_close_228 rfl ?_
      refine ab_getf (fs := mof m_thrown m_taped m_length m_out m_wide g22 m_sets m_ranges m_nodes m_at m_flags m_fault m_place m_numbered m_depth m_value m_isNot m_least0 m_most0 m_slot m_work m_got m_rowMany m_charAt m_charWide m_trail m_isMatch m_matchGroups m_allFrom m_allBefore m_founds m_pieces m_writtenMany m_templateWide m_tooMuch) f_MO_258 d_MO_close_229 h80.2.2 rfl ?_
      refine ab_aload_n d_MO_close_232 rfl ?_
      refine ab_getf (fs := mof m_thrown m_taped m_length m_out m_wide g22 m_sets m_ranges m_nodes m_at m_flags m_fault m_place m_numbered m_depth m_value m_isNot m_least0 m_most0 m_slot m_work m_got m_rowMany m_charAt m_charWide m_trail m_isMatch m_matchGroups m_allFrom m_allBefore m_founds m_pieces m_writtenMany m_templateWide m_tooMuch) f_MO_248 d_MO_close_233 h80.2.2 rfl ?_
      refine zz_iast d_MO_close_236 h89 (by omega) (h89.2.1 (by decide)) ?_
      obtain ⟨G18, eG18⟩ : ∃ z : ab_G, z = List.set G11 89 (za 2100 (zu SA m_sets m_ranges)) := ⟨_, rfl⟩
      have h80 := h80.keep h89 eG18 (by decide)
      have h87 := h87.keep h89 eG18 (by decide)
      have h88 := h88.keep h89 eG18 (by decide)
      have h93 := h93.keep h89 eG18 (by decide)
      have h91 := h91.keep h89 eG18 (by decide)
      have h92 := h92.keep h89 eG18 (by decide)
      have h90 := h90.keep h89 eG18 (by decide)
      have hlen := (z_len eG18).trans hlen
      have hsl := (z_sl h89 eG18 rfl).trans hsl
      have hfr := hfr.wr h89 eG18 (by decide)
      have h89 := h89.kept eG18
      change ab_W _ _ _ (List.set G11 89 (za 2100 (zu SA m_sets m_ranges))) 237 [some (vR 80), some (vz nt), some (vz n212), none, none, none] [] _
      rw [← eG18]
      refine zz_iconst d_MO_close_237 ?_
      refine ab_istore_n d_MO_close_238 (Nat.le_of_ble_eq_true rfl) (Nat.le_of_ble_eq_true rfl) rfl ?_
      change ab_W _ _ _ G18 239 [some (vR 80), some (vz nt), some (vz n212), some (vz 0), none, none] [] _
      refine zz_iconst d_MO_close_239 ?_
      refine ab_istore d_MO_close_240 (Nat.le_of_ble_eq_true rfl) (Nat.le_of_ble_eq_true rfl) rfl ?_
      change ab_W _ _ _ G18 242 [some (vR 80), some (vz nt), some (vz n212), some (vz 0), some (vz 0), none] [] _
      refine y_MO_close_242 (m_thrown := m_thrown) (m_taped := m_taped) (m_length := m_length) (m_out := m_out) (m_wide := m_wide) (m_gathered := g22) (m_sets := m_sets) (m_nodes := m_nodes) (m_at := m_at) (m_flags := m_flags) (m_fault := m_fault) (m_place := m_place) (m_numbered := m_numbered) (m_depth := m_depth) (m_value := m_value) (m_isNot := m_isNot) (m_least0 := m_least0) (m_most0 := m_most0) (m_slot := m_slot) (m_work := m_work) (m_got := m_got) (m_rowMany := m_rowMany) (m_charAt := m_charAt) (m_charWide := m_charWide) (m_trail := m_trail) (m_isMatch := m_isMatch) (m_matchGroups := m_matchGroups) (m_allFrom := m_allFrom) (m_allBefore := m_allBefore) (m_founds := m_founds) (m_pieces := m_pieces) (m_writtenMany := m_writtenMany) (m_templateWide := m_templateWide) (m_tooMuch := m_tooMuch) (LO := LO213) (HI := HI214) (nt := nt) (n := n212) (mm := mm) (r0 := m_ranges) (RL9 := RL) (RH9 := RH) (G0 := G18) (i_ := 0) (nx := 0) (m_ranges := m_ranges) (RL := RL) (RH := RH) (by omega) (by omega) hq16 (by omega) (Int.toNat (n212 - 0) + 1) h80 h87 h88 h91 h92 (by omega) (by omega) (Or.inl ⟨rfl, rfl⟩) jrl jrh (sto_iff sto_0 (fun x => clQ_0 rfl x)) kx2.rf fx.rf rfl rfl (by omega) (fun G19 nx220 r221 RL222 RH223 hN80 hN91 hN92 hq24 hq25 hq26 hq27 hq28 hq29 hfk hlk hsk => ?_)
      · have h87 := hfk.get h87 (by decide)
        have h88 := hfk.get h88 (by decide)
        have h93 := hfk.get h93 (by decide)
        have h89 := hfk.get h89 (by decide)
        have h90 := hfk.get h90 (by decide)
        have hfr := hfr.tr hfk (by decide)
        have hlen := hlk.trans hlen
        have hsl := hsk.trans hsl
        have h80 := hN80
        have h91 := hN91
        have h92 := hN92
        change ab_W _ _ _ G19 303 [some (vR 80), some (vz nt), none, some (vz nx220), none, none] [] _
        refine ab_iload_n d_MO_close_303 rfl ?_
        refine zz_if_eq (tgt := 314) d_MO_close_304 (by decide) (by omega) (fun c30 => ?_) (fun c30 => ?_)
        · refine ab_aload_n d_MO_close_314 rfl ?_
          refine ab_getf (fs := mof m_thrown m_taped m_length m_out m_wide g22 m_sets r221 m_nodes m_at m_flags m_fault m_place m_numbered m_depth m_value m_isNot m_least0 m_most0 m_slot m_work m_got m_rowMany m_charAt m_charWide m_trail m_isMatch m_matchGroups m_allFrom m_allBefore m_founds m_pieces m_writtenMany m_templateWide m_tooMuch) f_MO_37 d_MO_close_315 h80.2.2 rfl ?_
          refine ab_aload_n d_MO_close_318 rfl ?_
          refine ab_getf (fs := mof m_thrown m_taped m_length m_out m_wide g22 m_sets r221 m_nodes m_at m_flags m_fault m_place m_numbered m_depth m_value m_isNot m_least0 m_most0 m_slot m_work m_got m_rowMany m_charAt m_charWide m_trail m_isMatch m_matchGroups m_allFrom m_allBefore m_founds m_pieces m_writtenMany m_templateWide m_tooMuch) f_MO_258 d_MO_close_319 h80.2.2 rfl ?_
          refine ab_aload_n d_MO_close_322 rfl ?_
          refine ab_getf (fs := mof m_thrown m_taped m_length m_out m_wide g22 m_sets r221 m_nodes m_at m_flags m_fault m_place m_numbered m_depth m_value m_isNot m_least0 m_most0 m_slot m_work m_got m_rowMany m_charAt m_charWide m_trail m_isMatch m_matchGroups m_allFrom m_allBefore m_founds m_pieces m_writtenMany m_templateWide m_tooMuch) f_MO_248 d_MO_close_323 h80.2.2 rfl ?_
          refine ab_aload_n d_MO_close_326 rfl ?_
          refine ab_getf (fs := mof m_thrown m_taped m_length m_out m_wide g22 m_sets r221 m_nodes m_at m_flags m_fault m_place m_numbered m_depth m_value m_isNot m_least0 m_most0 m_slot m_work m_got m_rowMany m_charAt m_charWide m_trail m_isMatch m_matchGroups m_allFrom m_allBefore m_founds m_pieces m_writtenMany m_templateWide m_tooMuch) f_MO_34 d_MO_close_327 h80.2.2 rfl ?_
          refine ab_aload_n d_MO_close_330 rfl ?_
          refine ab_getf (fs := mof m_thrown m_taped m_length m_out m_wide g22 m_sets r221 m_nodes m_at m_flags m_fault m_place m_numbered m_depth m_value m_isNot m_least0 m_most0 m_slot m_work m_got m_rowMany m_charAt m_charWide m_trail m_isMatch m_matchGroups m_allFrom m_allBefore m_founds m_pieces m_writtenMany m_templateWide m_tooMuch) f_MO_258 d_MO_close_331 h80.2.2 rfl ?_
          refine zz_iald d_MO_close_334 h89 (by omega) ?_
          refine zz_top (zu_self _ _ _) ?_
          refine zz_isub d_MO_close_335 ?_
          refine zz_iast d_MO_close_336 h90 (by omega) (h90.2.1 (by decide)) ?_
          obtain ⟨G31, eG31⟩ : ∃ z : ab_G, z = List.set G19 90 (za 2100 (zu SM m_sets (r221 - m_ranges))) := ⟨_, rfl⟩
          have h80 := h80.keep h90 eG31 (by decide)
          have h87 := h87.keep h90 eG31 (by decide)
          have h88 := h88.keep h90 eG31 (by decide)
          have h93 := h93.keep h90 eG31 (by decide)
          have h91 := h91.keep h90 eG31 (by decide)
          have h92 := h92.keep h90 eG31 (by decide)
          have h89 := h89.keep h90 eG31 (by decide)
          have hlen := (z_len eG31).trans hlen
          have hsl := (z_sl h90 eG31 rfl).trans hsl
          have hfr := hfr.wr h90 eG31 (by decide)
          have h90 := h90.kept eG31
          change ab_W _ _ _ (List.set G19 90 (za 2100 (zu SM m_sets (r221 - m_ranges)))) 337 [some (vR 80), some (vz nt), none, some (vz nx220), none, none] [] _
          rw [← eG31]
          refine ab_aload_n d_MO_close_337 rfl ?_
          refine ab_dup d_MO_close_338 rfl ?_
          refine ab_getf (fs := mof m_thrown m_taped m_length m_out m_wide g22 m_sets r221 m_nodes m_at m_flags m_fault m_place m_numbered m_depth m_value m_isNot m_least0 m_most0 m_slot m_work m_got m_rowMany m_charAt m_charWide m_trail m_isMatch m_matchGroups m_allFrom m_allBefore m_founds m_pieces m_writtenMany m_templateWide m_tooMuch) f_MO_258 d_MO_close_339 h80.2.2 rfl ?_
          refine zz_iconst d_MO_close_342 ?_
          refine zz_iadd d_MO_close_343 ?_
          refine ab_putf (fs := mof m_thrown m_taped m_length m_out m_wide g22 m_sets r221 m_nodes m_at m_flags m_fault m_place m_numbered m_depth m_value m_isNot m_least0 m_most0 m_slot m_work m_got m_rowMany m_charAt m_charWide m_trail m_isMatch m_matchGroups m_allFrom m_allBefore m_founds m_pieces m_writtenMany m_templateWide m_tooMuch) f_MO_258 (Or.inl rfl) d_MO_close_344 h80.2.2 (Nat.le_of_ble_eq_true rfl) (fun _ => ⟨rfl, rfl⟩) (h80.2.1 (by decide)) ?_
          obtain ⟨G32, eG32⟩ : ∃ z : ab_G, z = List.set G31 80 (ab_ob 12 (mof m_thrown m_taped m_length m_out m_wide g22 (m_sets + 1) r221 m_nodes m_at m_flags m_fault m_place m_numbered m_depth m_value m_isNot m_least0 m_most0 m_slot m_work m_got m_rowMany m_charAt m_charWide m_trail m_isMatch m_matchGroups m_allFrom m_allBefore m_founds m_pieces m_writtenMany m_templateWide m_tooMuch)) := ⟨_, rfl⟩
          have h87 := h87.keep h80 eG32 (by decide)
          have h88 := h88.keep h80 eG32 (by decide)
          have h93 := h93.keep h80 eG32 (by decide)
          have h91 := h91.keep h80 eG32 (by decide)
          have h92 := h92.keep h80 eG32 (by decide)
          have h89 := h89.keep h80 eG32 (by decide)
          have h90 := h90.keep h80 eG32 (by decide)
          have hlen := (z_len eG32).trans hlen
          have hsl := (z_sl h80 eG32 rfl).trans hsl
          have hfr := hfr.wr h80 eG32 (by decide)
          have h80 := h80.kept eG32
          change ab_W _ _ _ (List.set G31 80 (ab_ob 12 (mof m_thrown m_taped m_length m_out m_wide g22 (m_sets + 1) r221 m_nodes m_at m_flags m_fault m_place m_numbered m_depth m_value m_isNot m_least0 m_most0 m_slot m_work m_got m_rowMany m_charAt m_charWide m_trail m_isMatch m_matchGroups m_allFrom m_allBefore m_founds m_pieces m_writtenMany m_templateWide m_tooMuch))) 347 [some (vR 80), some (vz nt), none, some (vz nx220), none, none] [] _
          rw [← eG32]
          refine ab_aload_n d_MO_close_347 rfl ?_
          refine ab_getf (fs := mof m_thrown m_taped m_length m_out m_wide g22 (m_sets + 1) r221 m_nodes m_at m_flags m_fault m_place m_numbered m_depth m_value m_isNot m_least0 m_most0 m_slot m_work m_got m_rowMany m_charAt m_charWide m_trail m_isMatch m_matchGroups m_allFrom m_allBefore m_founds m_pieces m_writtenMany m_templateWide m_tooMuch) f_MO_258 d_MO_close_348 h80.2.2 rfl ?_
          refine zz_iconst d_MO_close_351 ?_
          refine zz_isub d_MO_close_352 ?_
          refine zz_top (y := m_sets) (by omega) ?_
          change ab_W _ _ _ G32 353 [some (vR 80), some (vz nt), none, some (vz nx220), none, none] [vz m_sets] _
          refine zz_iret rfl d_MO_close_353 ?_
          rw [hQ]; exact ⟨_, _, _, _, _, _, rfl, hfr, hlen, hsl, h80, h87, h88, h91, h92, h89, h90, (by first | exact hq24 | exact rgs_w hq24 (by omega)), (by first | exact hq25 | exact rgs_w hq25 (by omega)), (by omega), (by exact sto_iff hq28 (fun x => by rw [show nt = 0 by omega]; exact clQ_e0 hq17 x)), (by exact hq27)⟩
        · refine ab_aload_n d_MO_close_307 rfl ?_
          refine ab_iload_n d_MO_close_308 rfl ?_
          refine zz_ldc 1114111 d_MO_close_309 cn_MO_236 (by decide) ?_
          refine ab_callV (d' := d - 1) (as := [vz nx220, vz 1114111]) (st := []) (r := _) (z_MO_storeCut (o := o) (m_thrown := m_thrown) (m_taped := m_taped) (m_length := m_length) (m_out := m_out) (m_wide := m_wide) (m_gathered := g22) (m_sets := m_sets) (m_ranges := r221) (m_nodes := m_nodes) (m_at := m_at) (m_flags := m_flags) (m_fault := m_fault) (m_place := m_place) (m_numbered := m_numbered) (m_depth := m_depth) (m_value := m_value) (m_isNot := m_isNot) (m_least0 := m_least0) (m_most0 := m_most0) (m_slot := m_slot) (m_work := m_work) (m_got := m_got) (m_rowMany := m_rowMany) (m_charAt := m_charAt) (m_charWide := m_charWide) (m_trail := m_trail) (m_isMatch := m_isMatch) (m_matchGroups := m_matchGroups) (m_allFrom := m_allFrom) (m_allBefore := m_allBefore) (m_founds := m_founds) (m_pieces := m_pieces) (m_writtenMany := m_writtenMany) (m_templateWide := m_templateWide) (m_tooMuch := m_tooMuch) (RL := RL222) (RH := RH223) (a := nx220) (b := 1114111) (r0 := m_ranges) (Q := (clQ nt LO213 HI214 n212 nx220)) (RL9 := RL) (RH9 := RH) h80 h91 h92 (by omega) (by omega) (by omega) (by omega) hq24 hq25 hq28 (by rw [show nt = 1 by omega]; exact clQ_nx hq16 (by omega) hq29) hq27 (by omega)) (fun oc G2 h => by rcases h with ⟨_, _, _, h, _⟩ <;> exact ⟨_, h⟩) (by omega) m_MO_storeCut ml_MO_261 im_MO_storeCut se_MO_storeCut c_MO h80.2.2 (Nat.le_of_ble_eq_true rfl) d_MO_close_311 rfl ?_
          intro v G33 hq
          rcases hq with ⟨r234, RL235, RH236, hv, hfk, hlk, hsk, hN80, hN91, hN92, hq37, hq38, hq39, hq40, hq41, hq42⟩
          cases hv
          have h87 := hfk.get h87 (by decide)
          have h88 := hfk.get h88 (by decide)
          have h93 := hfk.get h93 (by decide)
          have h89 := hfk.get h89 (by decide)
          have h90 := hfk.get h90 (by decide)
          have hfr := hfr.tr hfk (by decide)
          have hlen := hlk.trans hlen
          have hsl := hsk.trans hsl
          have h80 := hN80
          have h91 := hN91
          have h92 := hN92
          change ab_W _ _ _ G33 314 [some (vR 80), some (vz nt), none, some (vz nx220), none, none] [] _
          refine ab_aload_n d_MO_close_314 rfl ?_
          refine ab_getf (fs := mof m_thrown m_taped m_length m_out m_wide g22 m_sets r234 m_nodes m_at m_flags m_fault m_place m_numbered m_depth m_value m_isNot m_least0 m_most0 m_slot m_work m_got m_rowMany m_charAt m_charWide m_trail m_isMatch m_matchGroups m_allFrom m_allBefore m_founds m_pieces m_writtenMany m_templateWide m_tooMuch) f_MO_37 d_MO_close_315 h80.2.2 rfl ?_
          refine ab_aload_n d_MO_close_318 rfl ?_
          refine ab_getf (fs := mof m_thrown m_taped m_length m_out m_wide g22 m_sets r234 m_nodes m_at m_flags m_fault m_place m_numbered m_depth m_value m_isNot m_least0 m_most0 m_slot m_work m_got m_rowMany m_charAt m_charWide m_trail m_isMatch m_matchGroups m_allFrom m_allBefore m_founds m_pieces m_writtenMany m_templateWide m_tooMuch) f_MO_258 d_MO_close_319 h80.2.2 rfl ?_
          refine ab_aload_n d_MO_close_322 rfl ?_
          refine ab_getf (fs := mof m_thrown m_taped m_length m_out m_wide g22 m_sets r234 m_nodes m_at m_flags m_fault m_place m_numbered m_depth m_value m_isNot m_least0 m_most0 m_slot m_work m_got m_rowMany m_charAt m_charWide m_trail m_isMatch m_matchGroups m_allFrom m_allBefore m_founds m_pieces m_writtenMany m_templateWide m_tooMuch) f_MO_248 d_MO_close_323 h80.2.2 rfl ?_
          refine ab_aload_n d_MO_close_326 rfl ?_
          refine ab_getf (fs := mof m_thrown m_taped m_length m_out m_wide g22 m_sets r234 m_nodes m_at m_flags m_fault m_place m_numbered m_depth m_value m_isNot m_least0 m_most0 m_slot m_work m_got m_rowMany m_charAt m_charWide m_trail m_isMatch m_matchGroups m_allFrom m_allBefore m_founds m_pieces m_writtenMany m_templateWide m_tooMuch) f_MO_34 d_MO_close_327 h80.2.2 rfl ?_
          refine ab_aload_n d_MO_close_330 rfl ?_
          refine ab_getf (fs := mof m_thrown m_taped m_length m_out m_wide g22 m_sets r234 m_nodes m_at m_flags m_fault m_place m_numbered m_depth m_value m_isNot m_least0 m_most0 m_slot m_work m_got m_rowMany m_charAt m_charWide m_trail m_isMatch m_matchGroups m_allFrom m_allBefore m_founds m_pieces m_writtenMany m_templateWide m_tooMuch) f_MO_258 d_MO_close_331 h80.2.2 rfl ?_
          refine zz_iald d_MO_close_334 h89 (by omega) ?_
          refine zz_top (zu_self _ _ _) ?_
          refine zz_isub d_MO_close_335 ?_
          refine zz_iast d_MO_close_336 h90 (by omega) (h90.2.1 (by decide)) ?_
          obtain ⟨G43, eG43⟩ : ∃ z : ab_G, z = List.set G33 90 (za 2100 (zu SM m_sets (r234 - m_ranges))) := ⟨_, rfl⟩
          have h80 := h80.keep h90 eG43 (by decide)
          have h87 := h87.keep h90 eG43 (by decide)
          have h88 := h88.keep h90 eG43 (by decide)
          have h93 := h93.keep h90 eG43 (by decide)
          have h91 := h91.keep h90 eG43 (by decide)
          have h92 := h92.keep h90 eG43 (by decide)
          have h89 := h89.keep h90 eG43 (by decide)
          have hlen := (z_len eG43).trans hlen
          have hsl := (z_sl h90 eG43 rfl).trans hsl
          have hfr := hfr.wr h90 eG43 (by decide)
          have h90 := h90.kept eG43
          change ab_W _ _ _ (List.set G33 90 (za 2100 (zu SM m_sets (r234 - m_ranges)))) 337 [some (vR 80), some (vz nt), none, some (vz nx220), none, none] [] _
          rw [← eG43]
          refine ab_aload_n d_MO_close_337 rfl ?_
          refine ab_dup d_MO_close_338 rfl ?_
          refine ab_getf (fs := mof m_thrown m_taped m_length m_out m_wide g22 m_sets r234 m_nodes m_at m_flags m_fault m_place m_numbered m_depth m_value m_isNot m_least0 m_most0 m_slot m_work m_got m_rowMany m_charAt m_charWide m_trail m_isMatch m_matchGroups m_allFrom m_allBefore m_founds m_pieces m_writtenMany m_templateWide m_tooMuch) f_MO_258 d_MO_close_339 h80.2.2 rfl ?_
          refine zz_iconst d_MO_close_342 ?_
          refine zz_iadd d_MO_close_343 ?_
          refine ab_putf (fs := mof m_thrown m_taped m_length m_out m_wide g22 m_sets r234 m_nodes m_at m_flags m_fault m_place m_numbered m_depth m_value m_isNot m_least0 m_most0 m_slot m_work m_got m_rowMany m_charAt m_charWide m_trail m_isMatch m_matchGroups m_allFrom m_allBefore m_founds m_pieces m_writtenMany m_templateWide m_tooMuch) f_MO_258 (Or.inl rfl) d_MO_close_344 h80.2.2 (Nat.le_of_ble_eq_true rfl) (fun _ => ⟨rfl, rfl⟩) (h80.2.1 (by decide)) ?_
          obtain ⟨G44, eG44⟩ : ∃ z : ab_G, z = List.set G43 80 (ab_ob 12 (mof m_thrown m_taped m_length m_out m_wide g22 (m_sets + 1) r234 m_nodes m_at m_flags m_fault m_place m_numbered m_depth m_value m_isNot m_least0 m_most0 m_slot m_work m_got m_rowMany m_charAt m_charWide m_trail m_isMatch m_matchGroups m_allFrom m_allBefore m_founds m_pieces m_writtenMany m_templateWide m_tooMuch)) := ⟨_, rfl⟩
          have h87 := h87.keep h80 eG44 (by decide)
          have h88 := h88.keep h80 eG44 (by decide)
          have h93 := h93.keep h80 eG44 (by decide)
          have h91 := h91.keep h80 eG44 (by decide)
          have h92 := h92.keep h80 eG44 (by decide)
          have h89 := h89.keep h80 eG44 (by decide)
          have h90 := h90.keep h80 eG44 (by decide)
          have hlen := (z_len eG44).trans hlen
          have hsl := (z_sl h80 eG44 rfl).trans hsl
          have hfr := hfr.wr h80 eG44 (by decide)
          have h80 := h80.kept eG44
          change ab_W _ _ _ (List.set G43 80 (ab_ob 12 (mof m_thrown m_taped m_length m_out m_wide g22 (m_sets + 1) r234 m_nodes m_at m_flags m_fault m_place m_numbered m_depth m_value m_isNot m_least0 m_most0 m_slot m_work m_got m_rowMany m_charAt m_charWide m_trail m_isMatch m_matchGroups m_allFrom m_allBefore m_founds m_pieces m_writtenMany m_templateWide m_tooMuch))) 347 [some (vR 80), some (vz nt), none, some (vz nx220), none, none] [] _
          rw [← eG44]
          refine ab_aload_n d_MO_close_347 rfl ?_
          refine ab_getf (fs := mof m_thrown m_taped m_length m_out m_wide g22 (m_sets + 1) r234 m_nodes m_at m_flags m_fault m_place m_numbered m_depth m_value m_isNot m_least0 m_most0 m_slot m_work m_got m_rowMany m_charAt m_charWide m_trail m_isMatch m_matchGroups m_allFrom m_allBefore m_founds m_pieces m_writtenMany m_templateWide m_tooMuch) f_MO_258 d_MO_close_348 h80.2.2 rfl ?_
          refine zz_iconst d_MO_close_351 ?_
          refine zz_isub d_MO_close_352 ?_
          refine zz_top (y := m_sets) (by omega) ?_
          change ab_W _ _ _ G44 353 [some (vR 80), some (vz nt), none, some (vz nx220), none, none] [vz m_sets] _
          refine zz_iret rfl d_MO_close_353 ?_
          rw [hQ]; exact ⟨_, _, _, _, _, _, rfl, hfr, hlen, hsl, h80, h87, h88, h91, h92, h89, h90, (by first | exact hq37 | exact rgs_w hq37 (by omega)), (by first | exact hq38 | exact rgs_w hq38 (by omega)), (by omega), (by exact sto_iff hq41 (fun x => by rw [show nt = 1 by omega]; exact clQ_e1 hq16 (by omega) hq29 (by omega) hq17 x)), (by exact hq42)⟩
