set_option maxRecDepth 100000 in
set_option maxHeartbeats 4000000 in
theorem y_MO_undo_0 {X : ab_X} {d : Nat} {Q : Outcome → ab_G → Prop} {o : Nat → Nat} {G0 : ab_G} {m_thrown : Int} {m_taped : Int} {m_length : Int} {m_out : Int} {m_wide : Int} {m_gathered : Int} {m_sets : Int} {m_ranges : Int} {m_nodes : Int} {m_at : Int} {m_flags : Int} {m_fault : Int} {m_place : Int} {m_numbered : Int} {m_depth : Int} {m_value : Int} {m_isNot : Int} {m_least0 : Int} {m_most0 : Int} {m_slot : Int} {m_work : Int} {m_got : Int} {m_rowMany : Int} {m_charAt : Int} {m_charWide : Int} {m_isMatch : Int} {m_matchGroups : Int} {m_allFrom : Int} {m_allBefore : Int} {m_founds : Int} {m_pieces : Int} {m_writtenMany : Int} {m_templateWide : Int} {m_tooMuch : Int} {TS : Int → Int} {TO : Int → Int} {to : Int} {tr0 : Int} {SP0 : Int → Int} (n18 : ab_n0 = 18) (jts : rgs TS 12500 0 19) (jto : rgs TO 12500 (-1) 2000) (ct : 0 ≤ to ∧ to ≤ 12500) (hd : 1 ≤ d) : ∀ (mz : Nat) {G : ab_G} {tr : Int} {SP : Int → Int}, (cc o G 80 280 (ab_ob 12 (mof m_thrown m_taped m_length m_out m_wide m_gathered m_sets m_ranges m_nodes m_at m_flags m_fault m_place m_numbered m_depth m_value m_isNot m_least0 m_most0 m_slot m_work m_got m_rowMany m_charAt m_charWide tr m_isMatch m_matchGroups m_allFrom m_allBefore m_founds m_pieces m_writtenMany m_templateWide m_tooMuch))) → (cc o G 138 338 (za 20 SP)) → (cc o G 140 340 (za 12500 TS)) → (cc o G 141 341 (za 12500 TO)) → (0 ≤ tr ∧ tr ≤ tr0 ∧ tr0 ≤ 12500) → (rgs SP 20 (-1) 2000) → (unI TS TO SP0 tr0 SP tr to) → (fx o o [280, 338] G0 G) → (G.length = G0.length) → (ab_slots G = ab_slots G0) → (Int.toNat tr < mz) → (∀ (G2 : ab_G) (t2 : Int) (SP2 : Int → Int), (cc o G2 80 280 (ab_ob 12 (mof m_thrown m_taped m_length m_out m_wide m_gathered m_sets m_ranges m_nodes m_at m_flags m_fault m_place m_numbered m_depth m_value m_isNot m_least0 m_most0 m_slot m_work m_got m_rowMany m_charAt m_charWide t2 m_isMatch m_matchGroups m_allFrom m_allBefore m_founds m_pieces m_writtenMany m_templateWide m_tooMuch))) → (cc o G2 138 338 (za 20 SP2)) → (0 ≤ t2 ∧ t2 ≤ tr0) → (rgs SP2 20 (-1) 2000) → (unK TS TO SP0 tr0 SP2 t2 to) → (fx o o [280, 338] G0 G2) → (G2.length = G0.length) → (ab_slots G2 = ab_slots G0) → ab_W X (ab_pl y_MO_undo b_MO_undo 2 none) d G2 44 [none, none] [] Q) → ab_W X (ab_pl y_MO_undo b_MO_undo 2 none) d G 0 [some (vR 80), some (vz to)] [] Q := by
  intro mz
  induction mz with
  | zero => intro G tr SP h80 h138 h140 h141 ci jsp ju hfr hlen hsl hm hk0; exact absurd hm (Nat.not_lt_zero _)
  | succ mz ih =>
    intro G tr SP h80 h138 h140 h141 ci jsp ju hfr hlen hsl hm hk0
    refine ab_aload_n d_MO_undo_0 rfl ?_
    refine ab_getf (fs := mof m_thrown m_taped m_length m_out m_wide m_gathered m_sets m_ranges m_nodes m_at m_flags m_fault m_place m_numbered m_depth m_value m_isNot m_least0 m_most0 m_slot m_work m_got m_rowMany m_charAt m_charWide tr m_isMatch m_matchGroups m_allFrom m_allBefore m_founds m_pieces m_writtenMany m_templateWide m_tooMuch) f_MO_540 d_MO_undo_1 h80.2.2 rfl ?_
    refine ab_iload_n d_MO_undo_4 rfl ?_
    refine zz_icmp_le (tgt := 44) d_MO_undo_5 (by decide) (by omega) (by omega) (fun c1 => ?_) (fun c1 => ?_)
    · refine ab_less (L' := [none, none]) (fun i v h => by rcases i with _ | _ | i <;> first | exact h | (simp at h)) ?_
      exact hk0 _ _ _ h80 h138 (by omega) (by first | exact jsp | exact rgs_w jsp (by omega)) (by exact unK_of ju (by omega)) hfr hlen hsl
    · refine ab_aload_n d_MO_undo_8 rfl ?_
      refine ab_dup d_MO_undo_9 rfl ?_
      refine ab_getf (fs := mof m_thrown m_taped m_length m_out m_wide m_gathered m_sets m_ranges m_nodes m_at m_flags m_fault m_place m_numbered m_depth m_value m_isNot m_least0 m_most0 m_slot m_work m_got m_rowMany m_charAt m_charWide tr m_isMatch m_matchGroups m_allFrom m_allBefore m_founds m_pieces m_writtenMany m_templateWide m_tooMuch) f_MO_540 d_MO_undo_10 h80.2.2 rfl ?_
      refine zz_iconst d_MO_undo_13 ?_
      refine zz_isub d_MO_undo_14 ?_
      refine ab_putf (fs := mof m_thrown m_taped m_length m_out m_wide m_gathered m_sets m_ranges m_nodes m_at m_flags m_fault m_place m_numbered m_depth m_value m_isNot m_least0 m_most0 m_slot m_work m_got m_rowMany m_charAt m_charWide tr m_isMatch m_matchGroups m_allFrom m_allBefore m_founds m_pieces m_writtenMany m_templateWide m_tooMuch) f_MO_540 (Or.inl rfl) d_MO_undo_15 h80.2.2 (Nat.le_of_ble_eq_true rfl) (fun _ => ⟨rfl, rfl⟩) (h80.2.1 (by decide)) ?_
      obtain ⟨G2, eG2⟩ : ∃ z : ab_G, z = List.set G 80 (ab_ob 12 (mof m_thrown m_taped m_length m_out m_wide m_gathered m_sets m_ranges m_nodes m_at m_flags m_fault m_place m_numbered m_depth m_value m_isNot m_least0 m_most0 m_slot m_work m_got m_rowMany m_charAt m_charWide (tr - 1) m_isMatch m_matchGroups m_allFrom m_allBefore m_founds m_pieces m_writtenMany m_templateWide m_tooMuch)) := ⟨_, rfl⟩
      have h138 := h138.keep h80 eG2 (by decide)
      have h140 := h140.keep h80 eG2 (by decide)
      have h141 := h141.keep h80 eG2 (by decide)
      have hlen := (z_len eG2).trans hlen
      have hsl := (z_sl h80 eG2 rfl).trans hsl
      have hfr := hfr.wr h80 eG2 (by decide)
      have h80 := h80.kept eG2
      change ab_W _ _ _ (List.set G 80 (ab_ob 12 (mof m_thrown m_taped m_length m_out m_wide m_gathered m_sets m_ranges m_nodes m_at m_flags m_fault m_place m_numbered m_depth m_value m_isNot m_least0 m_most0 m_slot m_work m_got m_rowMany m_charAt m_charWide (tr - 1) m_isMatch m_matchGroups m_allFrom m_allBefore m_founds m_pieces m_writtenMany m_templateWide m_tooMuch))) 18 [some (vR 80), some (vz to)] [] _
      rw [← eG2]
      refine ab_aload_n d_MO_undo_18 rfl ?_
      refine ab_getf (fs := mof m_thrown m_taped m_length m_out m_wide m_gathered m_sets m_ranges m_nodes m_at m_flags m_fault m_place m_numbered m_depth m_value m_isNot m_least0 m_most0 m_slot m_work m_got m_rowMany m_charAt m_charWide (tr - 1) m_isMatch m_matchGroups m_allFrom m_allBefore m_founds m_pieces m_writtenMany m_templateWide m_tooMuch) f_MO_190 d_MO_undo_19 h80.2.2 rfl ?_
      refine ab_aload_n d_MO_undo_22 rfl ?_
      refine ab_getf (fs := mof m_thrown m_taped m_length m_out m_wide m_gathered m_sets m_ranges m_nodes m_at m_flags m_fault m_place m_numbered m_depth m_value m_isNot m_least0 m_most0 m_slot m_work m_got m_rowMany m_charAt m_charWide (tr - 1) m_isMatch m_matchGroups m_allFrom m_allBefore m_founds m_pieces m_writtenMany m_templateWide m_tooMuch) f_MO_196 d_MO_undo_23 h80.2.2 rfl ?_
      refine ab_aload_n d_MO_undo_26 rfl ?_
      refine ab_getf (fs := mof m_thrown m_taped m_length m_out m_wide m_gathered m_sets m_ranges m_nodes m_at m_flags m_fault m_place m_numbered m_depth m_value m_isNot m_least0 m_most0 m_slot m_work m_got m_rowMany m_charAt m_charWide (tr - 1) m_isMatch m_matchGroups m_allFrom m_allBefore m_founds m_pieces m_writtenMany m_templateWide m_tooMuch) f_MO_540 d_MO_undo_27 h80.2.2 rfl ?_
      refine zz_iald d_MO_undo_30 h140 (by omega) ?_
      have hq3 := jts (tr - 1) (by omega) (by omega)
      refine ab_aload_n d_MO_undo_31 rfl ?_
      refine ab_getf (fs := mof m_thrown m_taped m_length m_out m_wide m_gathered m_sets m_ranges m_nodes m_at m_flags m_fault m_place m_numbered m_depth m_value m_isNot m_least0 m_most0 m_slot m_work m_got m_rowMany m_charAt m_charWide (tr - 1) m_isMatch m_matchGroups m_allFrom m_allBefore m_founds m_pieces m_writtenMany m_templateWide m_tooMuch) f_MO_199 d_MO_undo_32 h80.2.2 rfl ?_
      refine ab_aload_n d_MO_undo_35 rfl ?_
      refine ab_getf (fs := mof m_thrown m_taped m_length m_out m_wide m_gathered m_sets m_ranges m_nodes m_at m_flags m_fault m_place m_numbered m_depth m_value m_isNot m_least0 m_most0 m_slot m_work m_got m_rowMany m_charAt m_charWide (tr - 1) m_isMatch m_matchGroups m_allFrom m_allBefore m_founds m_pieces m_writtenMany m_templateWide m_tooMuch) f_MO_540 d_MO_undo_36 h80.2.2 rfl ?_
      refine zz_iald d_MO_undo_39 h141 (by omega) ?_
      have hq4 := jto (tr - 1) (by omega) (by omega)
      refine zz_iast d_MO_undo_40 h138 (by omega) (h138.2.1 (by decide)) ?_
      obtain ⟨G5, eG5⟩ : ∃ z : ab_G, z = List.set G2 138 (za 20 (zu SP (TS (tr - 1)) (TO (tr - 1)))) := ⟨_, rfl⟩
      have h80 := h80.keep h138 eG5 (by decide)
      have h140 := h140.keep h138 eG5 (by decide)
      have h141 := h141.keep h138 eG5 (by decide)
      have hlen := (z_len eG5).trans hlen
      have hsl := (z_sl h138 eG5 rfl).trans hsl
      have hfr := hfr.wr h138 eG5 (by decide)
      have h138 := h138.kept eG5
      change ab_W _ _ _ (List.set G2 138 (za 20 (zu SP (TS (tr - 1)) (TO (tr - 1))))) 41 [some (vR 80), some (vz to)] [] _
      rw [← eG5]
      refine ab_goto (tgt := 0) d_MO_undo_41 (by decide) ?_
      exact ih (tr := (tr - 1)) (SP := (zu SP (TS (tr - 1)) (TO (tr - 1)))) h80 h138 h140 h141 (by omega) (rgs_zu jsp (by omega)) (unI_s ju (by omega)) hfr hlen hsl (by omega) hk0
set_option maxRecDepth 100000 in
set_option maxHeartbeats 4000000 in
theorem z_MO_undo {X : ab_X} {d : Nat} {o : Nat → Nat} {G : ab_G} {m_thrown : Int} {m_taped : Int} {m_length : Int} {m_out : Int} {m_wide : Int} {m_gathered : Int} {m_sets : Int} {m_ranges : Int} {m_nodes : Int} {m_at : Int} {m_flags : Int} {m_fault : Int} {m_place : Int} {m_numbered : Int} {m_depth : Int} {m_value : Int} {m_isNot : Int} {m_least0 : Int} {m_most0 : Int} {m_slot : Int} {m_work : Int} {m_got : Int} {m_rowMany : Int} {m_charAt : Int} {m_charWide : Int} {m_trail : Int} {m_isMatch : Int} {m_matchGroups : Int} {m_allFrom : Int} {m_allBefore : Int} {m_founds : Int} {m_pieces : Int} {m_writtenMany : Int} {m_templateWide : Int} {m_tooMuch : Int} {SP : Int → Int} {TS : Int → Int} {TO : Int → Int} {to : Int} (h80 : cc o G 80 280 (ab_ob 12 (mof m_thrown m_taped m_length m_out m_wide m_gathered m_sets m_ranges m_nodes m_at m_flags m_fault m_place m_numbered m_depth m_value m_isNot m_least0 m_most0 m_slot m_work m_got m_rowMany m_charAt m_charWide m_trail m_isMatch m_matchGroups m_allFrom m_allBefore m_founds m_pieces m_writtenMany m_templateWide m_tooMuch))) (h138 : cc o G 138 338 (za 20 SP)) (h140 : cc o G 140 340 (za 12500 TS)) (h141 : cc o G 141 341 (za 12500 TO)) (n18 : ab_n0 = 18) (jts : rgs TS 12500 0 19) (jto : rgs TO 12500 (-1) 2000) (ct : 0 ≤ to ∧ to ≤ 12500) (ci : 0 ≤ m_trail ∧ m_trail ≤ 12500) (jsp : rgs SP 20 (-1) 2000) (hd : 2 ≤ d) : ab_F X d y_MO_undo (.code y_MO_undo b_MO_undo 2 none) [vR 80, vz to] G (fun oc G2 => ∃ t2 : Int, ∃ SP2 : Int → Int, oc = .returned none ∧ fx o o [280, 338] G G2 ∧ G2.length = G.length ∧ ab_slots G2 = ab_slots G ∧ cc o G2 80 280 (ab_ob 12 (mof m_thrown m_taped m_length m_out m_wide m_gathered m_sets m_ranges m_nodes m_at m_flags m_fault m_place m_numbered m_depth m_value m_isNot m_least0 m_most0 m_slot m_work m_got m_rowMany m_charAt m_charWide t2 m_isMatch m_matchGroups m_allFrom m_allBefore m_founds m_pieces m_writtenMany m_templateWide m_tooMuch)) ∧ cc o G2 138 338 (za 20 SP2) ∧ (0 ≤ t2 ∧ t2 ≤ m_trail) ∧ (rgs SP2 20 (-1) 2000) ∧ (unK TS TO SP m_trail SP2 t2 to)) := by
  refine ab_F_of (by decide +kernel) (Nat.le_of_ble_eq_true rfl) ?_
  obtain ⟨Q, hQ⟩ : ∃ z : Outcome → ab_G → Prop, z = (fun oc G2 => ∃ t2 : Int, ∃ SP2 : Int → Int, oc = .returned none ∧ fx o o [280, 338] G G2 ∧ G2.length = G.length ∧ ab_slots G2 = ab_slots G ∧ cc o G2 80 280 (ab_ob 12 (mof m_thrown m_taped m_length m_out m_wide m_gathered m_sets m_ranges m_nodes m_at m_flags m_fault m_place m_numbered m_depth m_value m_isNot m_least0 m_most0 m_slot m_work m_got m_rowMany m_charAt m_charWide t2 m_isMatch m_matchGroups m_allFrom m_allBefore m_founds m_pieces m_writtenMany m_templateWide m_tooMuch)) ∧ cc o G2 138 338 (za 20 SP2) ∧ (0 ≤ t2 ∧ t2 ≤ m_trail) ∧ (rgs SP2 20 (-1) 2000) ∧ (unK TS TO SP m_trail SP2 t2 to)) := ⟨_, rfl⟩
  rw [← hQ]
  change ab_W X (ab_pl y_MO_undo b_MO_undo 2 none) d G 0 [some (vR 80), some (vz to)] [] Q
  have hfr : fx o o [280, 338] G G := fx.rf
  have hlen : G.length = G.length := rfl
  have hsl : ab_slots G = ab_slots G := rfl
  refine y_MO_undo_0 (m_thrown := m_thrown) (m_taped := m_taped) (m_length := m_length) (m_out := m_out) (m_wide := m_wide) (m_gathered := m_gathered) (m_sets := m_sets) (m_ranges := m_ranges) (m_nodes := m_nodes) (m_at := m_at) (m_flags := m_flags) (m_fault := m_fault) (m_place := m_place) (m_numbered := m_numbered) (m_depth := m_depth) (m_value := m_value) (m_isNot := m_isNot) (m_least0 := m_least0) (m_most0 := m_most0) (m_slot := m_slot) (m_work := m_work) (m_got := m_got) (m_rowMany := m_rowMany) (m_charAt := m_charAt) (m_charWide := m_charWide) (m_isMatch := m_isMatch) (m_matchGroups := m_matchGroups) (m_allFrom := m_allFrom) (m_allBefore := m_allBefore) (m_founds := m_founds) (m_pieces := m_pieces) (m_writtenMany := m_writtenMany) (m_templateWide := m_templateWide) (m_tooMuch := m_tooMuch) (TS := TS) (TO := TO) (to := to) (tr0 := m_trail) (SP0 := SP) (G0 := G) (tr := m_trail) (SP := SP) (by omega) jts jto (by omega) (by omega) (Int.toNat m_trail + 1) h80 h138 h140 h141 (by omega) jsp unI_0 fx.rf rfl rfl (by omega) (fun G1 t22 SP23 hN80 hN138 hq4 hq5 hq6 hfk hlk hsk => ?_)
  · have h140 := hfk.get h140 (by decide)
    have h141 := hfk.get h141 (by decide)
    have hfr := hfr.tr hfk (by decide)
    have hlen := hlk.trans hlen
    have hsl := hsk.trans hsl
    have h80 := hN80
    have h138 := hN138
    change ab_W _ _ _ G1 44 [none, none] [] _
    refine ab_vret rfl d_MO_undo_44 ?_
    rw [hQ]; exact ⟨_, _, rfl, hfr, hlen, hsl, h80, h138, (by omega), (by first | exact hq5 | exact rgs_w hq5 (by omega)), (by exact hq6)⟩
set_option maxRecDepth 100000 in
set_option maxHeartbeats 4000000 in
theorem z_MO_lay {X : ab_X} {d : Nat} {o : Nat → Nat} {G : ab_G} {m_thrown : Int} {m_taped : Int} {m_length : Int} {m_out : Int} {m_wide : Int} {m_gathered : Int} {m_sets : Int} {m_ranges : Int} {m_nodes : Int} {m_at : Int} {m_flags : Int} {m_fault : Int} {m_place : Int} {m_numbered : Int} {m_depth : Int} {m_value : Int} {m_isNot : Int} {m_least0 : Int} {m_most0 : Int} {m_slot : Int} {m_work : Int} {m_got : Int} {m_rowMany : Int} {m_charAt : Int} {m_charWide : Int} {m_trail : Int} {m_isMatch : Int} {m_matchGroups : Int} {m_allFrom : Int} {m_allBefore : Int} {m_founds : Int} {m_pieces : Int} {m_writtenMany : Int} {m_templateWide : Int} {m_tooMuch : Int} {PL : Int → Int} {PT : Int → Int} {x : Int} {m : Int} (h80 : cc o G 80 280 (ab_ob 12 (mof m_thrown m_taped m_length m_out m_wide m_gathered m_sets m_ranges m_nodes m_at m_flags m_fault m_place m_numbered m_depth m_value m_isNot m_least0 m_most0 m_slot m_work m_got m_rowMany m_charAt m_charWide m_trail m_isMatch m_matchGroups m_allFrom m_allBefore m_founds m_pieces m_writtenMany m_templateWide m_tooMuch))) (h142 : cc o G 142 342 (za 25000 PL)) (h143 : cc o G 143 343 (za 25000 PT)) (n18 : ab_n0 = 18) (cm : 0 ≤ m ∧ m < 25000) : ab_F X d y_MO_lay (.code y_MO_lay b_MO_lay 3 none) [vR 80, vz x, vz m] G (fun oc G2 => oc = .returned none ∧ fx o o [342, 343] G G2 ∧ G2.length = G.length ∧ ab_slots G2 = ab_slots G ∧ cc o G2 142 342 (za 25000 (zu PL m x)) ∧ cc o G2 143 343 (za 25000 (zu PT m m_trail))) := by
  refine ab_F_of (by decide +kernel) (Nat.le_of_ble_eq_true rfl) ?_
  obtain ⟨Q, hQ⟩ : ∃ z : Outcome → ab_G → Prop, z = (fun oc G2 => oc = .returned none ∧ fx o o [342, 343] G G2 ∧ G2.length = G.length ∧ ab_slots G2 = ab_slots G ∧ cc o G2 142 342 (za 25000 (zu PL m x)) ∧ cc o G2 143 343 (za 25000 (zu PT m m_trail))) := ⟨_, rfl⟩
  rw [← hQ]
  change ab_W X (ab_pl y_MO_lay b_MO_lay 3 none) d G 0 [some (vR 80), some (vz x), some (vz m)] [] Q
  have hfr : fx o o [342, 343] G G := fx.rf
  have hlen : G.length = G.length := rfl
  have hsl : ab_slots G = ab_slots G := rfl
  refine ab_aload_n d_MO_lay_0 rfl ?_
  refine ab_getf (fs := mof m_thrown m_taped m_length m_out m_wide m_gathered m_sets m_ranges m_nodes m_at m_flags m_fault m_place m_numbered m_depth m_value m_isNot m_least0 m_most0 m_slot m_work m_got m_rowMany m_charAt m_charWide m_trail m_isMatch m_matchGroups m_allFrom m_allBefore m_founds m_pieces m_writtenMany m_templateWide m_tooMuch) f_MO_202 d_MO_lay_1 h80.2.2 rfl ?_
  refine ab_iload_n d_MO_lay_4 rfl ?_
  refine ab_iload_n d_MO_lay_5 rfl ?_
  refine zz_iast d_MO_lay_6 h142 (by omega) (h142.2.1 (by decide)) ?_
  obtain ⟨G1, eG1⟩ : ∃ z : ab_G, z = List.set G 142 (za 25000 (zu PL m x)) := ⟨_, rfl⟩
  have h80 := h80.keep h142 eG1 (by decide)
  have h143 := h143.keep h142 eG1 (by decide)
  have hlen := (z_len eG1).trans hlen
  have hsl := (z_sl h142 eG1 rfl).trans hsl
  have hfr := hfr.wr h142 eG1 (by decide)
  have h142 := h142.kept eG1
  change ab_W _ _ _ (List.set G 142 (za 25000 (zu PL m x))) 7 [some (vR 80), some (vz x), some (vz m)] [] _
  rw [← eG1]
  refine ab_aload_n d_MO_lay_7 rfl ?_
  refine ab_getf (fs := mof m_thrown m_taped m_length m_out m_wide m_gathered m_sets m_ranges m_nodes m_at m_flags m_fault m_place m_numbered m_depth m_value m_isNot m_least0 m_most0 m_slot m_work m_got m_rowMany m_charAt m_charWide m_trail m_isMatch m_matchGroups m_allFrom m_allBefore m_founds m_pieces m_writtenMany m_templateWide m_tooMuch) f_MO_205 d_MO_lay_8 h80.2.2 rfl ?_
  refine ab_iload_n d_MO_lay_11 rfl ?_
  refine ab_aload_n d_MO_lay_12 rfl ?_
  refine ab_getf (fs := mof m_thrown m_taped m_length m_out m_wide m_gathered m_sets m_ranges m_nodes m_at m_flags m_fault m_place m_numbered m_depth m_value m_isNot m_least0 m_most0 m_slot m_work m_got m_rowMany m_charAt m_charWide m_trail m_isMatch m_matchGroups m_allFrom m_allBefore m_founds m_pieces m_writtenMany m_templateWide m_tooMuch) f_MO_540 d_MO_lay_13 h80.2.2 rfl ?_
  refine zz_iast d_MO_lay_16 h143 (by omega) (h143.2.1 (by decide)) ?_
  obtain ⟨G2, eG2⟩ : ∃ z : ab_G, z = List.set G1 143 (za 25000 (zu PT m m_trail)) := ⟨_, rfl⟩
  have h80 := h80.keep h143 eG2 (by decide)
  have h142 := h142.keep h143 eG2 (by decide)
  have hlen := (z_len eG2).trans hlen
  have hsl := (z_sl h143 eG2 rfl).trans hsl
  have hfr := hfr.wr h143 eG2 (by decide)
  have h143 := h143.kept eG2
  change ab_W _ _ _ (List.set G1 143 (za 25000 (zu PT m m_trail))) 17 [some (vR 80), some (vz x), some (vz m)] [] _
  rw [← eG2]
  refine ab_vret rfl d_MO_lay_17 ?_
  rw [hQ]; exact ⟨rfl, hfr, hlen, hsl, h142, h143⟩
set_option maxRecDepth 100000 in
set_option maxHeartbeats 4000000 in
theorem z_MO_onward {X : ab_X} {d : Nat} {o : Nat → Nat} {G : ab_G} {m_thrown : Int} {m_taped : Int} {m_length : Int} {m_out : Int} {m_wide : Int} {m_gathered : Int} {m_sets : Int} {m_ranges : Int} {m_nodes : Int} {m_at : Int} {m_flags : Int} {m_fault : Int} {m_place : Int} {m_numbered : Int} {m_depth : Int} {m_value : Int} {m_isNot : Int} {m_least0 : Int} {m_most0 : Int} {m_slot : Int} {m_work : Int} {m_got : Int} {m_rowMany : Int} {m_charAt : Int} {m_charWide : Int} {m_trail : Int} {m_isMatch : Int} {m_matchGroups : Int} {m_allFrom : Int} {m_allBefore : Int} {m_founds : Int} {m_pieces : Int} {m_writtenMany : Int} {m_templateWide : Int} {m_tooMuch : Int} {A_subject : Int → Int} {A_step : Int → Int} {A_next : Int → Int} {A_more : Int → Int} {A_classAt : Int → Int} {A_classMany : Int → Int} {s : Int} {n : Int} {p : Int} {SP : Int → Int} {PL : Int → Int} {PT : Int → Int} {TS : Int → Int} {TO : Int → Int} {x : Int} {m : Int} (h80 : cc o G 80 280 (ab_ob 12 (mof m_thrown m_taped m_length m_out m_wide m_gathered m_sets m_ranges m_nodes m_at m_flags m_fault m_place m_numbered m_depth m_value m_isNot m_least0 m_most0 m_slot m_work m_got m_rowMany m_charAt m_charWide m_trail m_isMatch m_matchGroups m_allFrom m_allBefore m_founds m_pieces m_writtenMany m_templateWide m_tooMuch))) (h138 : cc o G 138 338 (za 20 SP)) (h142 : cc o G 142 342 (za 25000 PL)) (h143 : cc o G 143 343 (za 25000 PT)) (h140 : cc o G 140 340 (za 12500 TS)) (h141 : cc o G 141 341 (za 12500 TO)) (h118 : cc o G 118 318 (za 75000 A_step)) (h119 : cc o G 119 319 (za 75000 A_next)) (h120 : cc o G 120 320 (za 75000 A_more)) (h85 : cc o G 85 285 (za 2000 A_subject)) (n18 : ab_n0 = 18) (cle : 0 ≤ m_length ∧ m_length ≤ 2000) (cs : 0 ≤ s ∧ s ≤ 5 ∧ 0 ≤ n ∧ n ≤ 12500) (jsg : sgood A_step A_next A_more A_classAt A_classMany (12500 * s) n) (jst : rgs A_step 75000 0 6) (jsb : rgs A_subject 2000 0 255) (cx : 0 ≤ x ∧ x < n ∧ 0 ≤ p ∧ p ≤ m_length ∧ 3 ≤ A_step ((12500 * s) + x) ∧ 0 ≤ m ∧ m ≤ 12501 ∧ 0 ≤ m_trail ∧ m_trail < 12500) (jsp : rgs SP 20 (-1) 2000) (jpt : rgs PT 25000 0 12500) (jts : rgs TS 12500 0 19) (jto : rgs TO 12500 (-1) 2000) (jpl : rgs PL m 0 (n - 1)) (hd : 3 ≤ d) : ab_F X d y_MO_onward (.code y_MO_onward b_MO_onward 4 (some (.int))) [vR 80, vz ((12500 * s) + x), vz p, vz m] G (fun oc G2 => (∃ SP2 : Int → Int, ∃ PL2 : Int → Int, ∃ PT2 : Int → Int, ∃ TS2 : Int → Int, ∃ TO2 : Int → Int, ∃ t2 : Int, oc = .returned (some (vz m)) ∧ fx o o [280, 338, 342, 343, 340, 341] G G2 ∧ G2.length = G.length ∧ ab_slots G2 = ab_slots G ∧ cc o G2 80 280 (ab_ob 12 (mof m_thrown m_taped m_length m_out m_wide m_gathered m_sets m_ranges m_nodes m_at m_flags m_fault m_place m_numbered m_depth m_value m_isNot m_least0 m_most0 m_slot m_work m_got m_rowMany m_charAt m_charWide t2 m_isMatch m_matchGroups m_allFrom m_allBefore m_founds m_pieces m_writtenMany m_templateWide m_tooMuch)) ∧ cc o G2 138 338 (za 20 SP2) ∧ cc o G2 142 342 (za 25000 PL2) ∧ cc o G2 143 343 (za 25000 PT2) ∧ cc o G2 140 340 (za 12500 TS2) ∧ cc o G2 141 341 (za 12500 TO2) ∧ (rgs SP2 20 (-1) 2000) ∧ (rgs PT2 25000 0 12500) ∧ (rgs TS2 12500 0 19) ∧ (rgs TO2 12500 (-1) 2000) ∧ (0 ≤ t2 ∧ t2 ≤ m_trail + 1) ∧ (∀ j : Int, 0 ≤ j → j < m → PL2 j = PL j) ∧ (rgs PL2 m 0 (n - 1)) ∧ (A_step ((12500 * s) + x) = 6 ∨ (A_step ((12500 * s) + x) = 5 ∧ ¬ mhld A_subject m_length p (A_more ((12500 * s) + x)))) ∧ (onA PL PT TS TO SP m_trail PL2 PT2 TS2 TO2 SP2 t2)) ∨ (∃ SP2 : Int → Int, ∃ PL2 : Int → Int, ∃ PT2 : Int → Int, ∃ TS2 : Int → Int, ∃ TO2 : Int → Int, ∃ t2 : Int, oc = .returned (some (vz (m + 2))) ∧ fx o o [280, 338, 342, 343, 340, 341] G G2 ∧ G2.length = G.length ∧ ab_slots G2 = ab_slots G ∧ cc o G2 80 280 (ab_ob 12 (mof m_thrown m_taped m_length m_out m_wide m_gathered m_sets m_ranges m_nodes m_at m_flags m_fault m_place m_numbered m_depth m_value m_isNot m_least0 m_most0 m_slot m_work m_got m_rowMany m_charAt m_charWide t2 m_isMatch m_matchGroups m_allFrom m_allBefore m_founds m_pieces m_writtenMany m_templateWide m_tooMuch)) ∧ cc o G2 138 338 (za 20 SP2) ∧ cc o G2 142 342 (za 25000 PL2) ∧ cc o G2 143 343 (za 25000 PT2) ∧ cc o G2 140 340 (za 12500 TS2) ∧ cc o G2 141 341 (za 12500 TO2) ∧ (rgs SP2 20 (-1) 2000) ∧ (rgs PT2 25000 0 12500) ∧ (rgs TS2 12500 0 19) ∧ (rgs TO2 12500 (-1) 2000) ∧ (0 ≤ t2 ∧ t2 ≤ m_trail + 1) ∧ (∀ j : Int, 0 ≤ j → j < m → PL2 j = PL j) ∧ (rgs PL2 (m + 2) 0 (n - 1)) ∧ (A_step ((12500 * s) + x) = 3) ∧ (onp PL2 (m + 2) (A_next ((12500 * s) + x)) ∧ onp PL2 (m + 2) (A_more ((12500 * s) + x))) ∧ (onB PL PT TS TO SP m_trail m (A_next ((12500 * s) + x)) (A_more ((12500 * s) + x)) PL2 PT2 TS2 TO2 SP2 t2)) ∨ (∃ SP2 : Int → Int, ∃ PL2 : Int → Int, ∃ PT2 : Int → Int, ∃ TS2 : Int → Int, ∃ TO2 : Int → Int, ∃ t2 : Int, oc = .returned (some (vz (m + 1))) ∧ fx o o [280, 338, 342, 343, 340, 341] G G2 ∧ G2.length = G.length ∧ ab_slots G2 = ab_slots G ∧ cc o G2 80 280 (ab_ob 12 (mof m_thrown m_taped m_length m_out m_wide m_gathered m_sets m_ranges m_nodes m_at m_flags m_fault m_place m_numbered m_depth m_value m_isNot m_least0 m_most0 m_slot m_work m_got m_rowMany m_charAt m_charWide t2 m_isMatch m_matchGroups m_allFrom m_allBefore m_founds m_pieces m_writtenMany m_templateWide m_tooMuch)) ∧ cc o G2 138 338 (za 20 SP2) ∧ cc o G2 142 342 (za 25000 PL2) ∧ cc o G2 143 343 (za 25000 PT2) ∧ cc o G2 140 340 (za 12500 TS2) ∧ cc o G2 141 341 (za 12500 TO2) ∧ (rgs SP2 20 (-1) 2000) ∧ (rgs PT2 25000 0 12500) ∧ (rgs TS2 12500 0 19) ∧ (rgs TO2 12500 (-1) 2000) ∧ (0 ≤ t2 ∧ t2 ≤ m_trail + 1) ∧ (∀ j : Int, 0 ≤ j → j < m → PL2 j = PL j) ∧ (rgs PL2 (m + 1) 0 (n - 1)) ∧ (4 ≤ A_step ((12500 * s) + x) ∧ A_step ((12500 * s) + x) ≤ 5) ∧ (onp PL2 (m + 1) (A_next ((12500 * s) + x))) ∧ (onC PL PT TS TO SP m_trail m (A_next ((12500 * s) + x)) (A_more ((12500 * s) + x)) p (A_step ((12500 * s) + x)) PL2 PT2 TS2 TO2 SP2 t2 (mhld A_subject m_length p (A_more ((12500 * s) + x)))))) := by
  refine ab_F_of (by decide +kernel) (Nat.le_of_ble_eq_true rfl) ?_
  obtain ⟨Q, hQ⟩ : ∃ z : Outcome → ab_G → Prop, z = (fun oc G2 => (∃ SP2 : Int → Int, ∃ PL2 : Int → Int, ∃ PT2 : Int → Int, ∃ TS2 : Int → Int, ∃ TO2 : Int → Int, ∃ t2 : Int, oc = .returned (some (vz m)) ∧ fx o o [280, 338, 342, 343, 340, 341] G G2 ∧ G2.length = G.length ∧ ab_slots G2 = ab_slots G ∧ cc o G2 80 280 (ab_ob 12 (mof m_thrown m_taped m_length m_out m_wide m_gathered m_sets m_ranges m_nodes m_at m_flags m_fault m_place m_numbered m_depth m_value m_isNot m_least0 m_most0 m_slot m_work m_got m_rowMany m_charAt m_charWide t2 m_isMatch m_matchGroups m_allFrom m_allBefore m_founds m_pieces m_writtenMany m_templateWide m_tooMuch)) ∧ cc o G2 138 338 (za 20 SP2) ∧ cc o G2 142 342 (za 25000 PL2) ∧ cc o G2 143 343 (za 25000 PT2) ∧ cc o G2 140 340 (za 12500 TS2) ∧ cc o G2 141 341 (za 12500 TO2) ∧ (rgs SP2 20 (-1) 2000) ∧ (rgs PT2 25000 0 12500) ∧ (rgs TS2 12500 0 19) ∧ (rgs TO2 12500 (-1) 2000) ∧ (0 ≤ t2 ∧ t2 ≤ m_trail + 1) ∧ (∀ j : Int, 0 ≤ j → j < m → PL2 j = PL j) ∧ (rgs PL2 m 0 (n - 1)) ∧ (A_step ((12500 * s) + x) = 6 ∨ (A_step ((12500 * s) + x) = 5 ∧ ¬ mhld A_subject m_length p (A_more ((12500 * s) + x)))) ∧ (onA PL PT TS TO SP m_trail PL2 PT2 TS2 TO2 SP2 t2)) ∨ (∃ SP2 : Int → Int, ∃ PL2 : Int → Int, ∃ PT2 : Int → Int, ∃ TS2 : Int → Int, ∃ TO2 : Int → Int, ∃ t2 : Int, oc = .returned (some (vz (m + 2))) ∧ fx o o [280, 338, 342, 343, 340, 341] G G2 ∧ G2.length = G.length ∧ ab_slots G2 = ab_slots G ∧ cc o G2 80 280 (ab_ob 12 (mof m_thrown m_taped m_length m_out m_wide m_gathered m_sets m_ranges m_nodes m_at m_flags m_fault m_place m_numbered m_depth m_value m_isNot m_least0 m_most0 m_slot m_work m_got m_rowMany m_charAt m_charWide t2 m_isMatch m_matchGroups m_allFrom m_allBefore m_founds m_pieces m_writtenMany m_templateWide m_tooMuch)) ∧ cc o G2 138 338 (za 20 SP2) ∧ cc o G2 142 342 (za 25000 PL2) ∧ cc o G2 143 343 (za 25000 PT2) ∧ cc o G2 140 340 (za 12500 TS2) ∧ cc o G2 141 341 (za 12500 TO2) ∧ (rgs SP2 20 (-1) 2000) ∧ (rgs PT2 25000 0 12500) ∧ (rgs TS2 12500 0 19) ∧ (rgs TO2 12500 (-1) 2000) ∧ (0 ≤ t2 ∧ t2 ≤ m_trail + 1) ∧ (∀ j : Int, 0 ≤ j → j < m → PL2 j = PL j) ∧ (rgs PL2 (m + 2) 0 (n - 1)) ∧ (A_step ((12500 * s) + x) = 3) ∧ (onp PL2 (m + 2) (A_next ((12500 * s) + x)) ∧ onp PL2 (m + 2) (A_more ((12500 * s) + x))) ∧ (onB PL PT TS TO SP m_trail m (A_next ((12500 * s) + x)) (A_more ((12500 * s) + x)) PL2 PT2 TS2 TO2 SP2 t2)) ∨ (∃ SP2 : Int → Int, ∃ PL2 : Int → Int, ∃ PT2 : Int → Int, ∃ TS2 : Int → Int, ∃ TO2 : Int → Int, ∃ t2 : Int, oc = .returned (some (vz (m + 1))) ∧ fx o o [280, 338, 342, 343, 340, 341] G G2 ∧ G2.length = G.length ∧ ab_slots G2 = ab_slots G ∧ cc o G2 80 280 (ab_ob 12 (mof m_thrown m_taped m_length m_out m_wide m_gathered m_sets m_ranges m_nodes m_at m_flags m_fault m_place m_numbered m_depth m_value m_isNot m_least0 m_most0 m_slot m_work m_got m_rowMany m_charAt m_charWide t2 m_isMatch m_matchGroups m_allFrom m_allBefore m_founds m_pieces m_writtenMany m_templateWide m_tooMuch)) ∧ cc o G2 138 338 (za 20 SP2) ∧ cc o G2 142 342 (za 25000 PL2) ∧ cc o G2 143 343 (za 25000 PT2) ∧ cc o G2 140 340 (za 12500 TS2) ∧ cc o G2 141 341 (za 12500 TO2) ∧ (rgs SP2 20 (-1) 2000) ∧ (rgs PT2 25000 0 12500) ∧ (rgs TS2 12500 0 19) ∧ (rgs TO2 12500 (-1) 2000) ∧ (0 ≤ t2 ∧ t2 ≤ m_trail + 1) ∧ (∀ j : Int, 0 ≤ j → j < m → PL2 j = PL j) ∧ (rgs PL2 (m + 1) 0 (n - 1)) ∧ (4 ≤ A_step ((12500 * s) + x) ∧ A_step ((12500 * s) + x) ≤ 5) ∧ (onp PL2 (m + 1) (A_next ((12500 * s) + x))) ∧ (onC PL PT TS TO SP m_trail m (A_next ((12500 * s) + x)) (A_more ((12500 * s) + x)) p (A_step ((12500 * s) + x)) PL2 PT2 TS2 TO2 SP2 t2 (mhld A_subject m_length p (A_more ((12500 * s) + x)))))) := ⟨_, rfl⟩
  rw [← hQ]
  change ab_W X (ab_pl y_MO_onward b_MO_onward 4 (some (.int))) d G 0 [some (vR 80), some (vz ((12500 * s) + x)), some (vz p), some (vz m)] [] Q
  have hfr : fx o o [280, 338, 342, 343, 340, 341] G G := fx.rf
  have hlen : G.length = G.length := rfl
  have hsl : ab_slots G = ab_slots G := rfl
  have hsg_ := jsg x (by omega) (by omega)
  refine ab_aload_n d_MO_onward_0 rfl ?_
  refine ab_getf (fs := mof m_thrown m_taped m_length m_out m_wide m_gathered m_sets m_ranges m_nodes m_at m_flags m_fault m_place m_numbered m_depth m_value m_isNot m_least0 m_most0 m_slot m_work m_got m_rowMany m_charAt m_charWide m_trail m_isMatch m_matchGroups m_allFrom m_allBefore m_founds m_pieces m_writtenMany m_templateWide m_tooMuch) f_MO_128 d_MO_onward_1 h80.2.2 rfl ?_
  refine ab_iload_n d_MO_onward_4 rfl ?_
  refine zz_iald d_MO_onward_5 h118 (by omega) ?_
  have hq1 := jst ((12500 * s) + x) (by omega) (by omega)
  refine zz_bipush d_MO_onward_6 (by decide) ?_
  refine zz_icmp_ne (tgt := 13) d_MO_onward_8 (by decide) (by omega) (by decide) (fun c2 => ?_) (fun c2 => ?_)
  · refine ab_aload_n d_MO_onward_13 rfl ?_
    refine ab_getf (fs := mof m_thrown m_taped m_length m_out m_wide m_gathered m_sets m_ranges m_nodes m_at m_flags m_fault m_place m_numbered m_depth m_value m_isNot m_least0 m_most0 m_slot m_work m_got m_rowMany m_charAt m_charWide m_trail m_isMatch m_matchGroups m_allFrom m_allBefore m_founds m_pieces m_writtenMany m_templateWide m_tooMuch) f_MO_128 d_MO_onward_14 h80.2.2 rfl ?_
    refine ab_iload_n d_MO_onward_17 rfl ?_
    refine zz_iald d_MO_onward_18 h118 (by omega) ?_
    have hq3 := jst ((12500 * s) + x) (by omega) (by omega)
    refine zz_iconst d_MO_onward_19 ?_
    refine zz_icmp_ne (tgt := 51) d_MO_onward_20 (by decide) (by omega) (by decide) (fun c4 => ?_) (fun c4 => ?_)
    · refine ab_aload_n d_MO_onward_51 rfl ?_
      refine ab_getf (fs := mof m_thrown m_taped m_length m_out m_wide m_gathered m_sets m_ranges m_nodes m_at m_flags m_fault m_place m_numbered m_depth m_value m_isNot m_least0 m_most0 m_slot m_work m_got m_rowMany m_charAt m_charWide m_trail m_isMatch m_matchGroups m_allFrom m_allBefore m_founds m_pieces m_writtenMany m_templateWide m_tooMuch) f_MO_128 d_MO_onward_52 h80.2.2 rfl ?_
      refine ab_iload_n d_MO_onward_55 rfl ?_
      refine zz_iald d_MO_onward_56 h118 (by omega) ?_
      have hq5 := jst ((12500 * s) + x) (by omega) (by omega)
      refine zz_iconst d_MO_onward_57 ?_
      refine zz_icmp_ne (tgt := 77) d_MO_onward_58 (by decide) (by omega) (by decide) (fun c6 => ?_) (fun c6 => ?_)
      · refine ab_aload_n d_MO_onward_77 rfl ?_
        refine ab_getf (fs := mof m_thrown m_taped m_length m_out m_wide m_gathered m_sets m_ranges m_nodes m_at m_flags m_fault m_place m_numbered m_depth m_value m_isNot m_least0 m_most0 m_slot m_work m_got m_rowMany m_charAt m_charWide m_trail m_isMatch m_matchGroups m_allFrom m_allBefore m_founds m_pieces m_writtenMany m_templateWide m_tooMuch) f_MO_128 d_MO_onward_78 h80.2.2 rfl ?_
        refine ab_iload_n d_MO_onward_81 rfl ?_
        refine zz_iald d_MO_onward_82 h118 (by omega) ?_
        have hq7 := jst ((12500 * s) + x) (by omega) (by omega)
        refine zz_iconst d_MO_onward_83 ?_
        refine zz_icmp_ne (tgt := 144) d_MO_onward_84 (by decide) (by omega) (by decide) (fun c8 => ?_) (fun c8 => ?_)
        · have hnx_ := hsg_.2.1 (by omega) (by omega)
          refine ab_aload_n d_MO_onward_144 rfl ?_
          refine ab_aload_n d_MO_onward_145 rfl ?_
          refine ab_getf (fs := mof m_thrown m_taped m_length m_out m_wide m_gathered m_sets m_ranges m_nodes m_at m_flags m_fault m_place m_numbered m_depth m_value m_isNot m_least0 m_most0 m_slot m_work m_got m_rowMany m_charAt m_charWide m_trail m_isMatch m_matchGroups m_allFrom m_allBefore m_founds m_pieces m_writtenMany m_templateWide m_tooMuch) f_MO_131 d_MO_onward_146 h80.2.2 rfl ?_
          refine ab_iload_n d_MO_onward_149 rfl ?_
          refine zz_iald d_MO_onward_150 h119 (by omega) ?_
          refine ab_iload_n d_MO_onward_151 rfl ?_
          refine ab_callV (d' := d - 1) (as := [vz (A_next ((12500 * s) + x)), vz m]) (st := []) (r := _) (z_MO_lay (o := o) (m_thrown := m_thrown) (m_taped := m_taped) (m_length := m_length) (m_out := m_out) (m_wide := m_wide) (m_gathered := m_gathered) (m_sets := m_sets) (m_ranges := m_ranges) (m_nodes := m_nodes) (m_at := m_at) (m_flags := m_flags) (m_fault := m_fault) (m_place := m_place) (m_numbered := m_numbered) (m_depth := m_depth) (m_value := m_value) (m_isNot := m_isNot) (m_least0 := m_least0) (m_most0 := m_most0) (m_slot := m_slot) (m_work := m_work) (m_got := m_got) (m_rowMany := m_rowMany) (m_charAt := m_charAt) (m_charWide := m_charWide) (m_trail := m_trail) (m_isMatch := m_isMatch) (m_matchGroups := m_matchGroups) (m_allFrom := m_allFrom) (m_allBefore := m_allBefore) (m_founds := m_founds) (m_pieces := m_pieces) (m_writtenMany := m_writtenMany) (m_templateWide := m_templateWide) (m_tooMuch := m_tooMuch) (PL := PL) (PT := PT) (x := (A_next ((12500 * s) + x))) (m := m) h80 h142 h143 (by omega) (by omega)) (fun oc G2 h => by rcases h with ⟨h, _⟩ <;> exact ⟨_, h⟩) (by omega) m_MO_lay ml_MO_549 im_MO_lay se_MO_lay c_MO h80.2.2 (Nat.le_of_ble_eq_true rfl) d_MO_onward_152 rfl ?_
          intro v G9 hq
          rcases hq with ⟨hv, hfk, hlk, hsk, hN142, hN143⟩
          cases hv
          have h80 := hfk.get h80 (by decide)
          have h138 := hfk.get h138 (by decide)
          have h140 := hfk.get h140 (by decide)
          have h141 := hfk.get h141 (by decide)
          have h118 := hfk.get h118 (by decide)
          have h119 := hfk.get h119 (by decide)
          have h120 := hfk.get h120 (by decide)
          have h85 := hfk.get h85 (by decide)
          have hfr := hfr.tr hfk (by decide)
          have hlen := hlk.trans hlen
          have hsl := hsk.trans hsl
          have h142 := hN142
          have h143 := hN143
          change ab_W _ _ _ G9 155 [some (vR 80), some (vz ((12500 * s) + x)), some (vz p), some (vz m)] [] _
          refine ab_iload_n d_MO_onward_155 rfl ?_
          refine zz_iconst d_MO_onward_156 ?_
          refine zz_iadd d_MO_onward_157 ?_
          refine zz_iret rfl d_MO_onward_158 ?_
          rw [hQ]; exact (Or.inr (Or.inr ⟨_, _, _, _, _, _, rfl, hfr, hlen, hsl, h80, h138, h142, h143, h140, h141, (by first | exact jsp | exact rgs_w jsp (by omega)), (by first | exact (rgs_zu jpt (by omega)) | exact rgs_w (rgs_zu jpt (by omega)) (by omega)), (by first | exact jts | exact rgs_w jts (by omega)), (by first | exact jto | exact rgs_w jto (by omega)), (by omega), (by intro j h0 h1; first | rfl | (rw [zu_ne (by omega), zu_ne (by omega)]; done) | (rw [zu_ne (by omega)]; done)), (by exact rgs_push jpl (by omega)), (by omega), (by exact onp_top (by omega)), (by exfalso; omega)⟩))
        · have hsv_ := hsg_.2.2.2.1 (by omega)
          refine ab_aload_n d_MO_onward_87 rfl ?_
          refine ab_getf (fs := mof m_thrown m_taped m_length m_out m_wide m_gathered m_sets m_ranges m_nodes m_at m_flags m_fault m_place m_numbered m_depth m_value m_isNot m_least0 m_most0 m_slot m_work m_got m_rowMany m_charAt m_charWide m_trail m_isMatch m_matchGroups m_allFrom m_allBefore m_founds m_pieces m_writtenMany m_templateWide m_tooMuch) f_MO_196 d_MO_onward_88 h80.2.2 rfl ?_
          refine ab_aload_n d_MO_onward_91 rfl ?_
          refine ab_getf (fs := mof m_thrown m_taped m_length m_out m_wide m_gathered m_sets m_ranges m_nodes m_at m_flags m_fault m_place m_numbered m_depth m_value m_isNot m_least0 m_most0 m_slot m_work m_got m_rowMany m_charAt m_charWide m_trail m_isMatch m_matchGroups m_allFrom m_allBefore m_founds m_pieces m_writtenMany m_templateWide m_tooMuch) f_MO_540 d_MO_onward_92 h80.2.2 rfl ?_
          refine ab_aload_n d_MO_onward_95 rfl ?_
          refine ab_getf (fs := mof m_thrown m_taped m_length m_out m_wide m_gathered m_sets m_ranges m_nodes m_at m_flags m_fault m_place m_numbered m_depth m_value m_isNot m_least0 m_most0 m_slot m_work m_got m_rowMany m_charAt m_charWide m_trail m_isMatch m_matchGroups m_allFrom m_allBefore m_founds m_pieces m_writtenMany m_templateWide m_tooMuch) f_MO_134 d_MO_onward_96 h80.2.2 rfl ?_
          refine ab_iload_n d_MO_onward_99 rfl ?_
          refine zz_iald d_MO_onward_100 h120 (by omega) ?_
          refine zz_iast d_MO_onward_101 h140 (by omega) (h140.2.1 (by decide)) ?_
          obtain ⟨G10, eG10⟩ : ∃ z : ab_G, z = List.set G 140 (za 12500 (zu TS m_trail (A_more ((12500 * s) + x)))) := ⟨_, rfl⟩
          have h80 := h80.keep h140 eG10 (by decide)
          have h138 := h138.keep h140 eG10 (by decide)
          have h142 := h142.keep h140 eG10 (by decide)
          have h143 := h143.keep h140 eG10 (by decide)
          have h141 := h141.keep h140 eG10 (by decide)
          have h118 := h118.keep h140 eG10 (by decide)
          have h119 := h119.keep h140 eG10 (by decide)
          have h120 := h120.keep h140 eG10 (by decide)
          have h85 := h85.keep h140 eG10 (by decide)
          have hlen := (z_len eG10).trans hlen
          have hsl := (z_sl h140 eG10 rfl).trans hsl
          have hfr := hfr.wr h140 eG10 (by decide)
          have h140 := h140.kept eG10
          change ab_W _ _ _ (List.set G 140 (za 12500 (zu TS m_trail (A_more ((12500 * s) + x))))) 102 [some (vR 80), some (vz ((12500 * s) + x)), some (vz p), some (vz m)] [] _
          rw [← eG10]
          refine ab_aload_n d_MO_onward_102 rfl ?_
          refine ab_getf (fs := mof m_thrown m_taped m_length m_out m_wide m_gathered m_sets m_ranges m_nodes m_at m_flags m_fault m_place m_numbered m_depth m_value m_isNot m_least0 m_most0 m_slot m_work m_got m_rowMany m_charAt m_charWide m_trail m_isMatch m_matchGroups m_allFrom m_allBefore m_founds m_pieces m_writtenMany m_templateWide m_tooMuch) f_MO_199 d_MO_onward_103 h80.2.2 rfl ?_
          refine ab_aload_n d_MO_onward_106 rfl ?_
          refine ab_getf (fs := mof m_thrown m_taped m_length m_out m_wide m_gathered m_sets m_ranges m_nodes m_at m_flags m_fault m_place m_numbered m_depth m_value m_isNot m_least0 m_most0 m_slot m_work m_got m_rowMany m_charAt m_charWide m_trail m_isMatch m_matchGroups m_allFrom m_allBefore m_founds m_pieces m_writtenMany m_templateWide m_tooMuch) f_MO_540 d_MO_onward_107 h80.2.2 rfl ?_
          refine ab_aload_n d_MO_onward_110 rfl ?_
          refine ab_getf (fs := mof m_thrown m_taped m_length m_out m_wide m_gathered m_sets m_ranges m_nodes m_at m_flags m_fault m_place m_numbered m_depth m_value m_isNot m_least0 m_most0 m_slot m_work m_got m_rowMany m_charAt m_charWide m_trail m_isMatch m_matchGroups m_allFrom m_allBefore m_founds m_pieces m_writtenMany m_templateWide m_tooMuch) f_MO_190 d_MO_onward_111 h80.2.2 rfl ?_
          refine ab_aload_n d_MO_onward_114 rfl ?_
          refine ab_getf (fs := mof m_thrown m_taped m_length m_out m_wide m_gathered m_sets m_ranges m_nodes m_at m_flags m_fault m_place m_numbered m_depth m_value m_isNot m_least0 m_most0 m_slot m_work m_got m_rowMany m_charAt m_charWide m_trail m_isMatch m_matchGroups m_allFrom m_allBefore m_founds m_pieces m_writtenMany m_templateWide m_tooMuch) f_MO_134 d_MO_onward_115 h80.2.2 rfl ?_
          refine ab_iload_n d_MO_onward_118 rfl ?_
          refine zz_iald d_MO_onward_119 h120 (by omega) ?_
          refine zz_iald d_MO_onward_120 h138 (by omega) ?_
          have hq11 := jsp (A_more ((12500 * s) + x)) (by omega) (by omega)
          refine zz_iast d_MO_onward_121 h141 (by omega) (h141.2.1 (by decide)) ?_
          obtain ⟨G12, eG12⟩ : ∃ z : ab_G, z = List.set G10 141 (za 12500 (zu TO m_trail (SP (A_more ((12500 * s) + x))))) := ⟨_, rfl⟩
          have h80 := h80.keep h141 eG12 (by decide)
          have h138 := h138.keep h141 eG12 (by decide)
          have h142 := h142.keep h141 eG12 (by decide)
          have h143 := h143.keep h141 eG12 (by decide)
          have h140 := h140.keep h141 eG12 (by decide)
          have h118 := h118.keep h141 eG12 (by decide)
          have h119 := h119.keep h141 eG12 (by decide)
          have h120 := h120.keep h141 eG12 (by decide)
          have h85 := h85.keep h141 eG12 (by decide)
          have hlen := (z_len eG12).trans hlen
          have hsl := (z_sl h141 eG12 rfl).trans hsl
          have hfr := hfr.wr h141 eG12 (by decide)
          have h141 := h141.kept eG12
          change ab_W _ _ _ (List.set G10 141 (za 12500 (zu TO m_trail (SP (A_more ((12500 * s) + x)))))) 122 [some (vR 80), some (vz ((12500 * s) + x)), some (vz p), some (vz m)] [] _
          rw [← eG12]
          refine ab_aload_n d_MO_onward_122 rfl ?_
          refine ab_dup d_MO_onward_123 rfl ?_
          refine ab_getf (fs := mof m_thrown m_taped m_length m_out m_wide m_gathered m_sets m_ranges m_nodes m_at m_flags m_fault m_place m_numbered m_depth m_value m_isNot m_least0 m_most0 m_slot m_work m_got m_rowMany m_charAt m_charWide m_trail m_isMatch m_matchGroups m_allFrom m_allBefore m_founds m_pieces m_writtenMany m_templateWide m_tooMuch) f_MO_540 d_MO_onward_124 h80.2.2 rfl ?_
          refine zz_iconst d_MO_onward_127 ?_
          refine zz_iadd d_MO_onward_128 ?_
          refine ab_putf (fs := mof m_thrown m_taped m_length m_out m_wide m_gathered m_sets m_ranges m_nodes m_at m_flags m_fault m_place m_numbered m_depth m_value m_isNot m_least0 m_most0 m_slot m_work m_got m_rowMany m_charAt m_charWide m_trail m_isMatch m_matchGroups m_allFrom m_allBefore m_founds m_pieces m_writtenMany m_templateWide m_tooMuch) f_MO_540 (Or.inl rfl) d_MO_onward_129 h80.2.2 (Nat.le_of_ble_eq_true rfl) (fun _ => ⟨rfl, rfl⟩) (h80.2.1 (by decide)) ?_
          obtain ⟨G13, eG13⟩ : ∃ z : ab_G, z = List.set G12 80 (ab_ob 12 (mof m_thrown m_taped m_length m_out m_wide m_gathered m_sets m_ranges m_nodes m_at m_flags m_fault m_place m_numbered m_depth m_value m_isNot m_least0 m_most0 m_slot m_work m_got m_rowMany m_charAt m_charWide (m_trail + 1) m_isMatch m_matchGroups m_allFrom m_allBefore m_founds m_pieces m_writtenMany m_templateWide m_tooMuch)) := ⟨_, rfl⟩
          have h138 := h138.keep h80 eG13 (by decide)
          have h142 := h142.keep h80 eG13 (by decide)
          have h143 := h143.keep h80 eG13 (by decide)
          have h140 := h140.keep h80 eG13 (by decide)
          have h141 := h141.keep h80 eG13 (by decide)
          have h118 := h118.keep h80 eG13 (by decide)
          have h119 := h119.keep h80 eG13 (by decide)
          have h120 := h120.keep h80 eG13 (by decide)
          have h85 := h85.keep h80 eG13 (by decide)
          have hlen := (z_len eG13).trans hlen
          have hsl := (z_sl h80 eG13 rfl).trans hsl
          have hfr := hfr.wr h80 eG13 (by decide)
          have h80 := h80.kept eG13
          change ab_W _ _ _ (List.set G12 80 (ab_ob 12 (mof m_thrown m_taped m_length m_out m_wide m_gathered m_sets m_ranges m_nodes m_at m_flags m_fault m_place m_numbered m_depth m_value m_isNot m_least0 m_most0 m_slot m_work m_got m_rowMany m_charAt m_charWide (m_trail + 1) m_isMatch m_matchGroups m_allFrom m_allBefore m_founds m_pieces m_writtenMany m_templateWide m_tooMuch))) 132 [some (vR 80), some (vz ((12500 * s) + x)), some (vz p), some (vz m)] [] _
          rw [← eG13]
          refine ab_aload_n d_MO_onward_132 rfl ?_
          refine ab_getf (fs := mof m_thrown m_taped m_length m_out m_wide m_gathered m_sets m_ranges m_nodes m_at m_flags m_fault m_place m_numbered m_depth m_value m_isNot m_least0 m_most0 m_slot m_work m_got m_rowMany m_charAt m_charWide (m_trail + 1) m_isMatch m_matchGroups m_allFrom m_allBefore m_founds m_pieces m_writtenMany m_templateWide m_tooMuch) f_MO_190 d_MO_onward_133 h80.2.2 rfl ?_
          refine ab_aload_n d_MO_onward_136 rfl ?_
          refine ab_getf (fs := mof m_thrown m_taped m_length m_out m_wide m_gathered m_sets m_ranges m_nodes m_at m_flags m_fault m_place m_numbered m_depth m_value m_isNot m_least0 m_most0 m_slot m_work m_got m_rowMany m_charAt m_charWide (m_trail + 1) m_isMatch m_matchGroups m_allFrom m_allBefore m_founds m_pieces m_writtenMany m_templateWide m_tooMuch) f_MO_134 d_MO_onward_137 h80.2.2 rfl ?_
          refine ab_iload_n d_MO_onward_140 rfl ?_
          refine zz_iald d_MO_onward_141 h120 (by omega) ?_
          refine ab_iload_n d_MO_onward_142 rfl ?_
          refine zz_iast d_MO_onward_143 h138 (by omega) (h138.2.1 (by decide)) ?_
          obtain ⟨G14, eG14⟩ : ∃ z : ab_G, z = List.set G13 138 (za 20 (zu SP (A_more ((12500 * s) + x)) p)) := ⟨_, rfl⟩
          have h80 := h80.keep h138 eG14 (by decide)
          have h142 := h142.keep h138 eG14 (by decide)
          have h143 := h143.keep h138 eG14 (by decide)
          have h140 := h140.keep h138 eG14 (by decide)
          have h141 := h141.keep h138 eG14 (by decide)
          have h118 := h118.keep h138 eG14 (by decide)
          have h119 := h119.keep h138 eG14 (by decide)
          have h120 := h120.keep h138 eG14 (by decide)
          have h85 := h85.keep h138 eG14 (by decide)
          have hlen := (z_len eG14).trans hlen
          have hsl := (z_sl h138 eG14 rfl).trans hsl
          have hfr := hfr.wr h138 eG14 (by decide)
          have h138 := h138.kept eG14
          change ab_W _ _ _ (List.set G13 138 (za 20 (zu SP (A_more ((12500 * s) + x)) p))) 144 [some (vR 80), some (vz ((12500 * s) + x)), some (vz p), some (vz m)] [] _
          rw [← eG14]
          have hnx_ := hsg_.2.1 (by omega) (by omega)
          refine ab_aload_n d_MO_onward_144 rfl ?_
          refine ab_aload_n d_MO_onward_145 rfl ?_
          refine ab_getf (fs := mof m_thrown m_taped m_length m_out m_wide m_gathered m_sets m_ranges m_nodes m_at m_flags m_fault m_place m_numbered m_depth m_value m_isNot m_least0 m_most0 m_slot m_work m_got m_rowMany m_charAt m_charWide (m_trail + 1) m_isMatch m_matchGroups m_allFrom m_allBefore m_founds m_pieces m_writtenMany m_templateWide m_tooMuch) f_MO_131 d_MO_onward_146 h80.2.2 rfl ?_
          refine ab_iload_n d_MO_onward_149 rfl ?_
          refine zz_iald d_MO_onward_150 h119 (by omega) ?_
          refine ab_iload_n d_MO_onward_151 rfl ?_
          refine ab_callV (d' := d - 1) (as := [vz (A_next ((12500 * s) + x)), vz m]) (st := []) (r := _) (z_MO_lay (o := o) (m_thrown := m_thrown) (m_taped := m_taped) (m_length := m_length) (m_out := m_out) (m_wide := m_wide) (m_gathered := m_gathered) (m_sets := m_sets) (m_ranges := m_ranges) (m_nodes := m_nodes) (m_at := m_at) (m_flags := m_flags) (m_fault := m_fault) (m_place := m_place) (m_numbered := m_numbered) (m_depth := m_depth) (m_value := m_value) (m_isNot := m_isNot) (m_least0 := m_least0) (m_most0 := m_most0) (m_slot := m_slot) (m_work := m_work) (m_got := m_got) (m_rowMany := m_rowMany) (m_charAt := m_charAt) (m_charWide := m_charWide) (m_trail := (m_trail + 1)) (m_isMatch := m_isMatch) (m_matchGroups := m_matchGroups) (m_allFrom := m_allFrom) (m_allBefore := m_allBefore) (m_founds := m_founds) (m_pieces := m_pieces) (m_writtenMany := m_writtenMany) (m_templateWide := m_templateWide) (m_tooMuch := m_tooMuch) (PL := PL) (PT := PT) (x := (A_next ((12500 * s) + x))) (m := m) h80 h142 h143 (by omega) (by omega)) (fun oc G2 h => by rcases h with ⟨h, _⟩ <;> exact ⟨_, h⟩) (by omega) m_MO_lay ml_MO_549 im_MO_lay se_MO_lay c_MO h80.2.2 (Nat.le_of_ble_eq_true rfl) d_MO_onward_152 rfl ?_
          intro v G15 hq
          rcases hq with ⟨hv, hfk, hlk, hsk, hN142, hN143⟩
          cases hv
          have h80 := hfk.get h80 (by decide)
          have h138 := hfk.get h138 (by decide)
          have h140 := hfk.get h140 (by decide)
          have h141 := hfk.get h141 (by decide)
          have h118 := hfk.get h118 (by decide)
          have h119 := hfk.get h119 (by decide)
          have h120 := hfk.get h120 (by decide)
          have h85 := hfk.get h85 (by decide)
          have hfr := hfr.tr hfk (by decide)
          have hlen := hlk.trans hlen
          have hsl := hsk.trans hsl
          have h142 := hN142
          have h143 := hN143
          change ab_W _ _ _ G15 155 [some (vR 80), some (vz ((12500 * s) + x)), some (vz p), some (vz m)] [] _
          refine ab_iload_n d_MO_onward_155 rfl ?_
          refine zz_iconst d_MO_onward_156 ?_
          refine zz_iadd d_MO_onward_157 ?_
          refine zz_iret rfl d_MO_onward_158 ?_
          rw [hQ]; exact (Or.inr (Or.inr ⟨_, _, _, _, _, _, rfl, hfr, hlen, hsl, h80, h138, h142, h143, h140, h141, (by first | exact (rgs_zu jsp (by omega)) | exact rgs_w (rgs_zu jsp (by omega)) (by omega)), (by first | exact (rgs_zu jpt (by omega)) | exact rgs_w (rgs_zu jpt (by omega)) (by omega)), (by first | exact (rgs_zu jts (by omega)) | exact rgs_w (rgs_zu jts (by omega)) (by omega)), (by first | exact (rgs_zu jto (by omega)) | exact rgs_w (rgs_zu jto (by omega)) (by omega)), (by omega), (by intro j h0 h1; first | rfl | (rw [zu_ne (by omega), zu_ne (by omega)]; done) | (rw [zu_ne (by omega)]; done)), (by exact rgs_push jpl (by omega)), (by omega), (by exact onp_top (by omega)), (by exact Or.inr ⟨by omega, rfl, rfl, rfl, rfl, rfl, rfl⟩)⟩))
      · have hak_ := hsg_.2.2.2.2.1 (by omega)
        refine ab_aload_n d_MO_onward_61 rfl ?_
        refine ab_aload_n d_MO_onward_62 rfl ?_
        refine ab_getf (fs := mof m_thrown m_taped m_length m_out m_wide m_gathered m_sets m_ranges m_nodes m_at m_flags m_fault m_place m_numbered m_depth m_value m_isNot m_least0 m_most0 m_slot m_work m_got m_rowMany m_charAt m_charWide m_trail m_isMatch m_matchGroups m_allFrom m_allBefore m_founds m_pieces m_writtenMany m_templateWide m_tooMuch) f_MO_134 d_MO_onward_63 h80.2.2 rfl ?_
        refine ab_iload_n d_MO_onward_66 rfl ?_
        refine zz_iald d_MO_onward_67 h120 (by omega) ?_
        refine ab_iload_n d_MO_onward_68 rfl ?_
        refine ab_callV (d' := d - 1) (as := [vz (A_more ((12500 * s) + x)), vz p]) (st := []) (r := _) (z_MO_holds (o := o) (m_thrown := m_thrown) (m_taped := m_taped) (m_length := m_length) (m_out := m_out) (m_wide := m_wide) (m_gathered := m_gathered) (m_sets := m_sets) (m_ranges := m_ranges) (m_nodes := m_nodes) (m_at := m_at) (m_flags := m_flags) (m_fault := m_fault) (m_place := m_place) (m_numbered := m_numbered) (m_depth := m_depth) (m_value := m_value) (m_isNot := m_isNot) (m_least0 := m_least0) (m_most0 := m_most0) (m_slot := m_slot) (m_work := m_work) (m_got := m_got) (m_rowMany := m_rowMany) (m_charAt := m_charAt) (m_charWide := m_charWide) (m_trail := m_trail) (m_isMatch := m_isMatch) (m_matchGroups := m_matchGroups) (m_allFrom := m_allFrom) (m_allBefore := m_allBefore) (m_founds := m_founds) (m_pieces := m_pieces) (m_writtenMany := m_writtenMany) (m_templateWide := m_templateWide) (m_tooMuch := m_tooMuch) (A_subject := A_subject) (p := p) (a := (A_more ((12500 * s) + x))) h80 h85 (by omega) jsb (by omega) (by omega) (by omega)) (fun oc G2 h => by rcases h with ⟨h, _⟩ | ⟨h, _⟩ <;> exact ⟨_, h⟩) (by omega) m_MO_holds ml_MO_532 im_MO_holds se_MO_holds c_MO h80.2.2 (Nat.le_of_ble_eq_true rfl) d_MO_onward_69 rfl ?_
        intro v G16 hq
        rcases hq with ⟨hv, hGe, hq17⟩ | ⟨hv, hGe, hq18⟩
        · cases hv
          rw [hGe]
          change ab_W _ _ _ G 72 [some (vR 80), some (vz ((12500 * s) + x)), some (vz p), some (vz m)] [vz 1] _
          refine zz_if_ne (tgt := 77) d_MO_onward_72 (by decide) (by decide) (fun c19 => ?_) (fun c19 => absurd c19 (by decide))
          refine ab_aload_n d_MO_onward_77 rfl ?_
          refine ab_getf (fs := mof m_thrown m_taped m_length m_out m_wide m_gathered m_sets m_ranges m_nodes m_at m_flags m_fault m_place m_numbered m_depth m_value m_isNot m_least0 m_most0 m_slot m_work m_got m_rowMany m_charAt m_charWide m_trail m_isMatch m_matchGroups m_allFrom m_allBefore m_founds m_pieces m_writtenMany m_templateWide m_tooMuch) f_MO_128 d_MO_onward_78 h80.2.2 rfl ?_
          refine ab_iload_n d_MO_onward_81 rfl ?_
          refine zz_iald d_MO_onward_82 h118 (by omega) ?_
          have hq20 := jst ((12500 * s) + x) (by omega) (by omega)
          refine zz_iconst d_MO_onward_83 ?_
          refine zz_icmp_ne (tgt := 144) d_MO_onward_84 (by decide) (by omega) (by decide) (fun c21 => ?_) (fun c21 => absurd c21 (by omega))
          have hnx_ := hsg_.2.1 (by omega) (by omega)
          refine ab_aload_n d_MO_onward_144 rfl ?_
          refine ab_aload_n d_MO_onward_145 rfl ?_
          refine ab_getf (fs := mof m_thrown m_taped m_length m_out m_wide m_gathered m_sets m_ranges m_nodes m_at m_flags m_fault m_place m_numbered m_depth m_value m_isNot m_least0 m_most0 m_slot m_work m_got m_rowMany m_charAt m_charWide m_trail m_isMatch m_matchGroups m_allFrom m_allBefore m_founds m_pieces m_writtenMany m_templateWide m_tooMuch) f_MO_131 d_MO_onward_146 h80.2.2 rfl ?_
          refine ab_iload_n d_MO_onward_149 rfl ?_
          refine zz_iald d_MO_onward_150 h119 (by omega) ?_
          refine ab_iload_n d_MO_onward_151 rfl ?_
          refine ab_callV (d' := d - 1) (as := [vz (A_next ((12500 * s) + x)), vz m]) (st := []) (r := _) (z_MO_lay (o := o) (m_thrown := m_thrown) (m_taped := m_taped) (m_length := m_length) (m_out := m_out) (m_wide := m_wide) (m_gathered := m_gathered) (m_sets := m_sets) (m_ranges := m_ranges) (m_nodes := m_nodes) (m_at := m_at) (m_flags := m_flags) (m_fault := m_fault) (m_place := m_place) (m_numbered := m_numbered) (m_depth := m_depth) (m_value := m_value) (m_isNot := m_isNot) (m_least0 := m_least0) (m_most0 := m_most0) (m_slot := m_slot) (m_work := m_work) (m_got := m_got) (m_rowMany := m_rowMany) (m_charAt := m_charAt) (m_charWide := m_charWide) (m_trail := m_trail) (m_isMatch := m_isMatch) (m_matchGroups := m_matchGroups) (m_allFrom := m_allFrom) (m_allBefore := m_allBefore) (m_founds := m_founds) (m_pieces := m_pieces) (m_writtenMany := m_writtenMany) (m_templateWide := m_templateWide) (m_tooMuch := m_tooMuch) (PL := PL) (PT := PT) (x := (A_next ((12500 * s) + x))) (m := m) h80 h142 h143 (by omega) (by omega)) (fun oc G2 h => by rcases h with ⟨h, _⟩ <;> exact ⟨_, h⟩) (by omega) m_MO_lay ml_MO_549 im_MO_lay se_MO_lay c_MO h80.2.2 (Nat.le_of_ble_eq_true rfl) d_MO_onward_152 rfl ?_
          intro v G22 hq
          rcases hq with ⟨hv, hfk, hlk, hsk, hN142, hN143⟩
          cases hv
          have h80 := hfk.get h80 (by decide)
          have h138 := hfk.get h138 (by decide)
          have h140 := hfk.get h140 (by decide)
          have h141 := hfk.get h141 (by decide)
          have h118 := hfk.get h118 (by decide)
          have h119 := hfk.get h119 (by decide)
          have h120 := hfk.get h120 (by decide)
          have h85 := hfk.get h85 (by decide)
          have hfr := hfr.tr hfk (by decide)
          have hlen := hlk.trans hlen
          have hsl := hsk.trans hsl
          have h142 := hN142
          have h143 := hN143
          change ab_W _ _ _ G22 155 [some (vR 80), some (vz ((12500 * s) + x)), some (vz p), some (vz m)] [] _
          refine ab_iload_n d_MO_onward_155 rfl ?_
          refine zz_iconst d_MO_onward_156 ?_
          refine zz_iadd d_MO_onward_157 ?_
          refine zz_iret rfl d_MO_onward_158 ?_
          rw [hQ]; exact (Or.inr (Or.inr ⟨_, _, _, _, _, _, rfl, hfr, hlen, hsl, h80, h138, h142, h143, h140, h141, (by first | exact jsp | exact rgs_w jsp (by omega)), (by first | exact (rgs_zu jpt (by omega)) | exact rgs_w (rgs_zu jpt (by omega)) (by omega)), (by first | exact jts | exact rgs_w jts (by omega)), (by first | exact jto | exact rgs_w jto (by omega)), (by omega), (by intro j h0 h1; first | rfl | (rw [zu_ne (by omega), zu_ne (by omega)]; done) | (rw [zu_ne (by omega)]; done)), (by exact rgs_push jpl (by omega)), (by omega), (by exact onp_top (by omega)), (by exact Or.inl ⟨by omega, hq17, rfl, rfl, rfl, rfl, rfl, rfl⟩)⟩))
        · cases hv
          rw [hGe]
          change ab_W _ _ _ G 72 [some (vR 80), some (vz ((12500 * s) + x)), some (vz p), some (vz m)] [vz 0] _
          refine zz_if_ne (tgt := 77) d_MO_onward_72 (by decide) (by decide) (fun c23 => absurd c23 (by decide)) (fun c23 => ?_)
          refine ab_iload_n d_MO_onward_75 rfl ?_
          refine zz_iret rfl d_MO_onward_76 ?_
          rw [hQ]; exact (Or.inl ⟨_, _, _, _, _, _, rfl, hfr, hlen, hsl, h80, h138, h142, h143, h140, h141, (by first | exact jsp | exact rgs_w jsp (by omega)), (by first | exact jpt | exact rgs_w jpt (by omega)), (by first | exact jts | exact rgs_w jts (by omega)), (by first | exact jto | exact rgs_w jto (by omega)), (by omega), (by intro j h0 h1; first | rfl | (rw [zu_ne (by omega), zu_ne (by omega)]; done) | (rw [zu_ne (by omega)]; done)), (by exact jpl), (by exact Or.inr ⟨by omega, hq18⟩), (by exact ⟨rfl, rfl, rfl, rfl, rfl, rfl⟩)⟩)
    · have hnx_ := hsg_.2.1 (by omega) (by omega)
      have hmr_ := hsg_.2.2.1 (by omega)
      refine ab_aload_n d_MO_onward_23 rfl ?_
      refine ab_aload_n d_MO_onward_24 rfl ?_
      refine ab_getf (fs := mof m_thrown m_taped m_length m_out m_wide m_gathered m_sets m_ranges m_nodes m_at m_flags m_fault m_place m_numbered m_depth m_value m_isNot m_least0 m_most0 m_slot m_work m_got m_rowMany m_charAt m_charWide m_trail m_isMatch m_matchGroups m_allFrom m_allBefore m_founds m_pieces m_writtenMany m_templateWide m_tooMuch) f_MO_134 d_MO_onward_25 h80.2.2 rfl ?_
      refine ab_iload_n d_MO_onward_28 rfl ?_
      refine zz_iald d_MO_onward_29 h120 (by omega) ?_
      refine ab_iload_n d_MO_onward_30 rfl ?_
      refine ab_callV (d' := d - 1) (as := [vz (A_more ((12500 * s) + x)), vz m]) (st := []) (r := _) (z_MO_lay (o := o) (m_thrown := m_thrown) (m_taped := m_taped) (m_length := m_length) (m_out := m_out) (m_wide := m_wide) (m_gathered := m_gathered) (m_sets := m_sets) (m_ranges := m_ranges) (m_nodes := m_nodes) (m_at := m_at) (m_flags := m_flags) (m_fault := m_fault) (m_place := m_place) (m_numbered := m_numbered) (m_depth := m_depth) (m_value := m_value) (m_isNot := m_isNot) (m_least0 := m_least0) (m_most0 := m_most0) (m_slot := m_slot) (m_work := m_work) (m_got := m_got) (m_rowMany := m_rowMany) (m_charAt := m_charAt) (m_charWide := m_charWide) (m_trail := m_trail) (m_isMatch := m_isMatch) (m_matchGroups := m_matchGroups) (m_allFrom := m_allFrom) (m_allBefore := m_allBefore) (m_founds := m_founds) (m_pieces := m_pieces) (m_writtenMany := m_writtenMany) (m_templateWide := m_templateWide) (m_tooMuch := m_tooMuch) (PL := PL) (PT := PT) (x := (A_more ((12500 * s) + x))) (m := m) h80 h142 h143 (by omega) (by omega)) (fun oc G2 h => by rcases h with ⟨h, _⟩ <;> exact ⟨_, h⟩) (by omega) m_MO_lay ml_MO_549 im_MO_lay se_MO_lay c_MO h80.2.2 (Nat.le_of_ble_eq_true rfl) d_MO_onward_31 rfl ?_
      intro v G24 hq
      rcases hq with ⟨hv, hfk, hlk, hsk, hN142, hN143⟩
      cases hv
      have h80 := hfk.get h80 (by decide)
      have h138 := hfk.get h138 (by decide)
      have h140 := hfk.get h140 (by decide)
      have h141 := hfk.get h141 (by decide)
      have h118 := hfk.get h118 (by decide)
      have h119 := hfk.get h119 (by decide)
      have h120 := hfk.get h120 (by decide)
      have h85 := hfk.get h85 (by decide)
      have hfr := hfr.tr hfk (by decide)
      have hlen := hlk.trans hlen
      have hsl := hsk.trans hsl
      have h142 := hN142
      have h143 := hN143
      change ab_W _ _ _ G24 34 [some (vR 80), some (vz ((12500 * s) + x)), some (vz p), some (vz m)] [] _
      refine ab_aload_n d_MO_onward_34 rfl ?_
      refine ab_aload_n d_MO_onward_35 rfl ?_
      refine ab_getf (fs := mof m_thrown m_taped m_length m_out m_wide m_gathered m_sets m_ranges m_nodes m_at m_flags m_fault m_place m_numbered m_depth m_value m_isNot m_least0 m_most0 m_slot m_work m_got m_rowMany m_charAt m_charWide m_trail m_isMatch m_matchGroups m_allFrom m_allBefore m_founds m_pieces m_writtenMany m_templateWide m_tooMuch) f_MO_131 d_MO_onward_36 h80.2.2 rfl ?_
      refine ab_iload_n d_MO_onward_39 rfl ?_
      refine zz_iald d_MO_onward_40 h119 (by omega) ?_
      refine ab_iload_n d_MO_onward_41 rfl ?_
      refine zz_iconst d_MO_onward_42 ?_
      refine zz_iadd d_MO_onward_43 ?_
      refine ab_callV (d' := d - 1) (as := [vz (A_next ((12500 * s) + x)), vz (m + 1)]) (st := []) (r := _) (z_MO_lay (o := o) (m_thrown := m_thrown) (m_taped := m_taped) (m_length := m_length) (m_out := m_out) (m_wide := m_wide) (m_gathered := m_gathered) (m_sets := m_sets) (m_ranges := m_ranges) (m_nodes := m_nodes) (m_at := m_at) (m_flags := m_flags) (m_fault := m_fault) (m_place := m_place) (m_numbered := m_numbered) (m_depth := m_depth) (m_value := m_value) (m_isNot := m_isNot) (m_least0 := m_least0) (m_most0 := m_most0) (m_slot := m_slot) (m_work := m_work) (m_got := m_got) (m_rowMany := m_rowMany) (m_charAt := m_charAt) (m_charWide := m_charWide) (m_trail := m_trail) (m_isMatch := m_isMatch) (m_matchGroups := m_matchGroups) (m_allFrom := m_allFrom) (m_allBefore := m_allBefore) (m_founds := m_founds) (m_pieces := m_pieces) (m_writtenMany := m_writtenMany) (m_templateWide := m_templateWide) (m_tooMuch := m_tooMuch) (PL := (zu PL m (A_more ((12500 * s) + x)))) (PT := (zu PT m m_trail)) (x := (A_next ((12500 * s) + x))) (m := (m + 1)) h80 h142 h143 (by omega) (by omega)) (fun oc G2 h => by rcases h with ⟨h, _⟩ <;> exact ⟨_, h⟩) (by omega) m_MO_lay ml_MO_549 im_MO_lay se_MO_lay c_MO h80.2.2 (Nat.le_of_ble_eq_true rfl) d_MO_onward_44 rfl ?_
      intro v G25 hq
      rcases hq with ⟨hv, hfk, hlk, hsk, hN142, hN143⟩
      cases hv
      have h80 := hfk.get h80 (by decide)
      have h138 := hfk.get h138 (by decide)
      have h140 := hfk.get h140 (by decide)
      have h141 := hfk.get h141 (by decide)
      have h118 := hfk.get h118 (by decide)
      have h119 := hfk.get h119 (by decide)
      have h120 := hfk.get h120 (by decide)
      have h85 := hfk.get h85 (by decide)
      have hfr := hfr.tr hfk (by decide)
      have hlen := hlk.trans hlen
      have hsl := hsk.trans hsl
      have h142 := hN142
      have h143 := hN143
      change ab_W _ _ _ G25 47 [some (vR 80), some (vz ((12500 * s) + x)), some (vz p), some (vz m)] [] _
      refine ab_iload_n d_MO_onward_47 rfl ?_
      refine zz_iconst d_MO_onward_48 ?_
      refine zz_iadd d_MO_onward_49 ?_
      refine zz_iret rfl d_MO_onward_50 ?_
      rw [hQ]; exact (Or.inr (Or.inl ⟨_, _, _, _, _, _, rfl, hfr, hlen, hsl, h80, h138, h142, h143, h140, h141, (by first | exact jsp | exact rgs_w jsp (by omega)), (by first | exact (rgs_zu (rgs_zu jpt (by omega)) (by omega)) | exact rgs_w (rgs_zu (rgs_zu jpt (by omega)) (by omega)) (by omega)), (by first | exact jts | exact rgs_w jts (by omega)), (by first | exact jto | exact rgs_w jto (by omega)), (by omega), (by intro j h0 h1; first | rfl | (rw [zu_ne (by omega), zu_ne (by omega)]; done) | (rw [zu_ne (by omega)]; done)), (by rw [show m + 2 = m + 1 + 1 by omega]; exact rgs_push (rgs_push jpl (by omega)) (by omega)), (by omega), (by rw [show m + 2 = m + 1 + 1 by omega]; exact ⟨onp_top (by omega), onp_up (onp_top (by omega)) (by omega)⟩), (by exact ⟨rfl, rfl, rfl, rfl, rfl, rfl⟩)⟩))
  · refine ab_iload_n d_MO_onward_11 rfl ?_
    refine zz_iret rfl d_MO_onward_12 ?_
    rw [hQ]; exact (Or.inl ⟨_, _, _, _, _, _, rfl, hfr, hlen, hsl, h80, h138, h142, h143, h140, h141, (by first | exact jsp | exact rgs_w jsp (by omega)), (by first | exact jpt | exact rgs_w jpt (by omega)), (by first | exact jts | exact rgs_w jts (by omega)), (by first | exact jto | exact rgs_w jto (by omega)), (by omega), (by intro j h0 h1; first | rfl | (rw [zu_ne (by omega), zu_ne (by omega)]; done) | (rw [zu_ne (by omega)]; done)), (by exact jpl), (by exact Or.inl (by omega)), (by exact ⟨rfl, rfl, rfl, rfl, rfl, rfl⟩)⟩)
