set_option maxRecDepth 100000 in
set_option maxHeartbeats 4000000 in
theorem y_MO_lastEnd_14 {X : ab_X} {d : Nat} {Q : Outcome → ab_G → Prop} {o : Nat → Nat} {G0 : ab_G} {m_thrown : Int} {m_taped : Int} {m_length : Int} {m_out : Int} {m_wide : Int} {m_gathered : Int} {m_sets : Int} {m_ranges : Int} {m_nodes : Int} {m_at : Int} {m_flags : Int} {m_fault : Int} {m_place : Int} {m_numbered : Int} {m_depth : Int} {m_value : Int} {m_isNot : Int} {m_least0 : Int} {m_most0 : Int} {m_slot : Int} {m_work : Int} {m_got : Int} {m_rowMany : Int} {m_charAt : Int} {m_charWide : Int} {m_trail : Int} {m_isMatch : Int} {m_matchGroups : Int} {m_allFrom : Int} {m_allBefore : Int} {m_founds : Int} {m_pieces : Int} {m_writtenMany : Int} {m_templateWide : Int} {m_tooMuch : Int} {s : Int} {fm : Int} {n : Int} (n18 : ab_n0 = 18) (cf : 0 ≤ fm ∧ fm ≤ 2000) (hd : 1 ≤ d) : ∀ (mz : Nat) {G : ab_G} {i_ : Int} {u : Int} {CO : Int → Int}, (cc o G 80 280 (ab_ob 12 (mof m_thrown m_taped m_length m_out m_wide m_gathered m_sets m_ranges m_nodes m_at m_flags m_fault m_place m_numbered m_depth m_value m_isNot m_least0 m_most0 m_slot m_work m_got m_rowMany m_charAt m_charWide m_trail m_isMatch m_matchGroups m_allFrom m_allBefore m_founds m_pieces m_writtenMany m_templateWide m_tooMuch))) → (cc o G 136 336 (zl 392196 CO)) → (i_ = 196 * fm + u) → (0 ≤ u ∧ u ≤ 196) → (nclr CO fm u) → (fx o o [336] G0 G) → (G.length = G0.length) → (ab_slots G = ab_slots G0) → (Int.toNat (196 - u) < mz) → (∀ (G2 : ab_G) (C2 : Int → Int), (cc o G2 136 336 (zl 392196 C2)) → (nclr C2 fm 196) → (fx o o [336] G0 G2) → (G2.length = G0.length) → (ab_slots G2 = ab_slots G0) → ab_W X (ab_pl y_MO_lastEnd b_MO_lastEnd 13 (some (.int))) d G2 40 [some (vR 80), some (vz s), some (vz fm), some (vz n), none, none, none, none, none, none, none, none, none] [] Q) → ab_W X (ab_pl y_MO_lastEnd b_MO_lastEnd 13 (some (.int))) d G 14 [some (vR 80), some (vz s), some (vz fm), some (vz n), some (vz i_), none, none, none, none, none, none, none, none] [] Q := by
  intro mz
  induction mz with
  | zero => intro G i_ u CO h80 h136 ci cu jc hfr hlen hsl hm hk0; exact absurd hm (Nat.not_lt_zero _)
  | succ mz ih =>
    intro G i_ u CO h80 h136 ci cu jc hfr hlen hsl hm hk0
    subst ci
    refine ab_iload d_MO_lastEnd_14 rfl ?_
    refine zz_sipush d_MO_lastEnd_16 (by decide) ?_
    refine ab_iload_n d_MO_lastEnd_19 rfl ?_
    refine zz_iconst d_MO_lastEnd_20 ?_
    refine zz_iadd d_MO_lastEnd_21 ?_
    refine zz_imul d_MO_lastEnd_22 ?_
    refine zz_icmp_ge (tgt := 40) d_MO_lastEnd_23 (by decide) (by omega) (by omega) (fun c1 => ?_) (fun c1 => ?_)
    · refine ab_less (L' := [some (vR 80), some (vz s), some (vz fm), some (vz n), none, none, none, none, none, none, none, none, none]) (fun i v h => by rcases i with _ | _ | _ | _ | _ | _ | _ | _ | _ | _ | _ | _ | _ | i <;> first | exact h | (simp at h)) ?_
      exact hk0 _ _ h136 (by rw [show (196 : Int) = u by omega]; exact jc) hfr hlen hsl
    · refine ab_aload_n d_MO_lastEnd_26 rfl ?_
      refine ab_getf (fs := mof m_thrown m_taped m_length m_out m_wide m_gathered m_sets m_ranges m_nodes m_at m_flags m_fault m_place m_numbered m_depth m_value m_isNot m_least0 m_most0 m_slot m_work m_got m_rowMany m_charAt m_charWide m_trail m_isMatch m_matchGroups m_allFrom m_allBefore m_founds m_pieces m_writtenMany m_templateWide m_tooMuch) f_MO_184 d_MO_lastEnd_27 h80.2.2 rfl ?_
      refine ab_iload d_MO_lastEnd_30 rfl ?_
      refine zz_lconst d_MO_lastEnd_32 ?_
      change ab_W _ _ _ G 33 [some (vR 80), some (vz s), some (vz fm), some (vz n), some (vz (196 * fm + u)), none, none, none, none, none, none, none, none] [vj 0, vz (196 * fm + u), vR 136] _
      refine zz_last d_MO_lastEnd_33 h136 (by omega) (h136.2.1 (by decide)) ?_
      obtain ⟨G2, eG2⟩ : ∃ z : ab_G, z = List.set G 136 (zl 392196 (zu CO (196 * fm + u) 0)) := ⟨_, rfl⟩
      have h80 := h80.keep h136 eG2 (by decide)
      have hlen := (z_len eG2).trans hlen
      have hsl := (z_sl h136 eG2 rfl).trans hsl
      have hfr := hfr.wr h136 eG2 (by decide)
      have h136 := h136.kept eG2
      change ab_W _ _ _ (List.set G 136 (zl 392196 (zu CO (196 * fm + u) 0))) 34 [some (vR 80), some (vz s), some (vz fm), some (vz n), some (vz (196 * fm + u)), none, none, none, none, none, none, none, none] [] _
      rw [← eG2]
      refine zz_iinc d_MO_lastEnd_34 rfl (Nat.le_of_ble_eq_true rfl) (Nat.le_of_ble_eq_true rfl) rfl ?_
      change ab_W _ _ _ G2 37 [some (vR 80), some (vz s), some (vz fm), some (vz n), some (vz ((196 * fm + u) + 1)), none, none, none, none, none, none, none, none] [] _
      refine ab_goto (tgt := 14) d_MO_lastEnd_37 (by decide) ?_
      exact ih (i_ := ((196 * fm + u) + 1)) (u := (u + 1)) (CO := (zu CO (196 * fm + u) 0)) h80 h136 (by omega) (by omega) (nclr_s jc) hfr hlen hsl (by omega) hk0
set_option maxRecDepth 100000 in
set_option maxHeartbeats 4000000 in
theorem y_MO_lastEnd_97 {X : ab_X} {d : Nat} {Q : Outcome → ab_G → Prop} {o : Nat → Nat} {G0 : ab_G} {m_thrown : Int} {m_taped : Int} {m_length : Int} {m_out : Int} {m_wide : Int} {m_gathered : Int} {m_sets : Int} {m_ranges : Int} {m_nodes : Int} {m_at : Int} {m_flags : Int} {m_fault : Int} {m_place : Int} {m_numbered : Int} {m_depth : Int} {m_value : Int} {m_isNot : Int} {m_least0 : Int} {m_most0 : Int} {m_slot : Int} {m_work : Int} {m_got : Int} {m_rowMany : Int} {m_charAt : Int} {m_charWide : Int} {m_trail : Int} {m_isMatch : Int} {m_matchGroups : Int} {m_allFrom : Int} {m_allBefore : Int} {m_founds : Int} {m_pieces : Int} {m_writtenMany : Int} {m_templateWide : Int} {m_tooMuch : Int} {CO0 : Int → Int} {s : Int} {fm : Int} {n : Int} {ls : Int} {cl : Int} {far : Int} {p : Int} (n18 : ab_n0 = 18) (cf : 0 ≤ cl ∧ cl ≤ 2000) (hd : 1 ≤ d) : ∀ (mz : Nat) {G : ab_G} {i_ : Int} {CO : Int → Int}, (cc o G 80 280 (ab_ob 12 (mof m_thrown m_taped m_length m_out m_wide m_gathered m_sets m_ranges m_nodes m_at m_flags m_fault m_place m_numbered m_depth m_value m_isNot m_least0 m_most0 m_slot m_work m_got m_rowMany m_charAt m_charWide m_trail m_isMatch m_matchGroups m_allFrom m_allBefore m_founds m_pieces m_writtenMany m_templateWide m_tooMuch))) → (cc o G 136 336 (zl 392196 CO)) → (0 ≤ i_ ∧ i_ ≤ 196) → (nclr CO cl i_) → (nlo CO0 CO cl) → (fx o o [336] G0 G) → (G.length = G0.length) → (ab_slots G = ab_slots G0) → (Int.toNat (196 - i_) < mz) → (∀ (G2 : ab_G) (C2 : Int → Int), (cc o G2 136 336 (zl 392196 C2)) → (nclr C2 cl 196) → (nlo CO0 C2 cl) → (fx o o [336] G0 G2) → (G2.length = G0.length) → (ab_slots G2 = ab_slots G0) → ab_W X (ab_pl y_MO_lastEnd b_MO_lastEnd 13 (some (.int))) d G2 126 [some (vR 80), some (vz s), some (vz fm), some (vz n), some (vz ls), some (vz cl), some (vz far), some (vz p), none, none, none, none, none] [] Q) → ab_W X (ab_pl y_MO_lastEnd b_MO_lastEnd 13 (some (.int))) d G 97 [some (vR 80), some (vz s), some (vz fm), some (vz n), some (vz ls), some (vz cl), some (vz far), some (vz p), some (vz i_), none, none, none, none] [] Q := by
  intro mz
  induction mz with
  | zero => intro G i_ CO h80 h136 ci jc jlo hfr hlen hsl hm hk0; exact absurd hm (Nat.not_lt_zero _)
  | succ mz ih =>
    intro G i_ CO h80 h136 ci jc jlo hfr hlen hsl hm hk0
    refine ab_iload d_MO_lastEnd_97 rfl ?_
    refine zz_sipush d_MO_lastEnd_99 (by decide) ?_
    refine zz_icmp_ge (tgt := 126) d_MO_lastEnd_102 (by decide) (by omega) (by decide) (fun c1 => ?_) (fun c1 => ?_)
    · refine ab_less (L' := [some (vR 80), some (vz s), some (vz fm), some (vz n), some (vz ls), some (vz cl), some (vz far), some (vz p), none, none, none, none, none]) (fun i v h => by rcases i with _ | _ | _ | _ | _ | _ | _ | _ | _ | _ | _ | _ | _ | i <;> first | exact h | (simp at h)) ?_
      exact hk0 _ _ h136 (by rw [show (196 : Int) = i_ by omega]; exact jc) (by exact jlo) hfr hlen hsl
    · refine ab_aload_n d_MO_lastEnd_105 rfl ?_
      refine ab_getf (fs := mof m_thrown m_taped m_length m_out m_wide m_gathered m_sets m_ranges m_nodes m_at m_flags m_fault m_place m_numbered m_depth m_value m_isNot m_least0 m_most0 m_slot m_work m_got m_rowMany m_charAt m_charWide m_trail m_isMatch m_matchGroups m_allFrom m_allBefore m_founds m_pieces m_writtenMany m_templateWide m_tooMuch) f_MO_184 d_MO_lastEnd_106 h80.2.2 rfl ?_
      refine zz_sipush d_MO_lastEnd_109 (by decide) ?_
      refine ab_iload d_MO_lastEnd_112 rfl ?_
      refine zz_imul d_MO_lastEnd_114 ?_
      refine ab_iload d_MO_lastEnd_115 rfl ?_
      refine zz_iadd d_MO_lastEnd_117 ?_
      refine zz_lconst d_MO_lastEnd_118 ?_
      change ab_W _ _ _ G 119 [some (vR 80), some (vz s), some (vz fm), some (vz n), some (vz ls), some (vz cl), some (vz far), some (vz p), some (vz i_), none, none, none, none] [vj 0, vz ((196 * cl) + i_), vR 136] _
      refine zz_last d_MO_lastEnd_119 h136 (by omega) (h136.2.1 (by decide)) ?_
      obtain ⟨G2, eG2⟩ : ∃ z : ab_G, z = List.set G 136 (zl 392196 (zu CO ((196 * cl) + i_) 0)) := ⟨_, rfl⟩
      have h80 := h80.keep h136 eG2 (by decide)
      have hlen := (z_len eG2).trans hlen
      have hsl := (z_sl h136 eG2 rfl).trans hsl
      have hfr := hfr.wr h136 eG2 (by decide)
      have h136 := h136.kept eG2
      change ab_W _ _ _ (List.set G 136 (zl 392196 (zu CO ((196 * cl) + i_) 0))) 120 [some (vR 80), some (vz s), some (vz fm), some (vz n), some (vz ls), some (vz cl), some (vz far), some (vz p), some (vz i_), none, none, none, none] [] _
      rw [← eG2]
      refine zz_iinc d_MO_lastEnd_120 rfl (Nat.le_of_ble_eq_true rfl) (Nat.le_of_ble_eq_true rfl) rfl ?_
      change ab_W _ _ _ G2 123 [some (vR 80), some (vz s), some (vz fm), some (vz n), some (vz ls), some (vz cl), some (vz far), some (vz p), some (vz (i_ + 1)), none, none, none, none] [] _
      refine ab_goto (tgt := 97) d_MO_lastEnd_123 (by decide) ?_
      exact ih (i_ := (i_ + 1)) (CO := (zu CO ((196 * cl) + i_) 0)) h80 h136 (by omega) (nclr_s jc) (nlo_wr jlo (by omega)) hfr hlen hsl (by omega) hk0
set_option maxRecDepth 100000 in
set_option maxHeartbeats 4000000 in
theorem y_MO_lastEnd_73 {X : ab_X} {d : Nat} {Q : Outcome → ab_G → Prop} {o : Nat → Nat} {G0 : ab_G} {m_thrown : Int} {m_taped : Int} {m_length : Int} {m_out : Int} {m_wide : Int} {m_gathered : Int} {m_sets : Int} {m_ranges : Int} {m_nodes : Int} {m_at : Int} {m_flags : Int} {m_fault : Int} {m_place : Int} {m_numbered : Int} {m_depth : Int} {m_value : Int} {m_isNot : Int} {m_least0 : Int} {m_most0 : Int} {m_slot : Int} {m_work : Int} {m_got : Int} {m_rowMany : Int} {m_charAt : Int} {m_charWide : Int} {m_trail : Int} {m_isMatch : Int} {m_matchGroups : Int} {m_allFrom : Int} {m_allBefore : Int} {m_founds : Int} {m_pieces : Int} {m_writtenMany : Int} {m_templateWide : Int} {m_tooMuch : Int} {CO0 : Int → Int} {s : Int} {fm : Int} {n : Int} {ls : Int} {cl0 : Int} {far : Int} {p : Int} (n18 : ab_n0 = 18) (cle : 0 ≤ m_length ∧ m_length ≤ 2000) (cp : 0 ≤ p ∧ p ≤ m_length ∧ 0 ≤ cl0) (hd : 2 ≤ d) : ∀ (mz : Nat) {G : ab_G} {cl : Int} {CO : Int → Int}, (cc o G 80 280 (ab_ob 12 (mof m_thrown m_taped m_length m_out m_wide m_gathered m_sets m_ranges m_nodes m_at m_flags m_fault m_place m_numbered m_depth m_value m_isNot m_least0 m_most0 m_slot m_work m_got m_rowMany m_charAt m_charWide m_trail m_isMatch m_matchGroups m_allFrom m_allBefore m_founds m_pieces m_writtenMany m_templateWide m_tooMuch))) → (cc o G 136 336 (zl 392196 CO)) → (cl0 ≤ cl ∧ cl ≤ m_length) → (nlo CO0 CO (cl0 + 1)) → (nemps CO cl0 cl) → (fx o o [336] G0 G) → (G.length = G0.length) → (ab_slots G = ab_slots G0) → (Int.toNat (m_length - cl) < mz) → (∀ (G2 : ab_G) (c2 : Int) (C2 : Int → Int), (cc o G2 136 336 (zl 392196 C2)) → (cl0 ≤ c2 ∧ c2 ≤ m_length) → (c2 = m_length ∨ p + 4 ≤ c2) → (nlo CO0 C2 (cl0 + 1)) → (nemps C2 cl0 c2) → (fx o o [336] G0 G2) → (G2.length = G0.length) → (ab_slots G2 = ab_slots G0) → ab_W X (ab_pl y_MO_lastEnd b_MO_lastEnd 13 (some (.int))) d G2 129 [some (vR 80), some (vz s), some (vz fm), some (vz n), some (vz ls), some (vz c2), some (vz far), some (vz p), none, none, none, none, none] [] Q) → ab_W X (ab_pl y_MO_lastEnd b_MO_lastEnd 13 (some (.int))) d G 73 [some (vR 80), some (vz s), some (vz fm), some (vz n), some (vz ls), some (vz cl), some (vz far), some (vz p), none, none, none, none, none] [] Q := by
  intro mz
  induction mz with
  | zero => intro G cl CO h80 h136 ci jlo jem hfr hlen hsl hm hk0; exact absurd hm (Nat.not_lt_zero _)
  | succ mz ih =>
    intro G cl CO h80 h136 ci jlo jem hfr hlen hsl hm hk0
    refine ab_iload d_MO_lastEnd_73 rfl ?_
    refine ab_aload_n d_MO_lastEnd_75 rfl ?_
    refine ab_getf (fs := mof m_thrown m_taped m_length m_out m_wide m_gathered m_sets m_ranges m_nodes m_at m_flags m_fault m_place m_numbered m_depth m_value m_isNot m_least0 m_most0 m_slot m_work m_got m_rowMany m_charAt m_charWide m_trail m_isMatch m_matchGroups m_allFrom m_allBefore m_founds m_pieces m_writtenMany m_templateWide m_tooMuch) f_MO_510 d_MO_lastEnd_76 h80.2.2 rfl ?_
    refine zz_icmp_ge (tgt := 129) d_MO_lastEnd_79 (by decide) (by omega) (by omega) (fun c1 => ?_) (fun c1 => ?_)
    · exact hk0 _ _ _ h136 (by omega) (by omega) (by exact jlo) (by exact jem) hfr hlen hsl
    · refine ab_iload d_MO_lastEnd_82 rfl ?_
      refine ab_iload d_MO_lastEnd_84 rfl ?_
      refine zz_iconst d_MO_lastEnd_86 ?_
      refine zz_iadd d_MO_lastEnd_87 ?_
      refine zz_icmp_ge (tgt := 129) d_MO_lastEnd_88 (by decide) (by omega) (by omega) (fun c2 => ?_) (fun c2 => ?_)
      · exact hk0 _ _ _ h136 (by omega) (by omega) (by exact jlo) (by exact jem) hfr hlen hsl
      · refine zz_iinc d_MO_lastEnd_91 rfl (Nat.le_of_ble_eq_true rfl) (Nat.le_of_ble_eq_true rfl) rfl ?_
        change ab_W _ _ _ G 94 [some (vR 80), some (vz s), some (vz fm), some (vz n), some (vz ls), some (vz (cl + 1)), some (vz far), some (vz p), none, none, none, none, none] [] _
        refine zz_iconst d_MO_lastEnd_94 ?_
        refine ab_istore d_MO_lastEnd_95 (Nat.le_of_ble_eq_true rfl) (Nat.le_of_ble_eq_true rfl) rfl ?_
        change ab_W _ _ _ G 97 [some (vR 80), some (vz s), some (vz fm), some (vz n), some (vz ls), some (vz (cl + 1)), some (vz far), some (vz p), some (vz 0), none, none, none, none] [] _
        refine y_MO_lastEnd_97 (m_thrown := m_thrown) (m_taped := m_taped) (m_length := m_length) (m_out := m_out) (m_wide := m_wide) (m_gathered := m_gathered) (m_sets := m_sets) (m_ranges := m_ranges) (m_nodes := m_nodes) (m_at := m_at) (m_flags := m_flags) (m_fault := m_fault) (m_place := m_place) (m_numbered := m_numbered) (m_depth := m_depth) (m_value := m_value) (m_isNot := m_isNot) (m_least0 := m_least0) (m_most0 := m_most0) (m_slot := m_slot) (m_work := m_work) (m_got := m_got) (m_rowMany := m_rowMany) (m_charAt := m_charAt) (m_charWide := m_charWide) (m_trail := m_trail) (m_isMatch := m_isMatch) (m_matchGroups := m_matchGroups) (m_allFrom := m_allFrom) (m_allBefore := m_allBefore) (m_founds := m_founds) (m_pieces := m_pieces) (m_writtenMany := m_writtenMany) (m_templateWide := m_templateWide) (m_tooMuch := m_tooMuch) (CO0 := CO) (s := s) (fm := fm) (n := n) (ls := ls) (cl := (cl + 1)) (far := far) (p := p) (G0 := G) (i_ := 0) (CO := CO) (by omega) (by omega) (by omega) (Int.toNat (196 - 0) + 1) h80 h136 (by omega) nclr_0 nlo_rf fx.rf rfl rfl (by omega) (fun G3 C24 hN136 hq5 hq6 hfk hlk hsk => ?_)
        · have h80 := hfk.get h80 (by decide)
          have hfr := hfr.tr hfk (by decide)
          have hlen := hlk.trans hlen
          have hsl := hsk.trans hsl
          have h136 := hN136
          change ab_W _ _ _ G3 126 [some (vR 80), some (vz s), some (vz fm), some (vz n), some (vz ls), some (vz (cl + 1)), some (vz far), some (vz p), none, none, none, none, none] [] _
          refine ab_goto (tgt := 73) d_MO_lastEnd_126 (by decide) ?_
          exact ih (cl := (cl + 1)) (CO := C24) h80 h136 (by omega) (nlo_tr jlo hq6 (by omega)) (nemps_s jem hq6 (nemp_clr hq5)) hfr hlen hsl (by omega) hk0
