set_option maxRecDepth 100000 in
set_option maxHeartbeats 4000000 in
theorem y_MO_feed_8 {X : ab_X} {d : Nat} {Q : Outcome → ab_G → Prop} {o : Nat → Nat} {G0 : ab_G} {m_thrown : Int} {m_taped : Int} {m_length : Int} {m_out : Int} {m_wide : Int} {m_gathered : Int} {m_sets : Int} {m_ranges : Int} {m_nodes : Int} {m_at : Int} {m_flags : Int} {m_fault : Int} {m_place : Int} {m_numbered : Int} {m_depth : Int} {m_value : Int} {m_isNot : Int} {m_least0 : Int} {m_most0 : Int} {m_slot : Int} {m_work : Int} {m_got : Int} {m_rowMany : Int} {m_charAt : Int} {m_charWide : Int} {m_trail : Int} {m_isMatch : Int} {m_matchGroups : Int} {m_allFrom : Int} {m_allBefore : Int} {m_founds : Int} {m_pieces : Int} {m_writtenMany : Int} {m_templateWide : Int} {m_tooMuch : Int} {x1 : Int} {x2 : Int} {x3 : Int} {x4 : Int} {x5 : Int} (n18 : ab_n0 = 18) (hd : 1 ≤ d) : ∀ (mz : Nat) {G : ab_G} {k : Int} {A_ready : Int → Int}, (cc o G 80 280 (ab_ob 12 (mof m_thrown m_taped m_length m_out m_wide m_gathered m_sets m_ranges m_nodes m_at m_flags m_fault m_place m_numbered m_depth m_value m_isNot m_least0 m_most0 m_slot m_work m_got m_rowMany m_charAt m_charWide m_trail m_isMatch m_matchGroups m_allFrom m_allBefore m_founds m_pieces m_writtenMany m_templateWide m_tooMuch))) → (cc o G 83 283 (za 20 A_ready)) → (0 ≤ k ∧ k ≤ 4) → (rgs A_ready 20 0 255) → (fx o o [283] G0 G) → (G.length = G0.length) → (ab_slots G = ab_slots G0) → (Int.toNat (4 - k) < mz) → (∀ (G2 : ab_G) (B_ready : Int → Int), (cc o G2 83 283 (za 20 B_ready)) → (rgs B_ready 20 0 255) → (fx o o [283] G0 G2) → (G2.length = G0.length) → (ab_slots G2 = ab_slots G0) → ab_W X (ab_pl y_MO_feed b_MO_feed 8 none) d G2 118 [none, none, none, none, none, none, none, none] [] Q) → ab_W X (ab_pl y_MO_feed b_MO_feed 8 none) d G 8 [some (vR 80), some (vz x1), some (vz x2), some (vz x3), some (vz x4), some (vz x5), some (vz k), none] [] Q := by
  intro mz
  induction mz with
  | zero => intro G k A_ready h80 h83 ck jry hfr hlen hsl hm hk0; exact absurd hm (Nat.not_lt_zero _)
  | succ mz ih =>
    intro G k A_ready h80 h83 ck jry hfr hlen hsl hm hk0
    refine ab_iload d_MO_feed_8 rfl ?_
    refine zz_iconst d_MO_feed_10 ?_
    refine zz_icmp_ge (tgt := 118) d_MO_feed_11 (by decide) (by omega) (by decide) (fun c1 => ?_) (fun c1 => ?_)
    · refine ab_less (L' := [none, none, none, none, none, none, none, none]) (fun i v h => by rcases i with _ | _ | _ | _ | _ | _ | _ | _ | i <;> first | exact h | (simp at h)) ?_
      exact hk0 _ _ h83 (by first | exact jry | exact rgs_w jry (by omega)) hfr hlen hsl
    · refine zz_bipush d_MO_feed_14 (by decide) ?_
      refine zz_bipush d_MO_feed_16 (by decide) ?_
      refine ab_iload d_MO_feed_18 rfl ?_
      refine zz_imul d_MO_feed_20 ?_
      refine zz_isub d_MO_feed_21 ?_
      refine ab_istore d_MO_feed_22 (Nat.le_of_ble_eq_true rfl) (Nat.le_of_ble_eq_true rfl) rfl ?_
      change ab_W _ _ _ G 24 [some (vR 80), some (vz x1), some (vz x2), some (vz x3), some (vz x4), some (vz x5), some (vz k), some (vz (24 - (8 * k)))] [] _
      refine ab_aload_n d_MO_feed_24 rfl ?_
      refine ab_getf (fs := mof m_thrown m_taped m_length m_out m_wide m_gathered m_sets m_ranges m_nodes m_at m_flags m_fault m_place m_numbered m_depth m_value m_isNot m_least0 m_most0 m_slot m_work m_got m_rowMany m_charAt m_charWide m_trail m_isMatch m_matchGroups m_allFrom m_allBefore m_founds m_pieces m_writtenMany m_templateWide m_tooMuch) f_MO_16 d_MO_feed_25 h80.2.2 rfl ?_
      refine ab_iload d_MO_feed_28 rfl ?_
      refine ab_iload_n d_MO_feed_30 rfl ?_
      refine ab_iload d_MO_feed_31 rfl ?_
      refine ab_ishr d_MO_feed_33 ?_
      refine zz_sipush d_MO_feed_34 (by decide) ?_
      refine ab_iand d_MO_feed_37 ?_
      obtain ⟨v2, hv2, ev2⟩ := z_and255 (Int32.ofInt x1 >>> (Int32.ofInt (24 - (8 * k)) &&& 31))
      refine ab_topi ev2 ?_
      change ab_W _ _ _ G 38 [some (vR 80), some (vz x1), some (vz x2), some (vz x3), some (vz x4), some (vz x5), some (vz k), some (vz (24 - (8 * k)))] [vz v2, vz k, vR 83] _
      refine zz_iast d_MO_feed_38 h83 (by omega) (h83.2.1 (by decide)) ?_
      obtain ⟨G3, eG3⟩ : ∃ z : ab_G, z = List.set G 83 (za 20 (zu A_ready k v2)) := ⟨_, rfl⟩
      have h80 := h80.keep h83 eG3 (by decide)
      have hlen := (z_len eG3).trans hlen
      have hsl := (z_sl h83 eG3 rfl).trans hsl
      have hfr := hfr.wr h83 eG3 (by decide)
      have h83 := h83.kept eG3
      change ab_W _ _ _ (List.set G 83 (za 20 (zu A_ready k v2))) 39 [some (vR 80), some (vz x1), some (vz x2), some (vz x3), some (vz x4), some (vz x5), some (vz k), some (vz (24 - (8 * k)))] [] _
      rw [← eG3]
      refine ab_aload_n d_MO_feed_39 rfl ?_
      refine ab_getf (fs := mof m_thrown m_taped m_length m_out m_wide m_gathered m_sets m_ranges m_nodes m_at m_flags m_fault m_place m_numbered m_depth m_value m_isNot m_least0 m_most0 m_slot m_work m_got m_rowMany m_charAt m_charWide m_trail m_isMatch m_matchGroups m_allFrom m_allBefore m_founds m_pieces m_writtenMany m_templateWide m_tooMuch) f_MO_16 d_MO_feed_40 h80.2.2 rfl ?_
      refine zz_iconst d_MO_feed_43 ?_
      refine ab_iload d_MO_feed_44 rfl ?_
      refine zz_iadd d_MO_feed_46 ?_
      refine ab_iload_n d_MO_feed_47 rfl ?_
      refine ab_iload d_MO_feed_48 rfl ?_
      refine ab_ishr d_MO_feed_50 ?_
      refine zz_sipush d_MO_feed_51 (by decide) ?_
      refine ab_iand d_MO_feed_54 ?_
      obtain ⟨v4, hv4, ev4⟩ := z_and255 (Int32.ofInt x2 >>> (Int32.ofInt (24 - (8 * k)) &&& 31))
      refine ab_topi ev4 ?_
      change ab_W _ _ _ G3 55 [some (vR 80), some (vz x1), some (vz x2), some (vz x3), some (vz x4), some (vz x5), some (vz k), some (vz (24 - (8 * k)))] [vz v4, vz (4 + k), vR 83] _
      refine zz_iast d_MO_feed_55 h83 (by omega) (h83.2.1 (by decide)) ?_
      obtain ⟨G5, eG5⟩ : ∃ z : ab_G, z = List.set G3 83 (za 20 (zu (zu A_ready k v2) (4 + k) v4)) := ⟨_, rfl⟩
      have h80 := h80.keep h83 eG5 (by decide)
      have hlen := (z_len eG5).trans hlen
      have hsl := (z_sl h83 eG5 rfl).trans hsl
      have hfr := hfr.wr h83 eG5 (by decide)
      have h83 := h83.kept eG5
      change ab_W _ _ _ (List.set G3 83 (za 20 (zu (zu A_ready k v2) (4 + k) v4))) 56 [some (vR 80), some (vz x1), some (vz x2), some (vz x3), some (vz x4), some (vz x5), some (vz k), some (vz (24 - (8 * k)))] [] _
      rw [← eG5]
      refine ab_aload_n d_MO_feed_56 rfl ?_
      refine ab_getf (fs := mof m_thrown m_taped m_length m_out m_wide m_gathered m_sets m_ranges m_nodes m_at m_flags m_fault m_place m_numbered m_depth m_value m_isNot m_least0 m_most0 m_slot m_work m_got m_rowMany m_charAt m_charWide m_trail m_isMatch m_matchGroups m_allFrom m_allBefore m_founds m_pieces m_writtenMany m_templateWide m_tooMuch) f_MO_16 d_MO_feed_57 h80.2.2 rfl ?_
      refine zz_bipush d_MO_feed_60 (by decide) ?_
      refine ab_iload d_MO_feed_62 rfl ?_
      refine zz_iadd d_MO_feed_64 ?_
      refine ab_iload_n d_MO_feed_65 rfl ?_
      refine ab_iload d_MO_feed_66 rfl ?_
      refine ab_ishr d_MO_feed_68 ?_
      refine zz_sipush d_MO_feed_69 (by decide) ?_
      refine ab_iand d_MO_feed_72 ?_
      obtain ⟨v6, hv6, ev6⟩ := z_and255 (Int32.ofInt x3 >>> (Int32.ofInt (24 - (8 * k)) &&& 31))
      refine ab_topi ev6 ?_
      change ab_W _ _ _ G5 73 [some (vR 80), some (vz x1), some (vz x2), some (vz x3), some (vz x4), some (vz x5), some (vz k), some (vz (24 - (8 * k)))] [vz v6, vz (8 + k), vR 83] _
      refine zz_iast d_MO_feed_73 h83 (by omega) (h83.2.1 (by decide)) ?_
      obtain ⟨G7, eG7⟩ : ∃ z : ab_G, z = List.set G5 83 (za 20 (zu (zu (zu A_ready k v2) (4 + k) v4) (8 + k) v6)) := ⟨_, rfl⟩
      have h80 := h80.keep h83 eG7 (by decide)
      have hlen := (z_len eG7).trans hlen
      have hsl := (z_sl h83 eG7 rfl).trans hsl
      have hfr := hfr.wr h83 eG7 (by decide)
      have h83 := h83.kept eG7
      change ab_W _ _ _ (List.set G5 83 (za 20 (zu (zu (zu A_ready k v2) (4 + k) v4) (8 + k) v6))) 74 [some (vR 80), some (vz x1), some (vz x2), some (vz x3), some (vz x4), some (vz x5), some (vz k), some (vz (24 - (8 * k)))] [] _
      rw [← eG7]
      refine ab_aload_n d_MO_feed_74 rfl ?_
      refine ab_getf (fs := mof m_thrown m_taped m_length m_out m_wide m_gathered m_sets m_ranges m_nodes m_at m_flags m_fault m_place m_numbered m_depth m_value m_isNot m_least0 m_most0 m_slot m_work m_got m_rowMany m_charAt m_charWide m_trail m_isMatch m_matchGroups m_allFrom m_allBefore m_founds m_pieces m_writtenMany m_templateWide m_tooMuch) f_MO_16 d_MO_feed_75 h80.2.2 rfl ?_
      refine zz_bipush d_MO_feed_78 (by decide) ?_
      refine ab_iload d_MO_feed_80 rfl ?_
      refine zz_iadd d_MO_feed_82 ?_
      refine ab_iload d_MO_feed_83 rfl ?_
      refine ab_iload d_MO_feed_85 rfl ?_
      refine ab_ishr d_MO_feed_87 ?_
      refine zz_sipush d_MO_feed_88 (by decide) ?_
      refine ab_iand d_MO_feed_91 ?_
      obtain ⟨v8, hv8, ev8⟩ := z_and255 (Int32.ofInt x4 >>> (Int32.ofInt (24 - (8 * k)) &&& 31))
      refine ab_topi ev8 ?_
      change ab_W _ _ _ G7 92 [some (vR 80), some (vz x1), some (vz x2), some (vz x3), some (vz x4), some (vz x5), some (vz k), some (vz (24 - (8 * k)))] [vz v8, vz (12 + k), vR 83] _
      refine zz_iast d_MO_feed_92 h83 (by omega) (h83.2.1 (by decide)) ?_
      obtain ⟨G9, eG9⟩ : ∃ z : ab_G, z = List.set G7 83 (za 20 (zu (zu (zu (zu A_ready k v2) (4 + k) v4) (8 + k) v6) (12 + k) v8)) := ⟨_, rfl⟩
      have h80 := h80.keep h83 eG9 (by decide)
      have hlen := (z_len eG9).trans hlen
      have hsl := (z_sl h83 eG9 rfl).trans hsl
      have hfr := hfr.wr h83 eG9 (by decide)
      have h83 := h83.kept eG9
      change ab_W _ _ _ (List.set G7 83 (za 20 (zu (zu (zu (zu A_ready k v2) (4 + k) v4) (8 + k) v6) (12 + k) v8))) 93 [some (vR 80), some (vz x1), some (vz x2), some (vz x3), some (vz x4), some (vz x5), some (vz k), some (vz (24 - (8 * k)))] [] _
      rw [← eG9]
      refine ab_aload_n d_MO_feed_93 rfl ?_
      refine ab_getf (fs := mof m_thrown m_taped m_length m_out m_wide m_gathered m_sets m_ranges m_nodes m_at m_flags m_fault m_place m_numbered m_depth m_value m_isNot m_least0 m_most0 m_slot m_work m_got m_rowMany m_charAt m_charWide m_trail m_isMatch m_matchGroups m_allFrom m_allBefore m_founds m_pieces m_writtenMany m_templateWide m_tooMuch) f_MO_16 d_MO_feed_94 h80.2.2 rfl ?_
      refine zz_bipush d_MO_feed_97 (by decide) ?_
      refine ab_iload d_MO_feed_99 rfl ?_
      refine zz_iadd d_MO_feed_101 ?_
      refine ab_iload d_MO_feed_102 rfl ?_
      refine ab_iload d_MO_feed_104 rfl ?_
      refine ab_ishr d_MO_feed_106 ?_
      refine zz_sipush d_MO_feed_107 (by decide) ?_
      refine ab_iand d_MO_feed_110 ?_
      obtain ⟨v10, hv10, ev10⟩ := z_and255 (Int32.ofInt x5 >>> (Int32.ofInt (24 - (8 * k)) &&& 31))
      refine ab_topi ev10 ?_
      change ab_W _ _ _ G9 111 [some (vR 80), some (vz x1), some (vz x2), some (vz x3), some (vz x4), some (vz x5), some (vz k), some (vz (24 - (8 * k)))] [vz v10, vz (16 + k), vR 83] _
      refine zz_iast d_MO_feed_111 h83 (by omega) (h83.2.1 (by decide)) ?_
      obtain ⟨G11, eG11⟩ : ∃ z : ab_G, z = List.set G9 83 (za 20 (zu (zu (zu (zu (zu A_ready k v2) (4 + k) v4) (8 + k) v6) (12 + k) v8) (16 + k) v10)) := ⟨_, rfl⟩
      have h80 := h80.keep h83 eG11 (by decide)
      have hlen := (z_len eG11).trans hlen
      have hsl := (z_sl h83 eG11 rfl).trans hsl
      have hfr := hfr.wr h83 eG11 (by decide)
      have h83 := h83.kept eG11
      change ab_W _ _ _ (List.set G9 83 (za 20 (zu (zu (zu (zu (zu A_ready k v2) (4 + k) v4) (8 + k) v6) (12 + k) v8) (16 + k) v10))) 112 [some (vR 80), some (vz x1), some (vz x2), some (vz x3), some (vz x4), some (vz x5), some (vz k), some (vz (24 - (8 * k)))] [] _
      rw [← eG11]
      refine zz_iinc d_MO_feed_112 rfl (Nat.le_of_ble_eq_true rfl) (Nat.le_of_ble_eq_true rfl) rfl ?_
      change ab_W _ _ _ G11 115 [some (vR 80), some (vz x1), some (vz x2), some (vz x3), some (vz x4), some (vz x5), some (vz (k + 1)), some (vz (24 - (8 * k)))] [] _
      refine ab_goto (tgt := 8) d_MO_feed_115 (by decide) ?_
      refine ab_less (L' := [some (vR 80), some (vz x1), some (vz x2), some (vz x3), some (vz x4), some (vz x5), some (vz (k + 1)), none]) (fun i v h => by rcases i with _ | _ | _ | _ | _ | _ | _ | _ | i <;> first | exact h | (simp at h)) ?_
      exact ih (k := (k + 1)) (A_ready := (zu (zu (zu (zu (zu A_ready k v2) (4 + k) v4) (8 + k) v6) (12 + k) v8) (16 + k) v10)) h80 h83 (by omega) (rgs_zu (rgs_zu (rgs_zu (rgs_zu (rgs_zu jry (by omega)) (by omega)) (by omega)) (by omega)) (by omega)) hfr hlen hsl (by omega) hk0
set_option maxRecDepth 100000 in
set_option maxHeartbeats 4000000 in
theorem z_MO_feed {X : ab_X} {d : Nat} {o : Nat → Nat} {G : ab_G} {m_thrown : Int} {m_taped : Int} {m_length : Int} {m_out : Int} {m_wide : Int} {m_gathered : Int} {m_sets : Int} {m_ranges : Int} {m_nodes : Int} {m_at : Int} {m_flags : Int} {m_fault : Int} {m_place : Int} {m_numbered : Int} {m_depth : Int} {m_value : Int} {m_isNot : Int} {m_least0 : Int} {m_most0 : Int} {m_slot : Int} {m_work : Int} {m_got : Int} {m_rowMany : Int} {m_charAt : Int} {m_charWide : Int} {m_trail : Int} {m_isMatch : Int} {m_matchGroups : Int} {m_allFrom : Int} {m_allBefore : Int} {m_founds : Int} {m_pieces : Int} {m_writtenMany : Int} {m_templateWide : Int} {m_tooMuch : Int} {A_ready : Int → Int} {x1 : Int} {x2 : Int} {x3 : Int} {x4 : Int} {x5 : Int} (h80 : cc o G 80 280 (ab_ob 12 (mof m_thrown m_taped m_length m_out m_wide m_gathered m_sets m_ranges m_nodes m_at m_flags m_fault m_place m_numbered m_depth m_value m_isNot m_least0 m_most0 m_slot m_work m_got m_rowMany m_charAt m_charWide m_trail m_isMatch m_matchGroups m_allFrom m_allBefore m_founds m_pieces m_writtenMany m_templateWide m_tooMuch))) (h83 : cc o G 83 283 (za 20 A_ready)) (n18 : ab_n0 = 18) (jry : rgs A_ready 20 0 255) (hd : 2 ≤ d) : ab_F X d y_MO_feed (.code y_MO_feed b_MO_feed 8 none) [vR 80, vz x1, vz x2, vz x3, vz x4, vz x5] G (fun oc G2 => ∃ B_ready : Int → Int, oc = .returned none ∧ fx o o [280, 283] G G2 ∧ G2.length = G.length ∧ ab_slots G2 = ab_slots G ∧ cc o G2 80 280 (ab_ob 12 (mof 0 m_taped m_length m_out m_wide m_gathered m_sets m_ranges m_nodes m_at m_flags m_fault m_place m_numbered m_depth m_value m_isNot m_least0 m_most0 m_slot m_work m_got m_rowMany m_charAt m_charWide m_trail m_isMatch m_matchGroups m_allFrom m_allBefore m_founds m_pieces m_writtenMany m_templateWide m_tooMuch)) ∧ cc o G2 83 283 (za 20 B_ready) ∧ (rgs B_ready 20 0 255)) := by
  refine ab_F_of (by decide +kernel) (Nat.le_of_ble_eq_true rfl) ?_
  obtain ⟨Q, hQ⟩ : ∃ z : Outcome → ab_G → Prop, z = (fun oc G2 => ∃ B_ready : Int → Int, oc = .returned none ∧ fx o o [280, 283] G G2 ∧ G2.length = G.length ∧ ab_slots G2 = ab_slots G ∧ cc o G2 80 280 (ab_ob 12 (mof 0 m_taped m_length m_out m_wide m_gathered m_sets m_ranges m_nodes m_at m_flags m_fault m_place m_numbered m_depth m_value m_isNot m_least0 m_most0 m_slot m_work m_got m_rowMany m_charAt m_charWide m_trail m_isMatch m_matchGroups m_allFrom m_allBefore m_founds m_pieces m_writtenMany m_templateWide m_tooMuch)) ∧ cc o G2 83 283 (za 20 B_ready) ∧ (rgs B_ready 20 0 255)) := ⟨_, rfl⟩
  rw [← hQ]
  change ab_W X (ab_pl y_MO_feed b_MO_feed 8 none) d G 0 [some (vR 80), some (vz x1), some (vz x2), some (vz x3), some (vz x4), some (vz x5), none, none] [] Q
  have hfr : fx o o [280, 283] G G := fx.rf
  have hlen : G.length = G.length := rfl
  have hsl : ab_slots G = ab_slots G := rfl
  refine ab_aload_n d_MO_feed_0 rfl ?_
  refine zz_iconst d_MO_feed_1 ?_
  refine ab_putf (fs := mof m_thrown m_taped m_length m_out m_wide m_gathered m_sets m_ranges m_nodes m_at m_flags m_fault m_place m_numbered m_depth m_value m_isNot m_least0 m_most0 m_slot m_work m_got m_rowMany m_charAt m_charWide m_trail m_isMatch m_matchGroups m_allFrom m_allBefore m_founds m_pieces m_writtenMany m_templateWide m_tooMuch) f_MO_220 (Or.inl rfl) d_MO_feed_2 h80.2.2 (Nat.le_of_ble_eq_true rfl) (fun _ => ⟨rfl, rfl⟩) (h80.2.1 (by decide)) ?_
  obtain ⟨G1, eG1⟩ : ∃ z : ab_G, z = List.set G 80 (ab_ob 12 (mof 0 m_taped m_length m_out m_wide m_gathered m_sets m_ranges m_nodes m_at m_flags m_fault m_place m_numbered m_depth m_value m_isNot m_least0 m_most0 m_slot m_work m_got m_rowMany m_charAt m_charWide m_trail m_isMatch m_matchGroups m_allFrom m_allBefore m_founds m_pieces m_writtenMany m_templateWide m_tooMuch)) := ⟨_, rfl⟩
  have h83 := h83.keep h80 eG1 (by decide)
  have hlen := (z_len eG1).trans hlen
  have hsl := (z_sl h80 eG1 rfl).trans hsl
  have hfr := hfr.wr h80 eG1 (by decide)
  have h80 := h80.kept eG1
  change ab_W _ _ _ (List.set G 80 (ab_ob 12 (mof 0 m_taped m_length m_out m_wide m_gathered m_sets m_ranges m_nodes m_at m_flags m_fault m_place m_numbered m_depth m_value m_isNot m_least0 m_most0 m_slot m_work m_got m_rowMany m_charAt m_charWide m_trail m_isMatch m_matchGroups m_allFrom m_allBefore m_founds m_pieces m_writtenMany m_templateWide m_tooMuch))) 5 [some (vR 80), some (vz x1), some (vz x2), some (vz x3), some (vz x4), some (vz x5), none, none] [] _
  rw [← eG1]
  refine zz_iconst d_MO_feed_5 ?_
  refine ab_istore d_MO_feed_6 (Nat.le_of_ble_eq_true rfl) (Nat.le_of_ble_eq_true rfl) rfl ?_
  change ab_W _ _ _ G1 8 [some (vR 80), some (vz x1), some (vz x2), some (vz x3), some (vz x4), some (vz x5), some (vz 0), none] [] _
  refine y_MO_feed_8 (m_thrown := 0) (m_taped := m_taped) (m_length := m_length) (m_out := m_out) (m_wide := m_wide) (m_gathered := m_gathered) (m_sets := m_sets) (m_ranges := m_ranges) (m_nodes := m_nodes) (m_at := m_at) (m_flags := m_flags) (m_fault := m_fault) (m_place := m_place) (m_numbered := m_numbered) (m_depth := m_depth) (m_value := m_value) (m_isNot := m_isNot) (m_least0 := m_least0) (m_most0 := m_most0) (m_slot := m_slot) (m_work := m_work) (m_got := m_got) (m_rowMany := m_rowMany) (m_charAt := m_charAt) (m_charWide := m_charWide) (m_trail := m_trail) (m_isMatch := m_isMatch) (m_matchGroups := m_matchGroups) (m_allFrom := m_allFrom) (m_allBefore := m_allBefore) (m_founds := m_founds) (m_pieces := m_pieces) (m_writtenMany := m_writtenMany) (m_templateWide := m_templateWide) (m_tooMuch := m_tooMuch) (x1 := x1) (x2 := x2) (x3 := x3) (x4 := x4) (x5 := x5) (G0 := G1) (k := 0) (A_ready := A_ready) (by omega) (by omega) (Int.toNat (4 - 0) + 1) h80 h83 (by omega) jry fx.rf rfl rfl (by omega) (fun G2 B_ready3 hN83 hq4 hfk hlk hsk => ?_)
  · have h80 := hfk.get h80 (by decide)
    have hfr := hfr.tr hfk (by decide)
    have hlen := hlk.trans hlen
    have hsl := hsk.trans hsl
    have h83 := hN83
    change ab_W _ _ _ G2 118 [none, none, none, none, none, none, none, none] [] _
    refine ab_vret rfl d_MO_feed_118 ?_
    rw [hQ]; exact ⟨_, rfl, hfr, hlen, hsl, h80, h83, (by first | exact hq4 | exact rgs_w hq4 (by omega))⟩
set_option maxRecDepth 100000 in
set_option maxHeartbeats 4000000 in
theorem y_MO_end_31 {X : ab_X} {d : Nat} {Q : Outcome → ab_G → Prop} {o : Nat → Nat} {G0 : ab_G} {m_thrown : Int} {m_taped : Int} {m_length : Int} {m_out : Int} {m_wide : Int} {m_gathered : Int} {m_sets : Int} {m_ranges : Int} {m_nodes : Int} {m_at : Int} {m_flags : Int} {m_fault : Int} {m_place : Int} {m_numbered : Int} {m_depth : Int} {m_value : Int} {m_isNot : Int} {m_least0 : Int} {m_most0 : Int} {m_slot : Int} {m_work : Int} {m_got : Int} {m_rowMany : Int} {m_charAt : Int} {m_charWide : Int} {m_trail : Int} {m_isMatch : Int} {m_matchGroups : Int} {m_allFrom : Int} {m_allBefore : Int} {m_founds : Int} {m_pieces : Int} {m_writtenMany : Int} {m_templateWide : Int} {m_tooMuch : Int} {A_ready : Int → Int} {n_ : Int} (n18 : ab_n0 = 18) (jry : rgs A_ready 20 0 255) (cn : 0 ≤ n_ ∧ n_ ≤ 20 ∧ 0 ≤ m_taped ∧ m_taped + n_ ≤ 2000) (hd : 1 ≤ d) : ∀ (mz : Nat) {G : ab_G} {i_ : Int} {A_tape : Int → Int}, (cc o G 80 280 (ab_ob 12 (mof m_thrown m_taped m_length m_out m_wide m_gathered m_sets m_ranges m_nodes m_at m_flags m_fault m_place m_numbered m_depth m_value m_isNot m_least0 m_most0 m_slot m_work m_got m_rowMany m_charAt m_charWide m_trail m_isMatch m_matchGroups m_allFrom m_allBefore m_founds m_pieces m_writtenMany m_templateWide m_tooMuch))) → (cc o G 83 283 (za 20 A_ready)) → (cc o G 84 284 (za 2000 A_tape)) → (0 ≤ i_ ∧ i_ ≤ n_) → (rgs A_tape 2000 0 255) → (fx o o [284] G0 G) → (G.length = G0.length) → (ab_slots G = ab_slots G0) → (Int.toNat (n_ - i_) < mz) → (∀ (G2 : ab_G) (B_tape : Int → Int), (cc o G2 84 284 (za 2000 B_tape)) → (rgs B_tape 2000 0 255) → (fx o o [284] G0 G2) → (G2.length = G0.length) → (ab_slots G2 = ab_slots G0) → ab_W X (ab_pl y_MO_end b_MO_end 3 (some (.int))) d G2 59 [some (vR 80), some (vz n_), none] [] Q) → ab_W X (ab_pl y_MO_end b_MO_end 3 (some (.int))) d G 31 [some (vR 80), some (vz n_), some (vz i_)] [] Q := by
  intro mz
  induction mz with
  | zero => intro G i_ A_tape h80 h83 h84 ci jtp hfr hlen hsl hm hk0; exact absurd hm (Nat.not_lt_zero _)
  | succ mz ih =>
    intro G i_ A_tape h80 h83 h84 ci jtp hfr hlen hsl hm hk0
    refine ab_iload_n d_MO_end_31 rfl ?_
    refine ab_iload_n d_MO_end_32 rfl ?_
    refine zz_icmp_ge (tgt := 59) d_MO_end_33 (by decide) (by omega) (by omega) (fun c1 => ?_) (fun c1 => ?_)
    · refine ab_less (L' := [some (vR 80), some (vz n_), none]) (fun i v h => by rcases i with _ | _ | _ | i <;> first | exact h | (simp at h)) ?_
      exact hk0 _ _ h84 (by first | exact jtp | exact rgs_w jtp (by omega)) hfr hlen hsl
    · refine ab_aload_n d_MO_end_36 rfl ?_
      refine ab_getf (fs := mof m_thrown m_taped m_length m_out m_wide m_gathered m_sets m_ranges m_nodes m_at m_flags m_fault m_place m_numbered m_depth m_value m_isNot m_least0 m_most0 m_slot m_work m_got m_rowMany m_charAt m_charWide m_trail m_isMatch m_matchGroups m_allFrom m_allBefore m_founds m_pieces m_writtenMany m_templateWide m_tooMuch) f_MO_19 d_MO_end_37 h80.2.2 rfl ?_
      refine ab_aload_n d_MO_end_40 rfl ?_
      refine ab_getf (fs := mof m_thrown m_taped m_length m_out m_wide m_gathered m_sets m_ranges m_nodes m_at m_flags m_fault m_place m_numbered m_depth m_value m_isNot m_least0 m_most0 m_slot m_work m_got m_rowMany m_charAt m_charWide m_trail m_isMatch m_matchGroups m_allFrom m_allBefore m_founds m_pieces m_writtenMany m_templateWide m_tooMuch) f_MO_223 d_MO_end_41 h80.2.2 rfl ?_
      refine ab_iload_n d_MO_end_44 rfl ?_
      refine zz_iadd d_MO_end_45 ?_
      refine ab_aload_n d_MO_end_46 rfl ?_
      refine ab_getf (fs := mof m_thrown m_taped m_length m_out m_wide m_gathered m_sets m_ranges m_nodes m_at m_flags m_fault m_place m_numbered m_depth m_value m_isNot m_least0 m_most0 m_slot m_work m_got m_rowMany m_charAt m_charWide m_trail m_isMatch m_matchGroups m_allFrom m_allBefore m_founds m_pieces m_writtenMany m_templateWide m_tooMuch) f_MO_16 d_MO_end_47 h80.2.2 rfl ?_
      refine ab_iload_n d_MO_end_50 rfl ?_
      refine zz_iald d_MO_end_51 h83 (by omega) ?_
      have hv_ := jry i_ (by omega) (by omega)
      refine zz_iast d_MO_end_52 h84 (by omega) (h84.2.1 (by decide)) ?_
      obtain ⟨G2, eG2⟩ : ∃ z : ab_G, z = List.set G 84 (za 2000 (zu A_tape (m_taped + i_) (A_ready i_))) := ⟨_, rfl⟩
      have h80 := h80.keep h84 eG2 (by decide)
      have h83 := h83.keep h84 eG2 (by decide)
      have hlen := (z_len eG2).trans hlen
      have hsl := (z_sl h84 eG2 rfl).trans hsl
      have hfr := hfr.wr h84 eG2 (by decide)
      have h84 := h84.kept eG2
      change ab_W _ _ _ (List.set G 84 (za 2000 (zu A_tape (m_taped + i_) (A_ready i_)))) 53 [some (vR 80), some (vz n_), some (vz i_)] [] _
      rw [← eG2]
      refine zz_iinc d_MO_end_53 rfl (Nat.le_of_ble_eq_true rfl) (Nat.le_of_ble_eq_true rfl) rfl ?_
      change ab_W _ _ _ G2 56 [some (vR 80), some (vz n_), some (vz (i_ + 1))] [] _
      refine ab_goto (tgt := 31) d_MO_end_56 (by decide) ?_
      exact ih (i_ := (i_ + 1)) (A_tape := (zu A_tape (m_taped + i_) (A_ready i_))) h80 h83 h84 (by omega) (rgs_zu jtp (by omega)) hfr hlen hsl (by omega) hk0
set_option maxRecDepth 100000 in
set_option maxHeartbeats 4000000 in
theorem y_MO_end_71 {X : ab_X} {d : Nat} {Q : Outcome → ab_G → Prop} {o : Nat → Nat} {G0 : ab_G} {m_thrown : Int} {m_taped : Int} {m_length : Int} {m_out : Int} {m_wide : Int} {m_gathered : Int} {m_sets : Int} {m_ranges : Int} {m_nodes : Int} {m_at : Int} {m_flags : Int} {m_fault : Int} {m_place : Int} {m_numbered : Int} {m_depth : Int} {m_value : Int} {m_isNot : Int} {m_least0 : Int} {m_most0 : Int} {m_slot : Int} {m_work : Int} {m_got : Int} {m_rowMany : Int} {m_charAt : Int} {m_charWide : Int} {m_trail : Int} {m_isMatch : Int} {m_matchGroups : Int} {m_allFrom : Int} {m_allBefore : Int} {m_founds : Int} {m_pieces : Int} {m_writtenMany : Int} {m_templateWide : Int} {m_tooMuch : Int} (n18 : ab_n0 = 18) (hd : 1 ≤ d) : ∀ (mz : Nat) {G : ab_G} {i_ : Int} {A_ready : Int → Int}, (cc o G 80 280 (ab_ob 12 (mof m_thrown m_taped m_length m_out m_wide m_gathered m_sets m_ranges m_nodes m_at m_flags m_fault m_place m_numbered m_depth m_value m_isNot m_least0 m_most0 m_slot m_work m_got m_rowMany m_charAt m_charWide m_trail m_isMatch m_matchGroups m_allFrom m_allBefore m_founds m_pieces m_writtenMany m_templateWide m_tooMuch))) → (cc o G 83 283 (za 20 A_ready)) → (0 ≤ i_ ∧ i_ ≤ 20) → (rgs A_ready 20 0 255) → (fx o o [283] G0 G) → (G.length = G0.length) → (ab_slots G = ab_slots G0) → (Int.toNat (20 - i_) < mz) → (∀ (G2 : ab_G) (B_ready : Int → Int), (cc o G2 83 283 (za 20 B_ready)) → (rgs B_ready 20 0 255) → (fx o o [283] G0 G2) → (G2.length = G0.length) → (ab_slots G2 = ab_slots G0) → ab_W X (ab_pl y_MO_end b_MO_end 3 (some (.int))) d G2 90 [some (vR 80), none, none] [] Q) → ab_W X (ab_pl y_MO_end b_MO_end 3 (some (.int))) d G 71 [some (vR 80), none, some (vz i_)] [] Q := by
  intro mz
  induction mz with
  | zero => intro G i_ A_ready h80 h83 ci jry hfr hlen hsl hm hk0; exact absurd hm (Nat.not_lt_zero _)
  | succ mz ih =>
    intro G i_ A_ready h80 h83 ci jry hfr hlen hsl hm hk0
    refine ab_iload_n d_MO_end_71 rfl ?_
    refine zz_bipush d_MO_end_72 (by decide) ?_
    refine zz_icmp_ge (tgt := 90) d_MO_end_74 (by decide) (by omega) (by decide) (fun c1 => ?_) (fun c1 => ?_)
    · refine ab_less (L' := [some (vR 80), none, none]) (fun i v h => by rcases i with _ | _ | _ | i <;> first | exact h | (simp at h)) ?_
      exact hk0 _ _ h83 (by first | exact jry | exact rgs_w jry (by omega)) hfr hlen hsl
    · refine ab_aload_n d_MO_end_77 rfl ?_
      refine ab_getf (fs := mof m_thrown m_taped m_length m_out m_wide m_gathered m_sets m_ranges m_nodes m_at m_flags m_fault m_place m_numbered m_depth m_value m_isNot m_least0 m_most0 m_slot m_work m_got m_rowMany m_charAt m_charWide m_trail m_isMatch m_matchGroups m_allFrom m_allBefore m_founds m_pieces m_writtenMany m_templateWide m_tooMuch) f_MO_16 d_MO_end_78 h80.2.2 rfl ?_
      refine ab_iload_n d_MO_end_81 rfl ?_
      refine zz_iconst d_MO_end_82 ?_
      refine zz_iast d_MO_end_83 h83 (by omega) (h83.2.1 (by decide)) ?_
      obtain ⟨G2, eG2⟩ : ∃ z : ab_G, z = List.set G 83 (za 20 (zu A_ready i_ 0)) := ⟨_, rfl⟩
      have h80 := h80.keep h83 eG2 (by decide)
      have hlen := (z_len eG2).trans hlen
      have hsl := (z_sl h83 eG2 rfl).trans hsl
      have hfr := hfr.wr h83 eG2 (by decide)
      have h83 := h83.kept eG2
      change ab_W _ _ _ (List.set G 83 (za 20 (zu A_ready i_ 0))) 84 [some (vR 80), none, some (vz i_)] [] _
      rw [← eG2]
      refine zz_iinc d_MO_end_84 rfl (Nat.le_of_ble_eq_true rfl) (Nat.le_of_ble_eq_true rfl) rfl ?_
      change ab_W _ _ _ G2 87 [some (vR 80), none, some (vz (i_ + 1))] [] _
      refine ab_goto (tgt := 71) d_MO_end_87 (by decide) ?_
      exact ih (i_ := (i_ + 1)) (A_ready := (zu A_ready i_ 0)) h80 h83 (by omega) (rgs_zu jry (by omega)) hfr hlen hsl (by omega) hk0
set_option maxRecDepth 100000 in
set_option maxHeartbeats 4000000 in
theorem z_MO_end {X : ab_X} {d : Nat} {o : Nat → Nat} {G : ab_G} {m_thrown : Int} {m_taped : Int} {m_length : Int} {m_out : Int} {m_wide : Int} {m_gathered : Int} {m_sets : Int} {m_ranges : Int} {m_nodes : Int} {m_at : Int} {m_flags : Int} {m_fault : Int} {m_place : Int} {m_numbered : Int} {m_depth : Int} {m_value : Int} {m_isNot : Int} {m_least0 : Int} {m_most0 : Int} {m_slot : Int} {m_work : Int} {m_got : Int} {m_rowMany : Int} {m_charAt : Int} {m_charWide : Int} {m_trail : Int} {m_isMatch : Int} {m_matchGroups : Int} {m_allFrom : Int} {m_allBefore : Int} {m_founds : Int} {m_pieces : Int} {m_writtenMany : Int} {m_templateWide : Int} {m_tooMuch : Int} {A_ready : Int → Int} {A_tape : Int → Int} {n_ : Int} (h80 : cc o G 80 280 (ab_ob 12 (mof m_thrown m_taped m_length m_out m_wide m_gathered m_sets m_ranges m_nodes m_at m_flags m_fault m_place m_numbered m_depth m_value m_isNot m_least0 m_most0 m_slot m_work m_got m_rowMany m_charAt m_charWide m_trail m_isMatch m_matchGroups m_allFrom m_allBefore m_founds m_pieces m_writtenMany m_templateWide m_tooMuch))) (h83 : cc o G 83 283 (za 20 A_ready)) (h84 : cc o G 84 284 (za 2000 A_tape)) (n18 : ab_n0 = 18) (cr : -2147483648 ≤ n_ ∧ n_ ≤ 2147483647) (jry : rgs A_ready 20 0 255) (jtp : rgs A_tape 2000 0 255) (cta : 0 ≤ m_taped ∧ m_taped ≤ 2000) (hd : 2 ≤ d) : ab_F X d y_MO_end (.code y_MO_end b_MO_end 3 (some (.int))) [vR 80, vz n_] G (fun oc G2 => ∃ v : Int, ∃ t2 : Int, ∃ B_ready : Int → Int, ∃ B_tape : Int → Int, oc = .returned (some (vz v)) ∧ fx o o [280, 283, 284] G G2 ∧ G2.length = G.length ∧ ab_slots G2 = ab_slots G ∧ cc o G2 80 280 (ab_ob 12 (mof 0 t2 m_length m_out m_wide m_gathered m_sets m_ranges m_nodes m_at m_flags m_fault m_place m_numbered m_depth m_value m_isNot m_least0 m_most0 m_slot m_work m_got m_rowMany m_charAt m_charWide m_trail m_isMatch m_matchGroups m_allFrom m_allBefore m_founds m_pieces m_writtenMany m_templateWide m_tooMuch)) ∧ cc o G2 83 283 (za 20 B_ready) ∧ cc o G2 84 284 (za 2000 B_tape) ∧ (0 ≤ t2 ∧ t2 ≤ 2000) ∧ (rgs B_ready 20 0 255) ∧ (rgs B_tape 2000 0 255)) := by
  refine ab_F_of (by decide +kernel) (Nat.le_of_ble_eq_true rfl) ?_
  obtain ⟨Q, hQ⟩ : ∃ z : Outcome → ab_G → Prop, z = (fun oc G2 => ∃ v : Int, ∃ t2 : Int, ∃ B_ready : Int → Int, ∃ B_tape : Int → Int, oc = .returned (some (vz v)) ∧ fx o o [280, 283, 284] G G2 ∧ G2.length = G.length ∧ ab_slots G2 = ab_slots G ∧ cc o G2 80 280 (ab_ob 12 (mof 0 t2 m_length m_out m_wide m_gathered m_sets m_ranges m_nodes m_at m_flags m_fault m_place m_numbered m_depth m_value m_isNot m_least0 m_most0 m_slot m_work m_got m_rowMany m_charAt m_charWide m_trail m_isMatch m_matchGroups m_allFrom m_allBefore m_founds m_pieces m_writtenMany m_templateWide m_tooMuch)) ∧ cc o G2 83 283 (za 20 B_ready) ∧ cc o G2 84 284 (za 2000 B_tape) ∧ (0 ≤ t2 ∧ t2 ≤ 2000) ∧ (rgs B_ready 20 0 255) ∧ (rgs B_tape 2000 0 255)) := ⟨_, rfl⟩
  rw [← hQ]
  change ab_W X (ab_pl y_MO_end b_MO_end 3 (some (.int))) d G 0 [some (vR 80), some (vz n_), none] [] Q
  have hfr : fx o o [280, 283, 284] G G := fx.rf
  have hlen : G.length = G.length := rfl
  have hsl : ab_slots G = ab_slots G := rfl
  refine ab_aload_n d_MO_end_0 rfl ?_
  refine zz_iconst d_MO_end_1 ?_
  refine ab_putf (fs := mof m_thrown m_taped m_length m_out m_wide m_gathered m_sets m_ranges m_nodes m_at m_flags m_fault m_place m_numbered m_depth m_value m_isNot m_least0 m_most0 m_slot m_work m_got m_rowMany m_charAt m_charWide m_trail m_isMatch m_matchGroups m_allFrom m_allBefore m_founds m_pieces m_writtenMany m_templateWide m_tooMuch) f_MO_220 (Or.inl rfl) d_MO_end_2 h80.2.2 (Nat.le_of_ble_eq_true rfl) (fun _ => ⟨rfl, rfl⟩) (h80.2.1 (by decide)) ?_
  obtain ⟨G1, eG1⟩ : ∃ z : ab_G, z = List.set G 80 (ab_ob 12 (mof 0 m_taped m_length m_out m_wide m_gathered m_sets m_ranges m_nodes m_at m_flags m_fault m_place m_numbered m_depth m_value m_isNot m_least0 m_most0 m_slot m_work m_got m_rowMany m_charAt m_charWide m_trail m_isMatch m_matchGroups m_allFrom m_allBefore m_founds m_pieces m_writtenMany m_templateWide m_tooMuch)) := ⟨_, rfl⟩
  have h83 := h83.keep h80 eG1 (by decide)
  have h84 := h84.keep h80 eG1 (by decide)
  have hlen := (z_len eG1).trans hlen
  have hsl := (z_sl h80 eG1 rfl).trans hsl
  have hfr := hfr.wr h80 eG1 (by decide)
  have h80 := h80.kept eG1
  change ab_W _ _ _ (List.set G 80 (ab_ob 12 (mof 0 m_taped m_length m_out m_wide m_gathered m_sets m_ranges m_nodes m_at m_flags m_fault m_place m_numbered m_depth m_value m_isNot m_least0 m_most0 m_slot m_work m_got m_rowMany m_charAt m_charWide m_trail m_isMatch m_matchGroups m_allFrom m_allBefore m_founds m_pieces m_writtenMany m_templateWide m_tooMuch))) 5 [some (vR 80), some (vz n_), none] [] _
  rw [← eG1]
  refine ab_iload_n d_MO_end_5 rfl ?_
  refine zz_if_lt (tgt := 27) d_MO_end_6 (by decide) (by omega) (fun c2 => ?_) (fun c2 => ?_)
  · refine zz_iconst d_MO_end_27 ?_
    refine zz_iret rfl d_MO_end_28 ?_
    rw [hQ]; exact ⟨_, _, _, _, rfl, hfr, hlen, hsl, h80, h83, h84, (by omega), (by first | exact jry | exact rgs_w jry (by omega)), (by first | exact jtp | exact rgs_w jtp (by omega))⟩
  · refine ab_iload_n d_MO_end_9 rfl ?_
    refine zz_bipush d_MO_end_10 (by decide) ?_
    refine zz_icmp_gt (tgt := 27) d_MO_end_12 (by decide) (by omega) (by decide) (fun c3 => ?_) (fun c3 => ?_)
    · refine zz_iconst d_MO_end_27 ?_
      refine zz_iret rfl d_MO_end_28 ?_
      rw [hQ]; exact ⟨_, _, _, _, rfl, hfr, hlen, hsl, h80, h83, h84, (by omega), (by first | exact jry | exact rgs_w jry (by omega)), (by first | exact jtp | exact rgs_w jtp (by omega))⟩
    · refine ab_aload_n d_MO_end_15 rfl ?_
      refine ab_getf (fs := mof 0 m_taped m_length m_out m_wide m_gathered m_sets m_ranges m_nodes m_at m_flags m_fault m_place m_numbered m_depth m_value m_isNot m_least0 m_most0 m_slot m_work m_got m_rowMany m_charAt m_charWide m_trail m_isMatch m_matchGroups m_allFrom m_allBefore m_founds m_pieces m_writtenMany m_templateWide m_tooMuch) f_MO_223 d_MO_end_16 h80.2.2 rfl ?_
      refine ab_iload_n d_MO_end_19 rfl ?_
      refine zz_iadd d_MO_end_20 ?_
      refine zz_sipush d_MO_end_21 (by decide) ?_
      refine zz_icmp_le (tgt := 29) d_MO_end_24 (by decide) (by omega) (by decide) (fun c4 => ?_) (fun c4 => ?_)
      · refine zz_iconst d_MO_end_29 ?_
        refine ab_istore_n d_MO_end_30 (Nat.le_of_ble_eq_true rfl) (Nat.le_of_ble_eq_true rfl) rfl ?_
        change ab_W _ _ _ G1 31 [some (vR 80), some (vz n_), some (vz 0)] [] _
        refine y_MO_end_31 (m_thrown := 0) (m_taped := m_taped) (m_length := m_length) (m_out := m_out) (m_wide := m_wide) (m_gathered := m_gathered) (m_sets := m_sets) (m_ranges := m_ranges) (m_nodes := m_nodes) (m_at := m_at) (m_flags := m_flags) (m_fault := m_fault) (m_place := m_place) (m_numbered := m_numbered) (m_depth := m_depth) (m_value := m_value) (m_isNot := m_isNot) (m_least0 := m_least0) (m_most0 := m_most0) (m_slot := m_slot) (m_work := m_work) (m_got := m_got) (m_rowMany := m_rowMany) (m_charAt := m_charAt) (m_charWide := m_charWide) (m_trail := m_trail) (m_isMatch := m_isMatch) (m_matchGroups := m_matchGroups) (m_allFrom := m_allFrom) (m_allBefore := m_allBefore) (m_founds := m_founds) (m_pieces := m_pieces) (m_writtenMany := m_writtenMany) (m_templateWide := m_templateWide) (m_tooMuch := m_tooMuch) (A_ready := A_ready) (n_ := n_) (G0 := G1) (i_ := 0) (A_tape := A_tape) (by omega) jry (by omega) (by omega) (Int.toNat (n_ - 0) + 1) h80 h83 h84 (by omega) jtp fx.rf rfl rfl (by omega) (fun G5 B_tape6 hN84 hq7 hfk hlk hsk => ?_)
        · have h80 := hfk.get h80 (by decide)
          have h83 := hfk.get h83 (by decide)
          have hfr := hfr.tr hfk (by decide)
          have hlen := hlk.trans hlen
          have hsl := hsk.trans hsl
          have h84 := hN84
          change ab_W _ _ _ G5 59 [some (vR 80), some (vz n_), none] [] _
          refine ab_aload_n d_MO_end_59 rfl ?_
          refine ab_dup d_MO_end_60 rfl ?_
          refine ab_getf (fs := mof 0 m_taped m_length m_out m_wide m_gathered m_sets m_ranges m_nodes m_at m_flags m_fault m_place m_numbered m_depth m_value m_isNot m_least0 m_most0 m_slot m_work m_got m_rowMany m_charAt m_charWide m_trail m_isMatch m_matchGroups m_allFrom m_allBefore m_founds m_pieces m_writtenMany m_templateWide m_tooMuch) f_MO_223 d_MO_end_61 h80.2.2 rfl ?_
          refine ab_iload_n d_MO_end_64 rfl ?_
          refine zz_iadd d_MO_end_65 ?_
          refine ab_putf (fs := mof 0 m_taped m_length m_out m_wide m_gathered m_sets m_ranges m_nodes m_at m_flags m_fault m_place m_numbered m_depth m_value m_isNot m_least0 m_most0 m_slot m_work m_got m_rowMany m_charAt m_charWide m_trail m_isMatch m_matchGroups m_allFrom m_allBefore m_founds m_pieces m_writtenMany m_templateWide m_tooMuch) f_MO_223 (Or.inl rfl) d_MO_end_66 h80.2.2 (Nat.le_of_ble_eq_true rfl) (fun _ => ⟨rfl, rfl⟩) (h80.2.1 (by decide)) ?_
          obtain ⟨G8, eG8⟩ : ∃ z : ab_G, z = List.set G5 80 (ab_ob 12 (mof 0 (m_taped + n_) m_length m_out m_wide m_gathered m_sets m_ranges m_nodes m_at m_flags m_fault m_place m_numbered m_depth m_value m_isNot m_least0 m_most0 m_slot m_work m_got m_rowMany m_charAt m_charWide m_trail m_isMatch m_matchGroups m_allFrom m_allBefore m_founds m_pieces m_writtenMany m_templateWide m_tooMuch)) := ⟨_, rfl⟩
          have h83 := h83.keep h80 eG8 (by decide)
          have h84 := h84.keep h80 eG8 (by decide)
          have hlen := (z_len eG8).trans hlen
          have hsl := (z_sl h80 eG8 rfl).trans hsl
          have hfr := hfr.wr h80 eG8 (by decide)
          have h80 := h80.kept eG8
          change ab_W _ _ _ (List.set G5 80 (ab_ob 12 (mof 0 (m_taped + n_) m_length m_out m_wide m_gathered m_sets m_ranges m_nodes m_at m_flags m_fault m_place m_numbered m_depth m_value m_isNot m_least0 m_most0 m_slot m_work m_got m_rowMany m_charAt m_charWide m_trail m_isMatch m_matchGroups m_allFrom m_allBefore m_founds m_pieces m_writtenMany m_templateWide m_tooMuch))) 69 [some (vR 80), some (vz n_), none] [] _
          rw [← eG8]
          refine zz_iconst d_MO_end_69 ?_
          refine ab_istore_n d_MO_end_70 (Nat.le_of_ble_eq_true rfl) (Nat.le_of_ble_eq_true rfl) rfl ?_
          change ab_W _ _ _ G8 71 [some (vR 80), some (vz n_), some (vz 0)] [] _
          refine ab_less (L' := [some (vR 80), none, some (vz 0)]) (fun i v h => by rcases i with _ | _ | _ | i <;> first | exact h | (simp at h)) ?_
          refine y_MO_end_71 (m_thrown := 0) (m_taped := (m_taped + n_)) (m_length := m_length) (m_out := m_out) (m_wide := m_wide) (m_gathered := m_gathered) (m_sets := m_sets) (m_ranges := m_ranges) (m_nodes := m_nodes) (m_at := m_at) (m_flags := m_flags) (m_fault := m_fault) (m_place := m_place) (m_numbered := m_numbered) (m_depth := m_depth) (m_value := m_value) (m_isNot := m_isNot) (m_least0 := m_least0) (m_most0 := m_most0) (m_slot := m_slot) (m_work := m_work) (m_got := m_got) (m_rowMany := m_rowMany) (m_charAt := m_charAt) (m_charWide := m_charWide) (m_trail := m_trail) (m_isMatch := m_isMatch) (m_matchGroups := m_matchGroups) (m_allFrom := m_allFrom) (m_allBefore := m_allBefore) (m_founds := m_founds) (m_pieces := m_pieces) (m_writtenMany := m_writtenMany) (m_templateWide := m_templateWide) (m_tooMuch := m_tooMuch) (G0 := G8) (i_ := 0) (A_ready := A_ready) (by omega) (by omega) (Int.toNat (20 - 0) + 1) h80 h83 (by omega) jry fx.rf rfl rfl (by omega) (fun G9 B_ready10 hN83 hq11 hfk hlk hsk => ?_)
          · have h80 := hfk.get h80 (by decide)
            have h84 := hfk.get h84 (by decide)
            have hfr := hfr.tr hfk (by decide)
            have hlen := hlk.trans hlen
            have hsl := hsk.trans hsl
            have h83 := hN83
            change ab_W _ _ _ G9 90 [some (vR 80), none, none] [] _
            refine ab_aload_n d_MO_end_90 rfl ?_
            refine ab_getf (fs := mof 0 (m_taped + n_) m_length m_out m_wide m_gathered m_sets m_ranges m_nodes m_at m_flags m_fault m_place m_numbered m_depth m_value m_isNot m_least0 m_most0 m_slot m_work m_got m_rowMany m_charAt m_charWide m_trail m_isMatch m_matchGroups m_allFrom m_allBefore m_founds m_pieces m_writtenMany m_templateWide m_tooMuch) f_MO_223 d_MO_end_91 h80.2.2 rfl ?_
            refine zz_iret rfl d_MO_end_94 ?_
            rw [hQ]; exact ⟨_, _, _, _, rfl, hfr, hlen, hsl, h80, h83, h84, (by omega), (by first | exact hq11 | exact rgs_w hq11 (by omega)), (by first | exact hq7 | exact rgs_w hq7 (by omega))⟩
      · refine zz_iconst d_MO_end_27 ?_
        refine zz_iret rfl d_MO_end_28 ?_
        rw [hQ]; exact ⟨_, _, _, _, rfl, hfr, hlen, hsl, h80, h83, h84, (by omega), (by first | exact jry | exact rgs_w jry (by omega)), (by first | exact jtp | exact rgs_w jtp (by omega))⟩
set_option maxRecDepth 100000 in
set_option maxHeartbeats 4000000 in
theorem y_MO_subject_15 {X : ab_X} {d : Nat} {Q : Outcome → ab_G → Prop} {o : Nat → Nat} {G0 : ab_G} {m_thrown : Int} {m_taped : Int} {m_length : Int} {m_out : Int} {m_wide : Int} {m_gathered : Int} {m_sets : Int} {m_ranges : Int} {m_nodes : Int} {m_at : Int} {m_flags : Int} {m_fault : Int} {m_place : Int} {m_numbered : Int} {m_depth : Int} {m_value : Int} {m_isNot : Int} {m_least0 : Int} {m_most0 : Int} {m_slot : Int} {m_work : Int} {m_got : Int} {m_rowMany : Int} {m_charAt : Int} {m_charWide : Int} {m_trail : Int} {m_isMatch : Int} {m_matchGroups : Int} {m_allFrom : Int} {m_allBefore : Int} {m_founds : Int} {m_pieces : Int} {m_writtenMany : Int} {m_templateWide : Int} {m_tooMuch : Int} {A_tape : Int → Int} (n18 : ab_n0 = 18) (jtp : rgs A_tape 2000 0 255) (cle : 0 ≤ m_length ∧ m_length ≤ 2000) (hd : 1 ≤ d) : ∀ (mz : Nat) {G : ab_G} {i_ : Int} {A_subject : Int → Int}, (cc o G 80 280 (ab_ob 12 (mof m_thrown m_taped m_length m_out m_wide m_gathered m_sets m_ranges m_nodes m_at m_flags m_fault m_place m_numbered m_depth m_value m_isNot m_least0 m_most0 m_slot m_work m_got m_rowMany m_charAt m_charWide m_trail m_isMatch m_matchGroups m_allFrom m_allBefore m_founds m_pieces m_writtenMany m_templateWide m_tooMuch))) → (cc o G 85 285 (za 2000 A_subject)) → (cc o G 84 284 (za 2000 A_tape)) → (0 ≤ i_ ∧ i_ ≤ m_length) → (rgs A_subject 2000 0 255) → (cpE A_subject A_tape i_) → (fx o o [285] G0 G) → (G.length = G0.length) → (ab_slots G = ab_slots G0) → (Int.toNat (m_length - i_) < mz) → (∀ (G2 : ab_G) (B_subject : Int → Int), (cc o G2 85 285 (za 2000 B_subject)) → (rgs B_subject 2000 0 255) → (cpE B_subject A_tape m_length) → (fx o o [285] G0 G2) → (G2.length = G0.length) → (ab_slots G2 = ab_slots G0) → ab_W X (ab_pl y_MO_subject b_MO_subject 2 (some (.int))) d G2 41 [some (vR 80), none] [] Q) → ab_W X (ab_pl y_MO_subject b_MO_subject 2 (some (.int))) d G 15 [some (vR 80), some (vz i_)] [] Q := by
  intro mz
  induction mz with
  | zero => intro G i_ A_subject h80 h85 h84 ci jsb jcp hfr hlen hsl hm hk0; exact absurd hm (Nat.not_lt_zero _)
  | succ mz ih =>
    intro G i_ A_subject h80 h85 h84 ci jsb jcp hfr hlen hsl hm hk0
    refine ab_iload_n d_MO_subject_15 rfl ?_
    refine ab_aload_n d_MO_subject_16 rfl ?_
    refine ab_getf (fs := mof m_thrown m_taped m_length m_out m_wide m_gathered m_sets m_ranges m_nodes m_at m_flags m_fault m_place m_numbered m_depth m_value m_isNot m_least0 m_most0 m_slot m_work m_got m_rowMany m_charAt m_charWide m_trail m_isMatch m_matchGroups m_allFrom m_allBefore m_founds m_pieces m_writtenMany m_templateWide m_tooMuch) f_MO_510 d_MO_subject_17 h80.2.2 rfl ?_
    refine zz_icmp_ge (tgt := 41) d_MO_subject_20 (by decide) (by omega) (by omega) (fun c1 => ?_) (fun c1 => ?_)
    · refine ab_less (L' := [some (vR 80), none]) (fun i v h => by rcases i with _ | _ | i <;> first | exact h | (simp at h)) ?_
      exact hk0 _ _ h85 (by first | exact jsb | exact rgs_w jsb (by omega)) (by exact (show i_ = m_length by omega) ▸ jcp) hfr hlen hsl
    · refine ab_aload_n d_MO_subject_23 rfl ?_
      refine ab_getf (fs := mof m_thrown m_taped m_length m_out m_wide m_gathered m_sets m_ranges m_nodes m_at m_flags m_fault m_place m_numbered m_depth m_value m_isNot m_least0 m_most0 m_slot m_work m_got m_rowMany m_charAt m_charWide m_trail m_isMatch m_matchGroups m_allFrom m_allBefore m_founds m_pieces m_writtenMany m_templateWide m_tooMuch) f_MO_22 d_MO_subject_24 h80.2.2 rfl ?_
      refine ab_iload_n d_MO_subject_27 rfl ?_
      refine ab_aload_n d_MO_subject_28 rfl ?_
      refine ab_getf (fs := mof m_thrown m_taped m_length m_out m_wide m_gathered m_sets m_ranges m_nodes m_at m_flags m_fault m_place m_numbered m_depth m_value m_isNot m_least0 m_most0 m_slot m_work m_got m_rowMany m_charAt m_charWide m_trail m_isMatch m_matchGroups m_allFrom m_allBefore m_founds m_pieces m_writtenMany m_templateWide m_tooMuch) f_MO_19 d_MO_subject_29 h80.2.2 rfl ?_
      refine ab_iload_n d_MO_subject_32 rfl ?_
      refine zz_iald d_MO_subject_33 h84 (by omega) ?_
      have hv_ := jtp i_ (by omega) (by omega)
      refine zz_iast d_MO_subject_34 h85 (by omega) (h85.2.1 (by decide)) ?_
      obtain ⟨G2, eG2⟩ : ∃ z : ab_G, z = List.set G 85 (za 2000 (zu A_subject i_ (A_tape i_))) := ⟨_, rfl⟩
      have h80 := h80.keep h85 eG2 (by decide)
      have h84 := h84.keep h85 eG2 (by decide)
      have hlen := (z_len eG2).trans hlen
      have hsl := (z_sl h85 eG2 rfl).trans hsl
      have hfr := hfr.wr h85 eG2 (by decide)
      have h85 := h85.kept eG2
      change ab_W _ _ _ (List.set G 85 (za 2000 (zu A_subject i_ (A_tape i_)))) 35 [some (vR 80), some (vz i_)] [] _
      rw [← eG2]
      refine zz_iinc d_MO_subject_35 rfl (Nat.le_of_ble_eq_true rfl) (Nat.le_of_ble_eq_true rfl) rfl ?_
      change ab_W _ _ _ G2 38 [some (vR 80), some (vz (i_ + 1))] [] _
      refine ab_goto (tgt := 15) d_MO_subject_38 (by decide) ?_
      exact ih (i_ := (i_ + 1)) (A_subject := (zu A_subject i_ (A_tape i_))) h80 h85 h84 (by omega) (rgs_zu jsb (by omega)) (cpE_s jcp) hfr hlen hsl (by omega) hk0
set_option maxRecDepth 100000 in
set_option maxHeartbeats 4000000 in
theorem z_MO_subject {X : ab_X} {d : Nat} {o : Nat → Nat} {G : ab_G} {m_thrown : Int} {m_taped : Int} {m_length : Int} {m_out : Int} {m_wide : Int} {m_gathered : Int} {m_sets : Int} {m_ranges : Int} {m_nodes : Int} {m_at : Int} {m_flags : Int} {m_fault : Int} {m_place : Int} {m_numbered : Int} {m_depth : Int} {m_value : Int} {m_isNot : Int} {m_least0 : Int} {m_most0 : Int} {m_slot : Int} {m_work : Int} {m_got : Int} {m_rowMany : Int} {m_charAt : Int} {m_charWide : Int} {m_trail : Int} {m_isMatch : Int} {m_matchGroups : Int} {m_allFrom : Int} {m_allBefore : Int} {m_founds : Int} {m_pieces : Int} {m_writtenMany : Int} {m_templateWide : Int} {m_tooMuch : Int} {A_subject : Int → Int} {A_tape : Int → Int} (h80 : cc o G 80 280 (ab_ob 12 (mof m_thrown m_taped m_length m_out m_wide m_gathered m_sets m_ranges m_nodes m_at m_flags m_fault m_place m_numbered m_depth m_value m_isNot m_least0 m_most0 m_slot m_work m_got m_rowMany m_charAt m_charWide m_trail m_isMatch m_matchGroups m_allFrom m_allBefore m_founds m_pieces m_writtenMany m_templateWide m_tooMuch))) (h85 : cc o G 85 285 (za 2000 A_subject)) (h84 : cc o G 84 284 (za 2000 A_tape)) (n18 : ab_n0 = 18) (jtp : rgs A_tape 2000 0 255) (jsb : rgs A_subject 2000 0 255) (cta : 0 ≤ m_taped ∧ m_taped ≤ 2000) (hd : 2 ≤ d) : ab_F X d y_MO_subject (.code y_MO_subject b_MO_subject 2 (some (.int))) [vR 80] G (fun oc G2 => ∃ B_subject : Int → Int, oc = .returned (some (vz m_taped)) ∧ fx o o [280, 285] G G2 ∧ G2.length = G.length ∧ ab_slots G2 = ab_slots G ∧ cc o G2 80 280 (ab_ob 12 (mof 0 0 m_taped m_out m_wide m_gathered m_sets m_ranges m_nodes m_at m_flags m_fault m_place m_numbered m_depth m_value m_isNot m_least0 m_most0 m_slot m_work m_got m_rowMany m_charAt m_charWide m_trail m_isMatch m_matchGroups m_allFrom m_allBefore m_founds m_pieces m_writtenMany m_templateWide m_tooMuch)) ∧ cc o G2 85 285 (za 2000 B_subject) ∧ (rgs B_subject 2000 0 255) ∧ (cpE B_subject A_tape m_taped)) := by
  refine ab_F_of (by decide +kernel) (Nat.le_of_ble_eq_true rfl) ?_
  obtain ⟨Q, hQ⟩ : ∃ z : Outcome → ab_G → Prop, z = (fun oc G2 => ∃ B_subject : Int → Int, oc = .returned (some (vz m_taped)) ∧ fx o o [280, 285] G G2 ∧ G2.length = G.length ∧ ab_slots G2 = ab_slots G ∧ cc o G2 80 280 (ab_ob 12 (mof 0 0 m_taped m_out m_wide m_gathered m_sets m_ranges m_nodes m_at m_flags m_fault m_place m_numbered m_depth m_value m_isNot m_least0 m_most0 m_slot m_work m_got m_rowMany m_charAt m_charWide m_trail m_isMatch m_matchGroups m_allFrom m_allBefore m_founds m_pieces m_writtenMany m_templateWide m_tooMuch)) ∧ cc o G2 85 285 (za 2000 B_subject) ∧ (rgs B_subject 2000 0 255) ∧ (cpE B_subject A_tape m_taped)) := ⟨_, rfl⟩
  rw [← hQ]
  change ab_W X (ab_pl y_MO_subject b_MO_subject 2 (some (.int))) d G 0 [some (vR 80), none] [] Q
  have hfr : fx o o [280, 285] G G := fx.rf
  have hlen : G.length = G.length := rfl
  have hsl : ab_slots G = ab_slots G := rfl
  refine ab_aload_n d_MO_subject_0 rfl ?_
  refine zz_iconst d_MO_subject_1 ?_
  refine ab_putf (fs := mof m_thrown m_taped m_length m_out m_wide m_gathered m_sets m_ranges m_nodes m_at m_flags m_fault m_place m_numbered m_depth m_value m_isNot m_least0 m_most0 m_slot m_work m_got m_rowMany m_charAt m_charWide m_trail m_isMatch m_matchGroups m_allFrom m_allBefore m_founds m_pieces m_writtenMany m_templateWide m_tooMuch) f_MO_220 (Or.inl rfl) d_MO_subject_2 h80.2.2 (Nat.le_of_ble_eq_true rfl) (fun _ => ⟨rfl, rfl⟩) (h80.2.1 (by decide)) ?_
  obtain ⟨G1, eG1⟩ : ∃ z : ab_G, z = List.set G 80 (ab_ob 12 (mof 0 m_taped m_length m_out m_wide m_gathered m_sets m_ranges m_nodes m_at m_flags m_fault m_place m_numbered m_depth m_value m_isNot m_least0 m_most0 m_slot m_work m_got m_rowMany m_charAt m_charWide m_trail m_isMatch m_matchGroups m_allFrom m_allBefore m_founds m_pieces m_writtenMany m_templateWide m_tooMuch)) := ⟨_, rfl⟩
  have h85 := h85.keep h80 eG1 (by decide)
  have h84 := h84.keep h80 eG1 (by decide)
  have hlen := (z_len eG1).trans hlen
  have hsl := (z_sl h80 eG1 rfl).trans hsl
  have hfr := hfr.wr h80 eG1 (by decide)
  have h80 := h80.kept eG1
  change ab_W _ _ _ (List.set G 80 (ab_ob 12 (mof 0 m_taped m_length m_out m_wide m_gathered m_sets m_ranges m_nodes m_at m_flags m_fault m_place m_numbered m_depth m_value m_isNot m_least0 m_most0 m_slot m_work m_got m_rowMany m_charAt m_charWide m_trail m_isMatch m_matchGroups m_allFrom m_allBefore m_founds m_pieces m_writtenMany m_templateWide m_tooMuch))) 5 [some (vR 80), none] [] _
  rw [← eG1]
  refine ab_aload_n d_MO_subject_5 rfl ?_
  refine ab_aload_n d_MO_subject_6 rfl ?_
  refine ab_getf (fs := mof 0 m_taped m_length m_out m_wide m_gathered m_sets m_ranges m_nodes m_at m_flags m_fault m_place m_numbered m_depth m_value m_isNot m_least0 m_most0 m_slot m_work m_got m_rowMany m_charAt m_charWide m_trail m_isMatch m_matchGroups m_allFrom m_allBefore m_founds m_pieces m_writtenMany m_templateWide m_tooMuch) f_MO_223 d_MO_subject_7 h80.2.2 rfl ?_
  refine ab_putf (fs := mof 0 m_taped m_length m_out m_wide m_gathered m_sets m_ranges m_nodes m_at m_flags m_fault m_place m_numbered m_depth m_value m_isNot m_least0 m_most0 m_slot m_work m_got m_rowMany m_charAt m_charWide m_trail m_isMatch m_matchGroups m_allFrom m_allBefore m_founds m_pieces m_writtenMany m_templateWide m_tooMuch) f_MO_510 (Or.inl rfl) d_MO_subject_10 h80.2.2 (Nat.le_of_ble_eq_true rfl) (fun _ => ⟨rfl, rfl⟩) (h80.2.1 (by decide)) ?_
  obtain ⟨G2, eG2⟩ : ∃ z : ab_G, z = List.set G1 80 (ab_ob 12 (mof 0 m_taped m_taped m_out m_wide m_gathered m_sets m_ranges m_nodes m_at m_flags m_fault m_place m_numbered m_depth m_value m_isNot m_least0 m_most0 m_slot m_work m_got m_rowMany m_charAt m_charWide m_trail m_isMatch m_matchGroups m_allFrom m_allBefore m_founds m_pieces m_writtenMany m_templateWide m_tooMuch)) := ⟨_, rfl⟩
  have h85 := h85.keep h80 eG2 (by decide)
  have h84 := h84.keep h80 eG2 (by decide)
  have hlen := (z_len eG2).trans hlen
  have hsl := (z_sl h80 eG2 rfl).trans hsl
  have hfr := hfr.wr h80 eG2 (by decide)
  have h80 := h80.kept eG2
  change ab_W _ _ _ (List.set G1 80 (ab_ob 12 (mof 0 m_taped m_taped m_out m_wide m_gathered m_sets m_ranges m_nodes m_at m_flags m_fault m_place m_numbered m_depth m_value m_isNot m_least0 m_most0 m_slot m_work m_got m_rowMany m_charAt m_charWide m_trail m_isMatch m_matchGroups m_allFrom m_allBefore m_founds m_pieces m_writtenMany m_templateWide m_tooMuch))) 13 [some (vR 80), none] [] _
  rw [← eG2]
  refine zz_iconst d_MO_subject_13 ?_
  refine ab_istore_n d_MO_subject_14 (Nat.le_of_ble_eq_true rfl) (Nat.le_of_ble_eq_true rfl) rfl ?_
  change ab_W _ _ _ G2 15 [some (vR 80), some (vz 0)] [] _
  refine y_MO_subject_15 (m_thrown := 0) (m_taped := m_taped) (m_length := m_taped) (m_out := m_out) (m_wide := m_wide) (m_gathered := m_gathered) (m_sets := m_sets) (m_ranges := m_ranges) (m_nodes := m_nodes) (m_at := m_at) (m_flags := m_flags) (m_fault := m_fault) (m_place := m_place) (m_numbered := m_numbered) (m_depth := m_depth) (m_value := m_value) (m_isNot := m_isNot) (m_least0 := m_least0) (m_most0 := m_most0) (m_slot := m_slot) (m_work := m_work) (m_got := m_got) (m_rowMany := m_rowMany) (m_charAt := m_charAt) (m_charWide := m_charWide) (m_trail := m_trail) (m_isMatch := m_isMatch) (m_matchGroups := m_matchGroups) (m_allFrom := m_allFrom) (m_allBefore := m_allBefore) (m_founds := m_founds) (m_pieces := m_pieces) (m_writtenMany := m_writtenMany) (m_templateWide := m_templateWide) (m_tooMuch := m_tooMuch) (A_tape := A_tape) (G0 := G2) (i_ := 0) (A_subject := A_subject) (by omega) jtp (by omega) (by omega) (Int.toNat (m_taped - 0) + 1) h80 h85 h84 (by omega) jsb cpE_0 fx.rf rfl rfl (by omega) (fun G3 B_subject4 hN85 hq5 hq6 hfk hlk hsk => ?_)
  · have h80 := hfk.get h80 (by decide)
    have h84 := hfk.get h84 (by decide)
    have hfr := hfr.tr hfk (by decide)
    have hlen := hlk.trans hlen
    have hsl := hsk.trans hsl
    have h85 := hN85
    change ab_W _ _ _ G3 41 [some (vR 80), none] [] _
    refine ab_aload_n d_MO_subject_41 rfl ?_
    refine zz_iconst d_MO_subject_42 ?_
    refine ab_putf (fs := mof 0 m_taped m_taped m_out m_wide m_gathered m_sets m_ranges m_nodes m_at m_flags m_fault m_place m_numbered m_depth m_value m_isNot m_least0 m_most0 m_slot m_work m_got m_rowMany m_charAt m_charWide m_trail m_isMatch m_matchGroups m_allFrom m_allBefore m_founds m_pieces m_writtenMany m_templateWide m_tooMuch) f_MO_223 (Or.inl rfl) d_MO_subject_43 h80.2.2 (Nat.le_of_ble_eq_true rfl) (fun _ => ⟨rfl, rfl⟩) (h80.2.1 (by decide)) ?_
    obtain ⟨G7, eG7⟩ : ∃ z : ab_G, z = List.set G3 80 (ab_ob 12 (mof 0 0 m_taped m_out m_wide m_gathered m_sets m_ranges m_nodes m_at m_flags m_fault m_place m_numbered m_depth m_value m_isNot m_least0 m_most0 m_slot m_work m_got m_rowMany m_charAt m_charWide m_trail m_isMatch m_matchGroups m_allFrom m_allBefore m_founds m_pieces m_writtenMany m_templateWide m_tooMuch)) := ⟨_, rfl⟩
    have h85 := h85.keep h80 eG7 (by decide)
    have h84 := h84.keep h80 eG7 (by decide)
    have hlen := (z_len eG7).trans hlen
    have hsl := (z_sl h80 eG7 rfl).trans hsl
    have hfr := hfr.wr h80 eG7 (by decide)
    have h80 := h80.kept eG7
    change ab_W _ _ _ (List.set G3 80 (ab_ob 12 (mof 0 0 m_taped m_out m_wide m_gathered m_sets m_ranges m_nodes m_at m_flags m_fault m_place m_numbered m_depth m_value m_isNot m_least0 m_most0 m_slot m_work m_got m_rowMany m_charAt m_charWide m_trail m_isMatch m_matchGroups m_allFrom m_allBefore m_founds m_pieces m_writtenMany m_templateWide m_tooMuch))) 46 [some (vR 80), none] [] _
    rw [← eG7]
    refine ab_aload_n d_MO_subject_46 rfl ?_
    refine ab_getf (fs := mof 0 0 m_taped m_out m_wide m_gathered m_sets m_ranges m_nodes m_at m_flags m_fault m_place m_numbered m_depth m_value m_isNot m_least0 m_most0 m_slot m_work m_got m_rowMany m_charAt m_charWide m_trail m_isMatch m_matchGroups m_allFrom m_allBefore m_founds m_pieces m_writtenMany m_templateWide m_tooMuch) f_MO_510 d_MO_subject_47 h80.2.2 rfl ?_
    refine zz_iret rfl d_MO_subject_50 ?_
    rw [hQ]; exact ⟨_, rfl, hfr, hlen, hsl, h80, h85, (by first | exact hq5 | exact rgs_w hq5 (by omega)), (by exact hq6)⟩
set_option maxRecDepth 100000 in
set_option maxHeartbeats 4000000 in
theorem z_MO_isWord {X : ab_X} {d : Nat} {o : Nat → Nat} {G : ab_G} {x : Int} (rx : -2147483648 ≤ x ∧ x ≤ 2147483647) : ab_F X d y_MO_isWord (.code y_MO_isWord b_MO_isWord 1 (some (.boolean))) [vz x] G (fun oc G2 => (oc = .returned (some (vz 1)) ∧ G2 = G ∧ (isW x)) ∨ (oc = .returned (some (vz 0)) ∧ G2 = G ∧ (¬ isW x))) := by
  refine ab_F_of (by decide +kernel) (Nat.le_of_ble_eq_true rfl) ?_
  obtain ⟨Q, hQ⟩ : ∃ z : Outcome → ab_G → Prop, z = (fun oc G2 => (oc = .returned (some (vz 1)) ∧ G2 = G ∧ (isW x)) ∨ (oc = .returned (some (vz 0)) ∧ G2 = G ∧ (¬ isW x))) := ⟨_, rfl⟩
  rw [← hQ]
  change ab_W X (ab_pl y_MO_isWord b_MO_isWord 1 (some (.boolean))) d G 0 [some (vz x)] [] Q
  have hfr : fx o o [] G G := fx.rf
  have hlen : G.length = G.length := rfl
  have hsl : ab_slots G = ab_slots G := rfl
  refine ab_iload_n d_MO_isWord_0 rfl ?_
  refine zz_bipush d_MO_isWord_1 (by decide) ?_
  refine zz_icmp_lt (tgt := 12) d_MO_isWord_3 (by decide) (by omega) (by decide) (fun c1 => ?_) (fun c1 => ?_)
  · refine ab_iload_n d_MO_isWord_12 rfl ?_
    refine zz_bipush d_MO_isWord_13 (by decide) ?_
    refine zz_icmp_lt (tgt := 24) d_MO_isWord_15 (by decide) (by omega) (by decide) (fun c2 => ?_) (fun c2 => absurd c2 (by omega))
    refine ab_iload_n d_MO_isWord_24 rfl ?_
    refine zz_bipush d_MO_isWord_25 (by decide) ?_
    refine zz_icmp_lt (tgt := 36) d_MO_isWord_27 (by decide) (by omega) (by decide) (fun c3 => ?_) (fun c3 => absurd c3 (by omega))
    refine ab_iload_n d_MO_isWord_36 rfl ?_
    refine zz_bipush d_MO_isWord_37 (by decide) ?_
    refine zz_icmp_ne (tgt := 46) d_MO_isWord_39 (by decide) (by omega) (by decide) (fun c4 => ?_) (fun c4 => absurd c4 (by omega))
    refine zz_iconst d_MO_isWord_46 ?_
    refine zz_bret rfl (by decide) d_MO_isWord_47 ?_
    rw [hQ]; exact (Or.inr ⟨rfl, rfl, (by unfold isW; omega)⟩)
  · refine ab_iload_n d_MO_isWord_6 rfl ?_
    refine zz_bipush d_MO_isWord_7 (by decide) ?_
    refine zz_icmp_le (tgt := 42) d_MO_isWord_9 (by decide) (by omega) (by decide) (fun c5 => ?_) (fun c5 => ?_)
    · refine zz_iconst d_MO_isWord_42 ?_
      refine ab_goto (tgt := 47) d_MO_isWord_43 (by decide) ?_
      refine zz_bret rfl (by decide) d_MO_isWord_47 ?_
      rw [hQ]; exact (Or.inl ⟨rfl, rfl, (by unfold isW; omega)⟩)
    · refine ab_iload_n d_MO_isWord_12 rfl ?_
      refine zz_bipush d_MO_isWord_13 (by decide) ?_
      refine zz_icmp_lt (tgt := 24) d_MO_isWord_15 (by decide) (by omega) (by decide) (fun c6 => ?_) (fun c6 => ?_)
      · refine ab_iload_n d_MO_isWord_24 rfl ?_
        refine zz_bipush d_MO_isWord_25 (by decide) ?_
        refine zz_icmp_lt (tgt := 36) d_MO_isWord_27 (by decide) (by omega) (by decide) (fun c7 => ?_) (fun c7 => absurd c7 (by omega))
        refine ab_iload_n d_MO_isWord_36 rfl ?_
        refine zz_bipush d_MO_isWord_37 (by decide) ?_
        refine zz_icmp_ne (tgt := 46) d_MO_isWord_39 (by decide) (by omega) (by decide) (fun c8 => ?_) (fun c8 => absurd c8 (by omega))
        refine zz_iconst d_MO_isWord_46 ?_
        refine zz_bret rfl (by decide) d_MO_isWord_47 ?_
        rw [hQ]; exact (Or.inr ⟨rfl, rfl, (by unfold isW; omega)⟩)
      · refine ab_iload_n d_MO_isWord_18 rfl ?_
        refine zz_bipush d_MO_isWord_19 (by decide) ?_
        refine zz_icmp_le (tgt := 42) d_MO_isWord_21 (by decide) (by omega) (by decide) (fun c9 => ?_) (fun c9 => ?_)
        · refine zz_iconst d_MO_isWord_42 ?_
          refine ab_goto (tgt := 47) d_MO_isWord_43 (by decide) ?_
          refine zz_bret rfl (by decide) d_MO_isWord_47 ?_
          rw [hQ]; exact (Or.inl ⟨rfl, rfl, (by unfold isW; omega)⟩)
        · refine ab_iload_n d_MO_isWord_24 rfl ?_
          refine zz_bipush d_MO_isWord_25 (by decide) ?_
          refine zz_icmp_lt (tgt := 36) d_MO_isWord_27 (by decide) (by omega) (by decide) (fun c10 => ?_) (fun c10 => ?_)
          · refine ab_iload_n d_MO_isWord_36 rfl ?_
            refine zz_bipush d_MO_isWord_37 (by decide) ?_
            refine zz_icmp_ne (tgt := 46) d_MO_isWord_39 (by decide) (by omega) (by decide) (fun c11 => ?_) (fun c11 => ?_)
            · refine zz_iconst d_MO_isWord_46 ?_
              refine zz_bret rfl (by decide) d_MO_isWord_47 ?_
              rw [hQ]; exact (Or.inr ⟨rfl, rfl, (by unfold isW; omega)⟩)
            · refine zz_iconst d_MO_isWord_42 ?_
              refine ab_goto (tgt := 47) d_MO_isWord_43 (by decide) ?_
              refine zz_bret rfl (by decide) d_MO_isWord_47 ?_
              rw [hQ]; exact (Or.inl ⟨rfl, rfl, (by unfold isW; omega)⟩)
          · refine ab_iload_n d_MO_isWord_30 rfl ?_
            refine zz_bipush d_MO_isWord_31 (by decide) ?_
            refine zz_icmp_le (tgt := 42) d_MO_isWord_33 (by decide) (by omega) (by decide) (fun c12 => ?_) (fun c12 => ?_)
            · refine zz_iconst d_MO_isWord_42 ?_
              refine ab_goto (tgt := 47) d_MO_isWord_43 (by decide) ?_
              refine zz_bret rfl (by decide) d_MO_isWord_47 ?_
              rw [hQ]; exact (Or.inl ⟨rfl, rfl, (by unfold isW; omega)⟩)
            · refine ab_iload_n d_MO_isWord_36 rfl ?_
              refine zz_bipush d_MO_isWord_37 (by decide) ?_
              refine zz_icmp_ne (tgt := 46) d_MO_isWord_39 (by decide) (by omega) (by decide) (fun c13 => ?_) (fun c13 => absurd c13 (by omega))
              refine zz_iconst d_MO_isWord_46 ?_
              refine zz_bret rfl (by decide) d_MO_isWord_47 ?_
              rw [hQ]; exact (Or.inr ⟨rfl, rfl, (by unfold isW; omega)⟩)
set_option maxRecDepth 100000 in
set_option maxHeartbeats 4000000 in
theorem y_MO_quote_12 {X : ab_X} {d : Nat} {Q : Outcome → ab_G → Prop} {o : Nat → Nat} {G0 : ab_G} {m_thrown : Int} {m_taped : Int} {m_length : Int} {m_wide : Int} {m_gathered : Int} {m_sets : Int} {m_ranges : Int} {m_nodes : Int} {m_at : Int} {m_flags : Int} {m_fault : Int} {m_place : Int} {m_numbered : Int} {m_depth : Int} {m_value : Int} {m_isNot : Int} {m_least0 : Int} {m_most0 : Int} {m_slot : Int} {m_work : Int} {m_got : Int} {m_rowMany : Int} {m_charAt : Int} {m_charWide : Int} {m_trail : Int} {m_isMatch : Int} {m_matchGroups : Int} {m_allFrom : Int} {m_allBefore : Int} {m_founds : Int} {m_pieces : Int} {m_writtenMany : Int} {m_templateWide : Int} {m_tooMuch : Int} {A_tape : Int → Int} (n18 : ab_n0 = 18) (jtp : rgs A_tape 2000 0 255) (cta : 0 ≤ m_taped ∧ m_taped ≤ 2000) (hd : 1 ≤ d) : ∀ (mz : Nat) {G : ab_G} {i_ : Int} {m_out : Int} {A_output : Int → Int}, (cc o G 80 280 (ab_ob 12 (mof m_thrown m_taped m_length m_out m_wide m_gathered m_sets m_ranges m_nodes m_at m_flags m_fault m_place m_numbered m_depth m_value m_isNot m_least0 m_most0 m_slot m_work m_got m_rowMany m_charAt m_charWide m_trail m_isMatch m_matchGroups m_allFrom m_allBefore m_founds m_pieces m_writtenMany m_templateWide m_tooMuch))) → (cc o G 86 286 (za 6000 A_output)) → (cc o G 84 284 (za 2000 A_tape)) → (0 ≤ i_ ∧ i_ ≤ m_taped ∧ 0 ≤ m_out ∧ m_out ≤ 2 * i_) → (fx o o [280, 286] G0 G) → (G.length = G0.length) → (ab_slots G = ab_slots G0) → (Int.toNat (m_taped - i_) < mz) → (∀ (G2 : ab_G) (o_ : Int) (B_output : Int → Int), (cc o G2 80 280 (ab_ob 12 (mof m_thrown m_taped m_length o_ m_wide m_gathered m_sets m_ranges m_nodes m_at m_flags m_fault m_place m_numbered m_depth m_value m_isNot m_least0 m_most0 m_slot m_work m_got m_rowMany m_charAt m_charWide m_trail m_isMatch m_matchGroups m_allFrom m_allBefore m_founds m_pieces m_writtenMany m_templateWide m_tooMuch))) → (cc o G2 86 286 (za 6000 B_output)) → (0 ≤ o_ ∧ o_ ≤ 4000) → (fx o o [280, 286] G0 G2) → (G2.length = G0.length) → (ab_slots G2 = ab_slots G0) → ab_W X (ab_pl y_MO_quote b_MO_quote 3 (some (.int))) d G2 105 [some (vR 80), none, none] [] Q) → ab_W X (ab_pl y_MO_quote b_MO_quote 3 (some (.int))) d G 12 [some (vR 80), some (vz i_), none] [] Q := by
  intro mz
  induction mz with
  | zero => intro G i_ m_out A_output h80 h86 h84 ci hfr hlen hsl hm hk0; exact absurd hm (Nat.not_lt_zero _)
  | succ mz ih =>
    intro G i_ m_out A_output h80 h86 h84 ci hfr hlen hsl hm hk0
    refine ab_iload_n d_MO_quote_12 rfl ?_
    refine ab_aload_n d_MO_quote_13 rfl ?_
    refine ab_getf (fs := mof m_thrown m_taped m_length m_out m_wide m_gathered m_sets m_ranges m_nodes m_at m_flags m_fault m_place m_numbered m_depth m_value m_isNot m_least0 m_most0 m_slot m_work m_got m_rowMany m_charAt m_charWide m_trail m_isMatch m_matchGroups m_allFrom m_allBefore m_founds m_pieces m_writtenMany m_templateWide m_tooMuch) f_MO_223 d_MO_quote_14 h80.2.2 rfl ?_
    refine zz_icmp_ge (tgt := 105) d_MO_quote_17 (by decide) (by omega) (by omega) (fun c1 => ?_) (fun c1 => ?_)
    · refine ab_less (L' := [some (vR 80), none, none]) (fun i v h => by rcases i with _ | _ | _ | i <;> first | exact h | (simp at h)) ?_
      exact hk0 _ _ _ h80 h86 (by omega) hfr hlen hsl
    · have hv_ := jtp i_ (by omega) (by omega)
      refine ab_aload_n d_MO_quote_20 rfl ?_
      refine ab_getf (fs := mof m_thrown m_taped m_length m_out m_wide m_gathered m_sets m_ranges m_nodes m_at m_flags m_fault m_place m_numbered m_depth m_value m_isNot m_least0 m_most0 m_slot m_work m_got m_rowMany m_charAt m_charWide m_trail m_isMatch m_matchGroups m_allFrom m_allBefore m_founds m_pieces m_writtenMany m_templateWide m_tooMuch) f_MO_19 d_MO_quote_21 h80.2.2 rfl ?_
      refine ab_iload_n d_MO_quote_24 rfl ?_
      refine zz_iald d_MO_quote_25 h84 (by omega) ?_
      refine zz_bipush d_MO_quote_26 (by decide) ?_
      refine zz_icmp_gt (tgt := 43) d_MO_quote_28 (by decide) (by omega) (by decide) (fun c2 => ?_) (fun c2 => ?_)
      · refine zz_iconst d_MO_quote_43 ?_
        refine ab_goto (tgt := 48) d_MO_quote_44 (by decide) ?_
        refine ab_istore_n d_MO_quote_48 (Nat.le_of_ble_eq_true rfl) (Nat.le_of_ble_eq_true rfl) rfl ?_
        change ab_W _ _ _ G 49 [some (vR 80), some (vz i_), some (vz 1)] [] _
        refine ab_iload_n d_MO_quote_49 rfl ?_
        refine zz_if_ne (tgt := 74) d_MO_quote_50 (by decide) (by decide) (fun c3 => ?_) (fun c3 => absurd c3 (by decide))
        refine ab_aload_n d_MO_quote_74 rfl ?_
        refine ab_getf (fs := mof m_thrown m_taped m_length m_out m_wide m_gathered m_sets m_ranges m_nodes m_at m_flags m_fault m_place m_numbered m_depth m_value m_isNot m_least0 m_most0 m_slot m_work m_got m_rowMany m_charAt m_charWide m_trail m_isMatch m_matchGroups m_allFrom m_allBefore m_founds m_pieces m_writtenMany m_templateWide m_tooMuch) f_MO_25 d_MO_quote_75 h80.2.2 rfl ?_
        refine ab_aload_n d_MO_quote_78 rfl ?_
        refine ab_getf (fs := mof m_thrown m_taped m_length m_out m_wide m_gathered m_sets m_ranges m_nodes m_at m_flags m_fault m_place m_numbered m_depth m_value m_isNot m_least0 m_most0 m_slot m_work m_got m_rowMany m_charAt m_charWide m_trail m_isMatch m_matchGroups m_allFrom m_allBefore m_founds m_pieces m_writtenMany m_templateWide m_tooMuch) f_MO_618 d_MO_quote_79 h80.2.2 rfl ?_
        refine ab_aload_n d_MO_quote_82 rfl ?_
        refine ab_getf (fs := mof m_thrown m_taped m_length m_out m_wide m_gathered m_sets m_ranges m_nodes m_at m_flags m_fault m_place m_numbered m_depth m_value m_isNot m_least0 m_most0 m_slot m_work m_got m_rowMany m_charAt m_charWide m_trail m_isMatch m_matchGroups m_allFrom m_allBefore m_founds m_pieces m_writtenMany m_templateWide m_tooMuch) f_MO_19 d_MO_quote_83 h80.2.2 rfl ?_
        refine ab_iload_n d_MO_quote_86 rfl ?_
        refine zz_iald d_MO_quote_87 h84 (by omega) ?_
        refine zz_iast d_MO_quote_88 h86 (by omega) (h86.2.1 (by decide)) ?_
        obtain ⟨G4, eG4⟩ : ∃ z : ab_G, z = List.set G 86 (za 6000 (zu A_output m_out (A_tape i_))) := ⟨_, rfl⟩
        have h80 := h80.keep h86 eG4 (by decide)
        have h84 := h84.keep h86 eG4 (by decide)
        have hlen := (z_len eG4).trans hlen
        have hsl := (z_sl h86 eG4 rfl).trans hsl
        have hfr := hfr.wr h86 eG4 (by decide)
        have h86 := h86.kept eG4
        change ab_W _ _ _ (List.set G 86 (za 6000 (zu A_output m_out (A_tape i_)))) 89 [some (vR 80), some (vz i_), some (vz 1)] [] _
        rw [← eG4]
        refine ab_aload_n d_MO_quote_89 rfl ?_
        refine ab_dup d_MO_quote_90 rfl ?_
        refine ab_getf (fs := mof m_thrown m_taped m_length m_out m_wide m_gathered m_sets m_ranges m_nodes m_at m_flags m_fault m_place m_numbered m_depth m_value m_isNot m_least0 m_most0 m_slot m_work m_got m_rowMany m_charAt m_charWide m_trail m_isMatch m_matchGroups m_allFrom m_allBefore m_founds m_pieces m_writtenMany m_templateWide m_tooMuch) f_MO_618 d_MO_quote_91 h80.2.2 rfl ?_
        refine zz_iconst d_MO_quote_94 ?_
        refine zz_iadd d_MO_quote_95 ?_
        refine ab_putf (fs := mof m_thrown m_taped m_length m_out m_wide m_gathered m_sets m_ranges m_nodes m_at m_flags m_fault m_place m_numbered m_depth m_value m_isNot m_least0 m_most0 m_slot m_work m_got m_rowMany m_charAt m_charWide m_trail m_isMatch m_matchGroups m_allFrom m_allBefore m_founds m_pieces m_writtenMany m_templateWide m_tooMuch) f_MO_618 (Or.inl rfl) d_MO_quote_96 h80.2.2 (Nat.le_of_ble_eq_true rfl) (fun _ => ⟨rfl, rfl⟩) (h80.2.1 (by decide)) ?_
        obtain ⟨G5, eG5⟩ : ∃ z : ab_G, z = List.set G4 80 (ab_ob 12 (mof m_thrown m_taped m_length (m_out + 1) m_wide m_gathered m_sets m_ranges m_nodes m_at m_flags m_fault m_place m_numbered m_depth m_value m_isNot m_least0 m_most0 m_slot m_work m_got m_rowMany m_charAt m_charWide m_trail m_isMatch m_matchGroups m_allFrom m_allBefore m_founds m_pieces m_writtenMany m_templateWide m_tooMuch)) := ⟨_, rfl⟩
        have h86 := h86.keep h80 eG5 (by decide)
        have h84 := h84.keep h80 eG5 (by decide)
        have hlen := (z_len eG5).trans hlen
        have hsl := (z_sl h80 eG5 rfl).trans hsl
        have hfr := hfr.wr h80 eG5 (by decide)
        have h80 := h80.kept eG5
        change ab_W _ _ _ (List.set G4 80 (ab_ob 12 (mof m_thrown m_taped m_length (m_out + 1) m_wide m_gathered m_sets m_ranges m_nodes m_at m_flags m_fault m_place m_numbered m_depth m_value m_isNot m_least0 m_most0 m_slot m_work m_got m_rowMany m_charAt m_charWide m_trail m_isMatch m_matchGroups m_allFrom m_allBefore m_founds m_pieces m_writtenMany m_templateWide m_tooMuch))) 99 [some (vR 80), some (vz i_), some (vz 1)] [] _
        rw [← eG5]
        refine zz_iinc d_MO_quote_99 rfl (Nat.le_of_ble_eq_true rfl) (Nat.le_of_ble_eq_true rfl) rfl ?_
        change ab_W _ _ _ G5 102 [some (vR 80), some (vz (i_ + 1)), some (vz 1)] [] _
        refine ab_goto (tgt := 12) d_MO_quote_102 (by decide) ?_
        refine ab_less (L' := [some (vR 80), some (vz (i_ + 1)), none]) (fun i v h => by rcases i with _ | _ | _ | i <;> first | exact h | (simp at h)) ?_
        exact ih (i_ := (i_ + 1)) (m_out := (m_out + 1)) (A_output := (zu A_output m_out (A_tape i_))) h80 h86 h84 (by omega) hfr hlen hsl (by omega) hk0
      · refine ab_aload_n d_MO_quote_31 rfl ?_
        refine ab_getf (fs := mof m_thrown m_taped m_length m_out m_wide m_gathered m_sets m_ranges m_nodes m_at m_flags m_fault m_place m_numbered m_depth m_value m_isNot m_least0 m_most0 m_slot m_work m_got m_rowMany m_charAt m_charWide m_trail m_isMatch m_matchGroups m_allFrom m_allBefore m_founds m_pieces m_writtenMany m_templateWide m_tooMuch) f_MO_19 d_MO_quote_32 h80.2.2 rfl ?_
        refine ab_iload_n d_MO_quote_35 rfl ?_
        refine zz_iald d_MO_quote_36 h84 (by omega) ?_
        refine ab_callS (d' := d - 1) (as := [vz (A_tape i_)]) (st := []) (z_MO_isWord (o := o) (x := (A_tape i_)) (by omega)) (fun oc G2 h => by rcases h with ⟨h, _⟩ | ⟨h, _⟩ <;> exact ⟨_, h⟩) (by omega) m_MO_isWord ml_MO_326 st_MO_isWord (Nat.le_of_ble_eq_true rfl) d_MO_quote_37 rfl ?_
        intro v G6 hq
        rcases hq with ⟨hv, hGe, hq7⟩ | ⟨hv, hGe, hq8⟩
        · cases hv
          rw [hGe]
          change ab_W _ _ _ G 40 [some (vR 80), some (vz i_), none] [vz 1] _
          refine zz_if_eq (tgt := 47) d_MO_quote_40 (by decide) (by decide) (fun c9 => absurd c9 (by decide)) (fun c9 => ?_)
          refine zz_iconst d_MO_quote_43 ?_
          refine ab_goto (tgt := 48) d_MO_quote_44 (by decide) ?_
          refine ab_istore_n d_MO_quote_48 (Nat.le_of_ble_eq_true rfl) (Nat.le_of_ble_eq_true rfl) rfl ?_
          change ab_W _ _ _ G 49 [some (vR 80), some (vz i_), some (vz 1)] [] _
          refine ab_iload_n d_MO_quote_49 rfl ?_
          refine zz_if_ne (tgt := 74) d_MO_quote_50 (by decide) (by decide) (fun c10 => ?_) (fun c10 => absurd c10 (by decide))
          refine ab_aload_n d_MO_quote_74 rfl ?_
          refine ab_getf (fs := mof m_thrown m_taped m_length m_out m_wide m_gathered m_sets m_ranges m_nodes m_at m_flags m_fault m_place m_numbered m_depth m_value m_isNot m_least0 m_most0 m_slot m_work m_got m_rowMany m_charAt m_charWide m_trail m_isMatch m_matchGroups m_allFrom m_allBefore m_founds m_pieces m_writtenMany m_templateWide m_tooMuch) f_MO_25 d_MO_quote_75 h80.2.2 rfl ?_
          refine ab_aload_n d_MO_quote_78 rfl ?_
          refine ab_getf (fs := mof m_thrown m_taped m_length m_out m_wide m_gathered m_sets m_ranges m_nodes m_at m_flags m_fault m_place m_numbered m_depth m_value m_isNot m_least0 m_most0 m_slot m_work m_got m_rowMany m_charAt m_charWide m_trail m_isMatch m_matchGroups m_allFrom m_allBefore m_founds m_pieces m_writtenMany m_templateWide m_tooMuch) f_MO_618 d_MO_quote_79 h80.2.2 rfl ?_
          refine ab_aload_n d_MO_quote_82 rfl ?_
          refine ab_getf (fs := mof m_thrown m_taped m_length m_out m_wide m_gathered m_sets m_ranges m_nodes m_at m_flags m_fault m_place m_numbered m_depth m_value m_isNot m_least0 m_most0 m_slot m_work m_got m_rowMany m_charAt m_charWide m_trail m_isMatch m_matchGroups m_allFrom m_allBefore m_founds m_pieces m_writtenMany m_templateWide m_tooMuch) f_MO_19 d_MO_quote_83 h80.2.2 rfl ?_
          refine ab_iload_n d_MO_quote_86 rfl ?_
          refine zz_iald d_MO_quote_87 h84 (by omega) ?_
          refine zz_iast d_MO_quote_88 h86 (by omega) (h86.2.1 (by decide)) ?_
          obtain ⟨G11, eG11⟩ : ∃ z : ab_G, z = List.set G 86 (za 6000 (zu A_output m_out (A_tape i_))) := ⟨_, rfl⟩
          have h80 := h80.keep h86 eG11 (by decide)
          have h84 := h84.keep h86 eG11 (by decide)
          have hlen := (z_len eG11).trans hlen
          have hsl := (z_sl h86 eG11 rfl).trans hsl
          have hfr := hfr.wr h86 eG11 (by decide)
          have h86 := h86.kept eG11
          change ab_W _ _ _ (List.set G 86 (za 6000 (zu A_output m_out (A_tape i_)))) 89 [some (vR 80), some (vz i_), some (vz 1)] [] _
          rw [← eG11]
          refine ab_aload_n d_MO_quote_89 rfl ?_
          refine ab_dup d_MO_quote_90 rfl ?_
          refine ab_getf (fs := mof m_thrown m_taped m_length m_out m_wide m_gathered m_sets m_ranges m_nodes m_at m_flags m_fault m_place m_numbered m_depth m_value m_isNot m_least0 m_most0 m_slot m_work m_got m_rowMany m_charAt m_charWide m_trail m_isMatch m_matchGroups m_allFrom m_allBefore m_founds m_pieces m_writtenMany m_templateWide m_tooMuch) f_MO_618 d_MO_quote_91 h80.2.2 rfl ?_
          refine zz_iconst d_MO_quote_94 ?_
          refine zz_iadd d_MO_quote_95 ?_
          refine ab_putf (fs := mof m_thrown m_taped m_length m_out m_wide m_gathered m_sets m_ranges m_nodes m_at m_flags m_fault m_place m_numbered m_depth m_value m_isNot m_least0 m_most0 m_slot m_work m_got m_rowMany m_charAt m_charWide m_trail m_isMatch m_matchGroups m_allFrom m_allBefore m_founds m_pieces m_writtenMany m_templateWide m_tooMuch) f_MO_618 (Or.inl rfl) d_MO_quote_96 h80.2.2 (Nat.le_of_ble_eq_true rfl) (fun _ => ⟨rfl, rfl⟩) (h80.2.1 (by decide)) ?_
          obtain ⟨G12, eG12⟩ : ∃ z : ab_G, z = List.set G11 80 (ab_ob 12 (mof m_thrown m_taped m_length (m_out + 1) m_wide m_gathered m_sets m_ranges m_nodes m_at m_flags m_fault m_place m_numbered m_depth m_value m_isNot m_least0 m_most0 m_slot m_work m_got m_rowMany m_charAt m_charWide m_trail m_isMatch m_matchGroups m_allFrom m_allBefore m_founds m_pieces m_writtenMany m_templateWide m_tooMuch)) := ⟨_, rfl⟩
          have h86 := h86.keep h80 eG12 (by decide)
          have h84 := h84.keep h80 eG12 (by decide)
          have hlen := (z_len eG12).trans hlen
          have hsl := (z_sl h80 eG12 rfl).trans hsl
          have hfr := hfr.wr h80 eG12 (by decide)
          have h80 := h80.kept eG12
          change ab_W _ _ _ (List.set G11 80 (ab_ob 12 (mof m_thrown m_taped m_length (m_out + 1) m_wide m_gathered m_sets m_ranges m_nodes m_at m_flags m_fault m_place m_numbered m_depth m_value m_isNot m_least0 m_most0 m_slot m_work m_got m_rowMany m_charAt m_charWide m_trail m_isMatch m_matchGroups m_allFrom m_allBefore m_founds m_pieces m_writtenMany m_templateWide m_tooMuch))) 99 [some (vR 80), some (vz i_), some (vz 1)] [] _
          rw [← eG12]
          refine zz_iinc d_MO_quote_99 rfl (Nat.le_of_ble_eq_true rfl) (Nat.le_of_ble_eq_true rfl) rfl ?_
          change ab_W _ _ _ G12 102 [some (vR 80), some (vz (i_ + 1)), some (vz 1)] [] _
          refine ab_goto (tgt := 12) d_MO_quote_102 (by decide) ?_
          refine ab_less (L' := [some (vR 80), some (vz (i_ + 1)), none]) (fun i v h => by rcases i with _ | _ | _ | i <;> first | exact h | (simp at h)) ?_
          exact ih (i_ := (i_ + 1)) (m_out := (m_out + 1)) (A_output := (zu A_output m_out (A_tape i_))) h80 h86 h84 (by omega) hfr hlen hsl (by omega) hk0
        · cases hv
          rw [hGe]
          change ab_W _ _ _ G 40 [some (vR 80), some (vz i_), none] [vz 0] _
          refine zz_if_eq (tgt := 47) d_MO_quote_40 (by decide) (by decide) (fun c13 => ?_) (fun c13 => absurd c13 (by decide))
          refine zz_iconst d_MO_quote_47 ?_
          refine ab_istore_n d_MO_quote_48 (Nat.le_of_ble_eq_true rfl) (Nat.le_of_ble_eq_true rfl) rfl ?_
          change ab_W _ _ _ G 49 [some (vR 80), some (vz i_), some (vz 0)] [] _
          refine ab_iload_n d_MO_quote_49 rfl ?_
          refine zz_if_ne (tgt := 74) d_MO_quote_50 (by decide) (by decide) (fun c14 => absurd c14 (by decide)) (fun c14 => ?_)
          refine ab_aload_n d_MO_quote_53 rfl ?_
          refine ab_getf (fs := mof m_thrown m_taped m_length m_out m_wide m_gathered m_sets m_ranges m_nodes m_at m_flags m_fault m_place m_numbered m_depth m_value m_isNot m_least0 m_most0 m_slot m_work m_got m_rowMany m_charAt m_charWide m_trail m_isMatch m_matchGroups m_allFrom m_allBefore m_founds m_pieces m_writtenMany m_templateWide m_tooMuch) f_MO_25 d_MO_quote_54 h80.2.2 rfl ?_
          refine ab_aload_n d_MO_quote_57 rfl ?_
          refine ab_getf (fs := mof m_thrown m_taped m_length m_out m_wide m_gathered m_sets m_ranges m_nodes m_at m_flags m_fault m_place m_numbered m_depth m_value m_isNot m_least0 m_most0 m_slot m_work m_got m_rowMany m_charAt m_charWide m_trail m_isMatch m_matchGroups m_allFrom m_allBefore m_founds m_pieces m_writtenMany m_templateWide m_tooMuch) f_MO_618 d_MO_quote_58 h80.2.2 rfl ?_
          refine zz_bipush d_MO_quote_61 (by decide) ?_
          refine zz_iast d_MO_quote_63 h86 (by omega) (h86.2.1 (by decide)) ?_
          obtain ⟨G15, eG15⟩ : ∃ z : ab_G, z = List.set G 86 (za 6000 (zu A_output m_out 92)) := ⟨_, rfl⟩
          have h80 := h80.keep h86 eG15 (by decide)
          have h84 := h84.keep h86 eG15 (by decide)
          have hlen := (z_len eG15).trans hlen
          have hsl := (z_sl h86 eG15 rfl).trans hsl
          have hfr := hfr.wr h86 eG15 (by decide)
          have h86 := h86.kept eG15
          change ab_W _ _ _ (List.set G 86 (za 6000 (zu A_output m_out 92))) 64 [some (vR 80), some (vz i_), some (vz 0)] [] _
          rw [← eG15]
          refine ab_aload_n d_MO_quote_64 rfl ?_
          refine ab_dup d_MO_quote_65 rfl ?_
          refine ab_getf (fs := mof m_thrown m_taped m_length m_out m_wide m_gathered m_sets m_ranges m_nodes m_at m_flags m_fault m_place m_numbered m_depth m_value m_isNot m_least0 m_most0 m_slot m_work m_got m_rowMany m_charAt m_charWide m_trail m_isMatch m_matchGroups m_allFrom m_allBefore m_founds m_pieces m_writtenMany m_templateWide m_tooMuch) f_MO_618 d_MO_quote_66 h80.2.2 rfl ?_
          refine zz_iconst d_MO_quote_69 ?_
          refine zz_iadd d_MO_quote_70 ?_
          refine ab_putf (fs := mof m_thrown m_taped m_length m_out m_wide m_gathered m_sets m_ranges m_nodes m_at m_flags m_fault m_place m_numbered m_depth m_value m_isNot m_least0 m_most0 m_slot m_work m_got m_rowMany m_charAt m_charWide m_trail m_isMatch m_matchGroups m_allFrom m_allBefore m_founds m_pieces m_writtenMany m_templateWide m_tooMuch) f_MO_618 (Or.inl rfl) d_MO_quote_71 h80.2.2 (Nat.le_of_ble_eq_true rfl) (fun _ => ⟨rfl, rfl⟩) (h80.2.1 (by decide)) ?_
          obtain ⟨G16, eG16⟩ : ∃ z : ab_G, z = List.set G15 80 (ab_ob 12 (mof m_thrown m_taped m_length (m_out + 1) m_wide m_gathered m_sets m_ranges m_nodes m_at m_flags m_fault m_place m_numbered m_depth m_value m_isNot m_least0 m_most0 m_slot m_work m_got m_rowMany m_charAt m_charWide m_trail m_isMatch m_matchGroups m_allFrom m_allBefore m_founds m_pieces m_writtenMany m_templateWide m_tooMuch)) := ⟨_, rfl⟩
          have h86 := h86.keep h80 eG16 (by decide)
          have h84 := h84.keep h80 eG16 (by decide)
          have hlen := (z_len eG16).trans hlen
          have hsl := (z_sl h80 eG16 rfl).trans hsl
          have hfr := hfr.wr h80 eG16 (by decide)
          have h80 := h80.kept eG16
          change ab_W _ _ _ (List.set G15 80 (ab_ob 12 (mof m_thrown m_taped m_length (m_out + 1) m_wide m_gathered m_sets m_ranges m_nodes m_at m_flags m_fault m_place m_numbered m_depth m_value m_isNot m_least0 m_most0 m_slot m_work m_got m_rowMany m_charAt m_charWide m_trail m_isMatch m_matchGroups m_allFrom m_allBefore m_founds m_pieces m_writtenMany m_templateWide m_tooMuch))) 74 [some (vR 80), some (vz i_), some (vz 0)] [] _
          rw [← eG16]
          refine ab_aload_n d_MO_quote_74 rfl ?_
          refine ab_getf (fs := mof m_thrown m_taped m_length (m_out + 1) m_wide m_gathered m_sets m_ranges m_nodes m_at m_flags m_fault m_place m_numbered m_depth m_value m_isNot m_least0 m_most0 m_slot m_work m_got m_rowMany m_charAt m_charWide m_trail m_isMatch m_matchGroups m_allFrom m_allBefore m_founds m_pieces m_writtenMany m_templateWide m_tooMuch) f_MO_25 d_MO_quote_75 h80.2.2 rfl ?_
          refine ab_aload_n d_MO_quote_78 rfl ?_
          refine ab_getf (fs := mof m_thrown m_taped m_length (m_out + 1) m_wide m_gathered m_sets m_ranges m_nodes m_at m_flags m_fault m_place m_numbered m_depth m_value m_isNot m_least0 m_most0 m_slot m_work m_got m_rowMany m_charAt m_charWide m_trail m_isMatch m_matchGroups m_allFrom m_allBefore m_founds m_pieces m_writtenMany m_templateWide m_tooMuch) f_MO_618 d_MO_quote_79 h80.2.2 rfl ?_
          refine ab_aload_n d_MO_quote_82 rfl ?_
          refine ab_getf (fs := mof m_thrown m_taped m_length (m_out + 1) m_wide m_gathered m_sets m_ranges m_nodes m_at m_flags m_fault m_place m_numbered m_depth m_value m_isNot m_least0 m_most0 m_slot m_work m_got m_rowMany m_charAt m_charWide m_trail m_isMatch m_matchGroups m_allFrom m_allBefore m_founds m_pieces m_writtenMany m_templateWide m_tooMuch) f_MO_19 d_MO_quote_83 h80.2.2 rfl ?_
          refine ab_iload_n d_MO_quote_86 rfl ?_
          refine zz_iald d_MO_quote_87 h84 (by omega) ?_
          refine zz_iast d_MO_quote_88 h86 (by omega) (h86.2.1 (by decide)) ?_
          obtain ⟨G17, eG17⟩ : ∃ z : ab_G, z = List.set G16 86 (za 6000 (zu (zu A_output m_out 92) (m_out + 1) (A_tape i_))) := ⟨_, rfl⟩
          have h80 := h80.keep h86 eG17 (by decide)
          have h84 := h84.keep h86 eG17 (by decide)
          have hlen := (z_len eG17).trans hlen
          have hsl := (z_sl h86 eG17 rfl).trans hsl
          have hfr := hfr.wr h86 eG17 (by decide)
          have h86 := h86.kept eG17
          change ab_W _ _ _ (List.set G16 86 (za 6000 (zu (zu A_output m_out 92) (m_out + 1) (A_tape i_)))) 89 [some (vR 80), some (vz i_), some (vz 0)] [] _
          rw [← eG17]
          refine ab_aload_n d_MO_quote_89 rfl ?_
          refine ab_dup d_MO_quote_90 rfl ?_
          refine ab_getf (fs := mof m_thrown m_taped m_length (m_out + 1) m_wide m_gathered m_sets m_ranges m_nodes m_at m_flags m_fault m_place m_numbered m_depth m_value m_isNot m_least0 m_most0 m_slot m_work m_got m_rowMany m_charAt m_charWide m_trail m_isMatch m_matchGroups m_allFrom m_allBefore m_founds m_pieces m_writtenMany m_templateWide m_tooMuch) f_MO_618 d_MO_quote_91 h80.2.2 rfl ?_
          refine zz_iconst d_MO_quote_94 ?_
          refine zz_iadd d_MO_quote_95 ?_
          refine ab_putf (fs := mof m_thrown m_taped m_length (m_out + 1) m_wide m_gathered m_sets m_ranges m_nodes m_at m_flags m_fault m_place m_numbered m_depth m_value m_isNot m_least0 m_most0 m_slot m_work m_got m_rowMany m_charAt m_charWide m_trail m_isMatch m_matchGroups m_allFrom m_allBefore m_founds m_pieces m_writtenMany m_templateWide m_tooMuch) f_MO_618 (Or.inl rfl) d_MO_quote_96 h80.2.2 (Nat.le_of_ble_eq_true rfl) (fun _ => ⟨rfl, rfl⟩) (h80.2.1 (by decide)) ?_
          obtain ⟨G18, eG18⟩ : ∃ z : ab_G, z = List.set G17 80 (ab_ob 12 (mof m_thrown m_taped m_length ((m_out + 1) + 1) m_wide m_gathered m_sets m_ranges m_nodes m_at m_flags m_fault m_place m_numbered m_depth m_value m_isNot m_least0 m_most0 m_slot m_work m_got m_rowMany m_charAt m_charWide m_trail m_isMatch m_matchGroups m_allFrom m_allBefore m_founds m_pieces m_writtenMany m_templateWide m_tooMuch)) := ⟨_, rfl⟩
          have h86 := h86.keep h80 eG18 (by decide)
          have h84 := h84.keep h80 eG18 (by decide)
          have hlen := (z_len eG18).trans hlen
          have hsl := (z_sl h80 eG18 rfl).trans hsl
          have hfr := hfr.wr h80 eG18 (by decide)
          have h80 := h80.kept eG18
          change ab_W _ _ _ (List.set G17 80 (ab_ob 12 (mof m_thrown m_taped m_length ((m_out + 1) + 1) m_wide m_gathered m_sets m_ranges m_nodes m_at m_flags m_fault m_place m_numbered m_depth m_value m_isNot m_least0 m_most0 m_slot m_work m_got m_rowMany m_charAt m_charWide m_trail m_isMatch m_matchGroups m_allFrom m_allBefore m_founds m_pieces m_writtenMany m_templateWide m_tooMuch))) 99 [some (vR 80), some (vz i_), some (vz 0)] [] _
          rw [← eG18]
          refine zz_iinc d_MO_quote_99 rfl (Nat.le_of_ble_eq_true rfl) (Nat.le_of_ble_eq_true rfl) rfl ?_
          change ab_W _ _ _ G18 102 [some (vR 80), some (vz (i_ + 1)), some (vz 0)] [] _
          refine ab_goto (tgt := 12) d_MO_quote_102 (by decide) ?_
          refine ab_less (L' := [some (vR 80), some (vz (i_ + 1)), none]) (fun i v h => by rcases i with _ | _ | _ | i <;> first | exact h | (simp at h)) ?_
          exact ih (i_ := (i_ + 1)) (m_out := ((m_out + 1) + 1)) (A_output := (zu (zu A_output m_out 92) (m_out + 1) (A_tape i_))) h80 h86 h84 (by omega) hfr hlen hsl (by omega) hk0
set_option maxRecDepth 100000 in
set_option maxHeartbeats 4000000 in
theorem z_MO_quote {X : ab_X} {d : Nat} {o : Nat → Nat} {G : ab_G} {m_thrown : Int} {m_taped : Int} {m_length : Int} {m_out : Int} {m_wide : Int} {m_gathered : Int} {m_sets : Int} {m_ranges : Int} {m_nodes : Int} {m_at : Int} {m_flags : Int} {m_fault : Int} {m_place : Int} {m_numbered : Int} {m_depth : Int} {m_value : Int} {m_isNot : Int} {m_least0 : Int} {m_most0 : Int} {m_slot : Int} {m_work : Int} {m_got : Int} {m_rowMany : Int} {m_charAt : Int} {m_charWide : Int} {m_trail : Int} {m_isMatch : Int} {m_matchGroups : Int} {m_allFrom : Int} {m_allBefore : Int} {m_founds : Int} {m_pieces : Int} {m_writtenMany : Int} {m_templateWide : Int} {m_tooMuch : Int} {A_output : Int → Int} {A_tape : Int → Int} (h80 : cc o G 80 280 (ab_ob 12 (mof m_thrown m_taped m_length m_out m_wide m_gathered m_sets m_ranges m_nodes m_at m_flags m_fault m_place m_numbered m_depth m_value m_isNot m_least0 m_most0 m_slot m_work m_got m_rowMany m_charAt m_charWide m_trail m_isMatch m_matchGroups m_allFrom m_allBefore m_founds m_pieces m_writtenMany m_templateWide m_tooMuch))) (h86 : cc o G 86 286 (za 6000 A_output)) (h84 : cc o G 84 284 (za 2000 A_tape)) (n18 : ab_n0 = 18) (jtp : rgs A_tape 2000 0 255) (cta : 0 ≤ m_taped ∧ m_taped ≤ 2000) (hd : 2 ≤ d) : ab_F X d y_MO_quote (.code y_MO_quote b_MO_quote 3 (some (.int))) [vR 80] G (fun oc G2 => ∃ v : Int, ∃ B_output : Int → Int, oc = .returned (some (vz v)) ∧ fx o o [280, 286] G G2 ∧ G2.length = G.length ∧ ab_slots G2 = ab_slots G ∧ cc o G2 80 280 (ab_ob 12 (mof 0 0 m_length v m_wide m_gathered m_sets m_ranges m_nodes m_at m_flags m_fault m_place m_numbered m_depth m_value m_isNot m_least0 m_most0 m_slot m_work m_got m_rowMany m_charAt m_charWide m_trail m_isMatch m_matchGroups m_allFrom m_allBefore m_founds m_pieces m_writtenMany m_templateWide m_tooMuch)) ∧ cc o G2 86 286 (za 6000 B_output) ∧ (0 ≤ v ∧ v ≤ 4000)) := by
  refine ab_F_of (by decide +kernel) (Nat.le_of_ble_eq_true rfl) ?_
  obtain ⟨Q, hQ⟩ : ∃ z : Outcome → ab_G → Prop, z = (fun oc G2 => ∃ v : Int, ∃ B_output : Int → Int, oc = .returned (some (vz v)) ∧ fx o o [280, 286] G G2 ∧ G2.length = G.length ∧ ab_slots G2 = ab_slots G ∧ cc o G2 80 280 (ab_ob 12 (mof 0 0 m_length v m_wide m_gathered m_sets m_ranges m_nodes m_at m_flags m_fault m_place m_numbered m_depth m_value m_isNot m_least0 m_most0 m_slot m_work m_got m_rowMany m_charAt m_charWide m_trail m_isMatch m_matchGroups m_allFrom m_allBefore m_founds m_pieces m_writtenMany m_templateWide m_tooMuch)) ∧ cc o G2 86 286 (za 6000 B_output) ∧ (0 ≤ v ∧ v ≤ 4000)) := ⟨_, rfl⟩
  rw [← hQ]
  change ab_W X (ab_pl y_MO_quote b_MO_quote 3 (some (.int))) d G 0 [some (vR 80), none, none] [] Q
  have hfr : fx o o [280, 286] G G := fx.rf
  have hlen : G.length = G.length := rfl
  have hsl : ab_slots G = ab_slots G := rfl
  refine ab_aload_n d_MO_quote_0 rfl ?_
  refine zz_iconst d_MO_quote_1 ?_
  refine ab_putf (fs := mof m_thrown m_taped m_length m_out m_wide m_gathered m_sets m_ranges m_nodes m_at m_flags m_fault m_place m_numbered m_depth m_value m_isNot m_least0 m_most0 m_slot m_work m_got m_rowMany m_charAt m_charWide m_trail m_isMatch m_matchGroups m_allFrom m_allBefore m_founds m_pieces m_writtenMany m_templateWide m_tooMuch) f_MO_220 (Or.inl rfl) d_MO_quote_2 h80.2.2 (Nat.le_of_ble_eq_true rfl) (fun _ => ⟨rfl, rfl⟩) (h80.2.1 (by decide)) ?_
  obtain ⟨G1, eG1⟩ : ∃ z : ab_G, z = List.set G 80 (ab_ob 12 (mof 0 m_taped m_length m_out m_wide m_gathered m_sets m_ranges m_nodes m_at m_flags m_fault m_place m_numbered m_depth m_value m_isNot m_least0 m_most0 m_slot m_work m_got m_rowMany m_charAt m_charWide m_trail m_isMatch m_matchGroups m_allFrom m_allBefore m_founds m_pieces m_writtenMany m_templateWide m_tooMuch)) := ⟨_, rfl⟩
  have h86 := h86.keep h80 eG1 (by decide)
  have h84 := h84.keep h80 eG1 (by decide)
  have hlen := (z_len eG1).trans hlen
  have hsl := (z_sl h80 eG1 rfl).trans hsl
  have hfr := hfr.wr h80 eG1 (by decide)
  have h80 := h80.kept eG1
  change ab_W _ _ _ (List.set G 80 (ab_ob 12 (mof 0 m_taped m_length m_out m_wide m_gathered m_sets m_ranges m_nodes m_at m_flags m_fault m_place m_numbered m_depth m_value m_isNot m_least0 m_most0 m_slot m_work m_got m_rowMany m_charAt m_charWide m_trail m_isMatch m_matchGroups m_allFrom m_allBefore m_founds m_pieces m_writtenMany m_templateWide m_tooMuch))) 5 [some (vR 80), none, none] [] _
  rw [← eG1]
  refine ab_aload_n d_MO_quote_5 rfl ?_
  refine zz_iconst d_MO_quote_6 ?_
  refine ab_putf (fs := mof 0 m_taped m_length m_out m_wide m_gathered m_sets m_ranges m_nodes m_at m_flags m_fault m_place m_numbered m_depth m_value m_isNot m_least0 m_most0 m_slot m_work m_got m_rowMany m_charAt m_charWide m_trail m_isMatch m_matchGroups m_allFrom m_allBefore m_founds m_pieces m_writtenMany m_templateWide m_tooMuch) f_MO_618 (Or.inl rfl) d_MO_quote_7 h80.2.2 (Nat.le_of_ble_eq_true rfl) (fun _ => ⟨rfl, rfl⟩) (h80.2.1 (by decide)) ?_
  obtain ⟨G2, eG2⟩ : ∃ z : ab_G, z = List.set G1 80 (ab_ob 12 (mof 0 m_taped m_length 0 m_wide m_gathered m_sets m_ranges m_nodes m_at m_flags m_fault m_place m_numbered m_depth m_value m_isNot m_least0 m_most0 m_slot m_work m_got m_rowMany m_charAt m_charWide m_trail m_isMatch m_matchGroups m_allFrom m_allBefore m_founds m_pieces m_writtenMany m_templateWide m_tooMuch)) := ⟨_, rfl⟩
  have h86 := h86.keep h80 eG2 (by decide)
  have h84 := h84.keep h80 eG2 (by decide)
  have hlen := (z_len eG2).trans hlen
  have hsl := (z_sl h80 eG2 rfl).trans hsl
  have hfr := hfr.wr h80 eG2 (by decide)
  have h80 := h80.kept eG2
  change ab_W _ _ _ (List.set G1 80 (ab_ob 12 (mof 0 m_taped m_length 0 m_wide m_gathered m_sets m_ranges m_nodes m_at m_flags m_fault m_place m_numbered m_depth m_value m_isNot m_least0 m_most0 m_slot m_work m_got m_rowMany m_charAt m_charWide m_trail m_isMatch m_matchGroups m_allFrom m_allBefore m_founds m_pieces m_writtenMany m_templateWide m_tooMuch))) 10 [some (vR 80), none, none] [] _
  rw [← eG2]
  refine zz_iconst d_MO_quote_10 ?_
  refine ab_istore_n d_MO_quote_11 (Nat.le_of_ble_eq_true rfl) (Nat.le_of_ble_eq_true rfl) rfl ?_
  change ab_W _ _ _ G2 12 [some (vR 80), some (vz 0), none] [] _
  refine y_MO_quote_12 (m_thrown := 0) (m_taped := m_taped) (m_length := m_length) (m_wide := m_wide) (m_gathered := m_gathered) (m_sets := m_sets) (m_ranges := m_ranges) (m_nodes := m_nodes) (m_at := m_at) (m_flags := m_flags) (m_fault := m_fault) (m_place := m_place) (m_numbered := m_numbered) (m_depth := m_depth) (m_value := m_value) (m_isNot := m_isNot) (m_least0 := m_least0) (m_most0 := m_most0) (m_slot := m_slot) (m_work := m_work) (m_got := m_got) (m_rowMany := m_rowMany) (m_charAt := m_charAt) (m_charWide := m_charWide) (m_trail := m_trail) (m_isMatch := m_isMatch) (m_matchGroups := m_matchGroups) (m_allFrom := m_allFrom) (m_allBefore := m_allBefore) (m_founds := m_founds) (m_pieces := m_pieces) (m_writtenMany := m_writtenMany) (m_templateWide := m_templateWide) (m_tooMuch := m_tooMuch) (A_tape := A_tape) (G0 := G2) (i_ := 0) (m_out := 0) (A_output := A_output) (by omega) jtp (by omega) (by omega) (Int.toNat (m_taped - 0) + 1) h80 h86 h84 (by omega) fx.rf rfl rfl (by omega) (fun G3 o_4 B_output5 hN80 hN86 hq6 hfk hlk hsk => ?_)
  · have h84 := hfk.get h84 (by decide)
    have hfr := hfr.tr hfk (by decide)
    have hlen := hlk.trans hlen
    have hsl := hsk.trans hsl
    have h80 := hN80
    have h86 := hN86
    change ab_W _ _ _ G3 105 [some (vR 80), none, none] [] _
    refine ab_aload_n d_MO_quote_105 rfl ?_
    refine zz_iconst d_MO_quote_106 ?_
    refine ab_putf (fs := mof 0 m_taped m_length o_4 m_wide m_gathered m_sets m_ranges m_nodes m_at m_flags m_fault m_place m_numbered m_depth m_value m_isNot m_least0 m_most0 m_slot m_work m_got m_rowMany m_charAt m_charWide m_trail m_isMatch m_matchGroups m_allFrom m_allBefore m_founds m_pieces m_writtenMany m_templateWide m_tooMuch) f_MO_223 (Or.inl rfl) d_MO_quote_107 h80.2.2 (Nat.le_of_ble_eq_true rfl) (fun _ => ⟨rfl, rfl⟩) (h80.2.1 (by decide)) ?_
    obtain ⟨G7, eG7⟩ : ∃ z : ab_G, z = List.set G3 80 (ab_ob 12 (mof 0 0 m_length o_4 m_wide m_gathered m_sets m_ranges m_nodes m_at m_flags m_fault m_place m_numbered m_depth m_value m_isNot m_least0 m_most0 m_slot m_work m_got m_rowMany m_charAt m_charWide m_trail m_isMatch m_matchGroups m_allFrom m_allBefore m_founds m_pieces m_writtenMany m_templateWide m_tooMuch)) := ⟨_, rfl⟩
    have h86 := h86.keep h80 eG7 (by decide)
    have h84 := h84.keep h80 eG7 (by decide)
    have hlen := (z_len eG7).trans hlen
    have hsl := (z_sl h80 eG7 rfl).trans hsl
    have hfr := hfr.wr h80 eG7 (by decide)
    have h80 := h80.kept eG7
    change ab_W _ _ _ (List.set G3 80 (ab_ob 12 (mof 0 0 m_length o_4 m_wide m_gathered m_sets m_ranges m_nodes m_at m_flags m_fault m_place m_numbered m_depth m_value m_isNot m_least0 m_most0 m_slot m_work m_got m_rowMany m_charAt m_charWide m_trail m_isMatch m_matchGroups m_allFrom m_allBefore m_founds m_pieces m_writtenMany m_templateWide m_tooMuch))) 110 [some (vR 80), none, none] [] _
    rw [← eG7]
    refine ab_aload_n d_MO_quote_110 rfl ?_
    refine ab_getf (fs := mof 0 0 m_length o_4 m_wide m_gathered m_sets m_ranges m_nodes m_at m_flags m_fault m_place m_numbered m_depth m_value m_isNot m_least0 m_most0 m_slot m_work m_got m_rowMany m_charAt m_charWide m_trail m_isMatch m_matchGroups m_allFrom m_allBefore m_founds m_pieces m_writtenMany m_templateWide m_tooMuch) f_MO_618 d_MO_quote_111 h80.2.2 rfl ?_
    refine zz_iret rfl d_MO_quote_114 ?_
    rw [hQ]; exact ⟨_, _, rfl, hfr, hlen, hsl, h80, h86, (by omega)⟩
set_option maxRecDepth 100000 in
set_option maxHeartbeats 4000000 in
theorem z_MO_isThere {X : ab_X} {d : Nat} {o : Nat → Nat} {G : ab_G} {m_thrown : Int} {m_taped : Int} {m_length : Int} {m_out : Int} {m_wide : Int} {m_gathered : Int} {m_sets : Int} {m_ranges : Int} {m_nodes : Int} {m_at : Int} {m_flags : Int} {m_fault : Int} {m_place : Int} {m_numbered : Int} {m_depth : Int} {m_value : Int} {m_isNot : Int} {m_least0 : Int} {m_most0 : Int} {m_slot : Int} {m_work : Int} {m_got : Int} {m_rowMany : Int} {m_charAt : Int} {m_charWide : Int} {m_trail : Int} {m_isMatch : Int} {m_matchGroups : Int} {m_allFrom : Int} {m_allBefore : Int} {m_founds : Int} {m_pieces : Int} {m_writtenMany : Int} {m_templateWide : Int} {m_tooMuch : Int} {A_there : Int → Int} {x : Int} (h80 : cc o G 80 280 (ab_ob 12 (mof m_thrown m_taped m_length m_out m_wide m_gathered m_sets m_ranges m_nodes m_at m_flags m_fault m_place m_numbered m_depth m_value m_isNot m_least0 m_most0 m_slot m_work m_got m_rowMany m_charAt m_charWide m_trail m_isMatch m_matchGroups m_allFrom m_allBefore m_founds m_pieces m_writtenMany m_templateWide m_tooMuch))) (h112 : cc o G 112 312 (zb 6 A_there)) (cr : -2147483648 ≤ x ∧ x ≤ 2147483647) (jth : rgs A_there 6 0 1) : ab_F X d y_MO_isThere (.code y_MO_isThere b_MO_isThere 2 (some (.boolean))) [vR 80, vz x] G (fun oc G2 => ∃ v : Int, oc = .returned (some (vz v)) ∧ G2 = G ∧ (0 ≤ v ∧ v ≤ 1) ∧ (v = 1 → 0 ≤ x ∧ x < 6 ∧ A_there x = 1)) := by
  refine ab_F_of (by decide +kernel) (Nat.le_of_ble_eq_true rfl) ?_
  obtain ⟨Q, hQ⟩ : ∃ z : Outcome → ab_G → Prop, z = (fun oc G2 => ∃ v : Int, oc = .returned (some (vz v)) ∧ G2 = G ∧ (0 ≤ v ∧ v ≤ 1) ∧ (v = 1 → 0 ≤ x ∧ x < 6 ∧ A_there x = 1)) := ⟨_, rfl⟩
  rw [← hQ]
  change ab_W X (ab_pl y_MO_isThere b_MO_isThere 2 (some (.boolean))) d G 0 [some (vR 80), some (vz x)] [] Q
  have hfr : fx o o [] G G := fx.rf
  have hlen : G.length = G.length := rfl
  have hsl : ab_slots G = ab_slots G := rfl
  refine ab_iload_n d_MO_isThere_0 rfl ?_
  refine zz_if_lt (tgt := 23) d_MO_isThere_1 (by decide) (by omega) (fun c1 => ?_) (fun c1 => ?_)
  · refine zz_iconst d_MO_isThere_23 ?_
    refine zz_bret rfl (by decide) d_MO_isThere_24 ?_
    rw [hQ]; exact ⟨_, rfl, rfl, (by omega), (by omega)⟩
  · refine ab_iload_n d_MO_isThere_4 rfl ?_
    refine zz_bipush d_MO_isThere_5 (by decide) ?_
    refine zz_icmp_ge (tgt := 23) d_MO_isThere_7 (by decide) (by omega) (by decide) (fun c2 => ?_) (fun c2 => ?_)
    · refine zz_iconst d_MO_isThere_23 ?_
      refine zz_bret rfl (by decide) d_MO_isThere_24 ?_
      rw [hQ]; exact ⟨_, rfl, rfl, (by omega), (by omega)⟩
    · refine ab_aload_n d_MO_isThere_10 rfl ?_
      refine ab_getf (fs := mof m_thrown m_taped m_length m_out m_wide m_gathered m_sets m_ranges m_nodes m_at m_flags m_fault m_place m_numbered m_depth m_value m_isNot m_least0 m_most0 m_slot m_work m_got m_rowMany m_charAt m_charWide m_trail m_isMatch m_matchGroups m_allFrom m_allBefore m_founds m_pieces m_writtenMany m_templateWide m_tooMuch) f_MO_109 d_MO_isThere_11 h80.2.2 rfl ?_
      refine ab_iload_n d_MO_isThere_14 rfl ?_
      refine zz_zald d_MO_isThere_15 h112 (by omega) ?_
      have hq3 := jth x (by omega) (by omega)
      refine zz_if_eq (tgt := 23) d_MO_isThere_16 (by decide) (by omega) (fun c4 => ?_) (fun c4 => ?_)
      · refine zz_iconst d_MO_isThere_23 ?_
        refine zz_bret rfl (by decide) d_MO_isThere_24 ?_
        rw [hQ]; exact ⟨_, rfl, rfl, (by omega), (by omega)⟩
      · refine zz_iconst d_MO_isThere_19 ?_
        refine ab_goto (tgt := 24) d_MO_isThere_20 (by decide) ?_
        refine zz_bret rfl (by decide) d_MO_isThere_24 ?_
        rw [hQ]; exact ⟨_, rfl, rfl, (by omega), (by omega)⟩
set_option maxRecDepth 100000 in
set_option maxHeartbeats 4000000 in
theorem z_MO_about {X : ab_X} {d : Nat} {o : Nat → Nat} {G : ab_G} {m_thrown : Int} {m_taped : Int} {m_length : Int} {m_out : Int} {m_wide : Int} {m_gathered : Int} {m_sets : Int} {m_ranges : Int} {m_nodes : Int} {m_at : Int} {m_flags : Int} {m_fault : Int} {m_place : Int} {m_numbered : Int} {m_depth : Int} {m_value : Int} {m_isNot : Int} {m_least0 : Int} {m_most0 : Int} {m_slot : Int} {m_work : Int} {m_got : Int} {m_rowMany : Int} {m_charAt : Int} {m_charWide : Int} {m_trail : Int} {m_isMatch : Int} {m_matchGroups : Int} {m_allFrom : Int} {m_allBefore : Int} {m_founds : Int} {m_pieces : Int} {m_writtenMany : Int} {m_templateWide : Int} {m_tooMuch : Int} {A_there : Int → Int} {A_groupsOf : Int → Int} {A_sizeOf : Int → Int} {A_flagsOf : Int → Int} {x : Int} {y : Int} (h80 : cc o G 80 280 (ab_ob 12 (mof m_thrown m_taped m_length m_out m_wide m_gathered m_sets m_ranges m_nodes m_at m_flags m_fault m_place m_numbered m_depth m_value m_isNot m_least0 m_most0 m_slot m_work m_got m_rowMany m_charAt m_charWide m_trail m_isMatch m_matchGroups m_allFrom m_allBefore m_founds m_pieces m_writtenMany m_templateWide m_tooMuch))) (h112 : cc o G 112 312 (zb 6 A_there)) (h114 : cc o G 114 314 (za 6 A_groupsOf)) (h115 : cc o G 115 315 (za 6 A_sizeOf)) (h116 : cc o G 116 316 (za 6 A_flagsOf)) (n18 : ab_n0 = 18) (cr : -2147483648 ≤ x ∧ x ≤ 2147483647 ∧ -2147483648 ≤ y ∧ y ≤ 2147483647) (jth : rgs A_there 6 0 1) (hd : 1 ≤ d) : ab_F X d y_MO_about (.code y_MO_about b_MO_about 3 (some (.int))) [vR 80, vz x, vz y] G (fun oc G2 => ∃ v : Int, oc = .returned (some (vz v)) ∧ fx o o [280] G G2 ∧ G2.length = G.length ∧ ab_slots G2 = ab_slots G ∧ cc o G2 80 280 (ab_ob 12 (mof 0 m_taped m_length m_out m_wide m_gathered m_sets m_ranges m_nodes m_at m_flags m_fault m_place m_numbered m_depth m_value m_isNot m_least0 m_most0 m_slot m_work m_got m_rowMany m_charAt m_charWide m_trail m_isMatch m_matchGroups m_allFrom m_allBefore m_founds m_pieces m_writtenMany m_templateWide m_tooMuch))) := by
  refine ab_F_of (by decide +kernel) (Nat.le_of_ble_eq_true rfl) ?_
  obtain ⟨Q, hQ⟩ : ∃ z : Outcome → ab_G → Prop, z = (fun oc G2 => ∃ v : Int, oc = .returned (some (vz v)) ∧ fx o o [280] G G2 ∧ G2.length = G.length ∧ ab_slots G2 = ab_slots G ∧ cc o G2 80 280 (ab_ob 12 (mof 0 m_taped m_length m_out m_wide m_gathered m_sets m_ranges m_nodes m_at m_flags m_fault m_place m_numbered m_depth m_value m_isNot m_least0 m_most0 m_slot m_work m_got m_rowMany m_charAt m_charWide m_trail m_isMatch m_matchGroups m_allFrom m_allBefore m_founds m_pieces m_writtenMany m_templateWide m_tooMuch))) := ⟨_, rfl⟩
  rw [← hQ]
  change ab_W X (ab_pl y_MO_about b_MO_about 3 (some (.int))) d G 0 [some (vR 80), some (vz x), some (vz y)] [] Q
  have hfr : fx o o [280] G G := fx.rf
  have hlen : G.length = G.length := rfl
  have hsl : ab_slots G = ab_slots G := rfl
  refine ab_aload_n d_MO_about_0 rfl ?_
  refine zz_iconst d_MO_about_1 ?_
  refine ab_putf (fs := mof m_thrown m_taped m_length m_out m_wide m_gathered m_sets m_ranges m_nodes m_at m_flags m_fault m_place m_numbered m_depth m_value m_isNot m_least0 m_most0 m_slot m_work m_got m_rowMany m_charAt m_charWide m_trail m_isMatch m_matchGroups m_allFrom m_allBefore m_founds m_pieces m_writtenMany m_templateWide m_tooMuch) f_MO_220 (Or.inl rfl) d_MO_about_2 h80.2.2 (Nat.le_of_ble_eq_true rfl) (fun _ => ⟨rfl, rfl⟩) (h80.2.1 (by decide)) ?_
  obtain ⟨G1, eG1⟩ : ∃ z : ab_G, z = List.set G 80 (ab_ob 12 (mof 0 m_taped m_length m_out m_wide m_gathered m_sets m_ranges m_nodes m_at m_flags m_fault m_place m_numbered m_depth m_value m_isNot m_least0 m_most0 m_slot m_work m_got m_rowMany m_charAt m_charWide m_trail m_isMatch m_matchGroups m_allFrom m_allBefore m_founds m_pieces m_writtenMany m_templateWide m_tooMuch)) := ⟨_, rfl⟩
  have h112 := h112.keep h80 eG1 (by decide)
  have h114 := h114.keep h80 eG1 (by decide)
  have h115 := h115.keep h80 eG1 (by decide)
  have h116 := h116.keep h80 eG1 (by decide)
  have hlen := (z_len eG1).trans hlen
  have hsl := (z_sl h80 eG1 rfl).trans hsl
  have hfr := hfr.wr h80 eG1 (by decide)
  have h80 := h80.kept eG1
  change ab_W _ _ _ (List.set G 80 (ab_ob 12 (mof 0 m_taped m_length m_out m_wide m_gathered m_sets m_ranges m_nodes m_at m_flags m_fault m_place m_numbered m_depth m_value m_isNot m_least0 m_most0 m_slot m_work m_got m_rowMany m_charAt m_charWide m_trail m_isMatch m_matchGroups m_allFrom m_allBefore m_founds m_pieces m_writtenMany m_templateWide m_tooMuch))) 5 [some (vR 80), some (vz x), some (vz y)] [] _
  rw [← eG1]
  refine ab_aload_n d_MO_about_5 rfl ?_
  refine ab_iload_n d_MO_about_6 rfl ?_
  refine ab_callV (d' := d - 1) (as := [vz x]) (st := []) (r := _) (z_MO_isThere (o := o) (m_thrown := 0) (m_taped := m_taped) (m_length := m_length) (m_out := m_out) (m_wide := m_wide) (m_gathered := m_gathered) (m_sets := m_sets) (m_ranges := m_ranges) (m_nodes := m_nodes) (m_at := m_at) (m_flags := m_flags) (m_fault := m_fault) (m_place := m_place) (m_numbered := m_numbered) (m_depth := m_depth) (m_value := m_value) (m_isNot := m_isNot) (m_least0 := m_least0) (m_most0 := m_most0) (m_slot := m_slot) (m_work := m_work) (m_got := m_got) (m_rowMany := m_rowMany) (m_charAt := m_charAt) (m_charWide := m_charWide) (m_trail := m_trail) (m_isMatch := m_isMatch) (m_matchGroups := m_matchGroups) (m_allFrom := m_allFrom) (m_allBefore := m_allBefore) (m_founds := m_founds) (m_pieces := m_pieces) (m_writtenMany := m_writtenMany) (m_templateWide := m_templateWide) (m_tooMuch := m_tooMuch) (A_there := A_there) (x := x) h80 h112 (by omega) jth) (fun oc G2 h => by rcases h with ⟨_, h, _⟩ <;> exact ⟨_, h⟩) (by omega) m_MO_isThere ml_MO_507 im_MO_isThere se_MO_isThere c_MO h80.2.2 (Nat.le_of_ble_eq_true rfl) d_MO_about_7 rfl ?_
  intro v G2 hq
  rcases hq with ⟨v3, hv, hGe, hq4, hq5⟩
  cases hv
  rw [hGe]
  change ab_W _ _ _ G1 10 [some (vR 80), some (vz x), some (vz y)] [vz v3] _
  refine zz_if_ne (tgt := 17) d_MO_about_10 (by decide) (by omega) (fun c6 => ?_) (fun c6 => ?_)
  · refine ab_iload_n d_MO_about_17 rfl ?_
    refine zz_if_ne (tgt := 30) d_MO_about_18 (by decide) (by omega) (fun c7 => ?_) (fun c7 => ?_)
    · refine ab_iload_n d_MO_about_30 rfl ?_
      refine zz_iconst d_MO_about_31 ?_
      refine zz_icmp_ne (tgt := 44) d_MO_about_32 (by decide) (by omega) (by decide) (fun c8 => ?_) (fun c8 => ?_)
      · refine ab_iload_n d_MO_about_44 rfl ?_
        refine zz_iconst d_MO_about_45 ?_
        refine zz_icmp_ne (tgt := 58) d_MO_about_46 (by decide) (by omega) (by decide) (fun c9 => ?_) (fun c9 => ?_)
        · refine zz_iconst d_MO_about_58 ?_
          refine zz_iret rfl d_MO_about_59 ?_
          rw [hQ]; exact ⟨_, rfl, hfr, hlen, hsl, h80⟩
        · refine ab_aload_n d_MO_about_49 rfl ?_
          refine ab_getf (fs := mof 0 m_taped m_length m_out m_wide m_gathered m_sets m_ranges m_nodes m_at m_flags m_fault m_place m_numbered m_depth m_value m_isNot m_least0 m_most0 m_slot m_work m_got m_rowMany m_charAt m_charWide m_trail m_isMatch m_matchGroups m_allFrom m_allBefore m_founds m_pieces m_writtenMany m_templateWide m_tooMuch) f_MO_121 d_MO_about_50 h80.2.2 rfl ?_
          refine ab_iload_n d_MO_about_53 rfl ?_
          refine zz_iald d_MO_about_54 h116 (by omega) ?_
          refine ab_goto (tgt := 59) d_MO_about_55 (by decide) ?_
          refine zz_iret rfl d_MO_about_59 ?_
          rw [hQ]; exact ⟨_, rfl, hfr, hlen, hsl, h80⟩
      · refine ab_aload_n d_MO_about_35 rfl ?_
        refine ab_getf (fs := mof 0 m_taped m_length m_out m_wide m_gathered m_sets m_ranges m_nodes m_at m_flags m_fault m_place m_numbered m_depth m_value m_isNot m_least0 m_most0 m_slot m_work m_got m_rowMany m_charAt m_charWide m_trail m_isMatch m_matchGroups m_allFrom m_allBefore m_founds m_pieces m_writtenMany m_templateWide m_tooMuch) f_MO_118 d_MO_about_36 h80.2.2 rfl ?_
        refine ab_iload_n d_MO_about_39 rfl ?_
        refine zz_iald d_MO_about_40 h115 (by omega) ?_
        refine ab_goto (tgt := 59) d_MO_about_41 (by decide) ?_
        refine zz_iret rfl d_MO_about_59 ?_
        rw [hQ]; exact ⟨_, rfl, hfr, hlen, hsl, h80⟩
    · refine ab_aload_n d_MO_about_21 rfl ?_
      refine ab_getf (fs := mof 0 m_taped m_length m_out m_wide m_gathered m_sets m_ranges m_nodes m_at m_flags m_fault m_place m_numbered m_depth m_value m_isNot m_least0 m_most0 m_slot m_work m_got m_rowMany m_charAt m_charWide m_trail m_isMatch m_matchGroups m_allFrom m_allBefore m_founds m_pieces m_writtenMany m_templateWide m_tooMuch) f_MO_115 d_MO_about_22 h80.2.2 rfl ?_
      refine ab_iload_n d_MO_about_25 rfl ?_
      refine zz_iald d_MO_about_26 h114 (by omega) ?_
      refine ab_goto (tgt := 59) d_MO_about_27 (by decide) ?_
      refine zz_iret rfl d_MO_about_59 ?_
      rw [hQ]; exact ⟨_, rfl, hfr, hlen, hsl, h80⟩
  · refine zz_iconst d_MO_about_13 ?_
    refine ab_goto (tgt := 59) d_MO_about_14 (by decide) ?_
    refine zz_iret rfl d_MO_about_59 ?_
    rw [hQ]; exact ⟨_, rfl, hfr, hlen, hsl, h80⟩
set_option maxRecDepth 100000 in
set_option maxHeartbeats 4000000 in
theorem z_MO_name {X : ab_X} {d : Nat} {o : Nat → Nat} {G : ab_G} {m_thrown : Int} {m_taped : Int} {m_length : Int} {m_out : Int} {m_wide : Int} {m_gathered : Int} {m_sets : Int} {m_ranges : Int} {m_nodes : Int} {m_at : Int} {m_flags : Int} {m_fault : Int} {m_place : Int} {m_numbered : Int} {m_depth : Int} {m_value : Int} {m_isNot : Int} {m_least0 : Int} {m_most0 : Int} {m_slot : Int} {m_work : Int} {m_got : Int} {m_rowMany : Int} {m_charAt : Int} {m_charWide : Int} {m_trail : Int} {m_isMatch : Int} {m_matchGroups : Int} {m_allFrom : Int} {m_allBefore : Int} {m_founds : Int} {m_pieces : Int} {m_writtenMany : Int} {m_templateWide : Int} {m_tooMuch : Int} {A_there : Int → Int} {A_nameSize : Int → Int} {A_nameOf : Int → Int} {x : Int} {y : Int} {z : Int} (h80 : cc o G 80 280 (ab_ob 12 (mof m_thrown m_taped m_length m_out m_wide m_gathered m_sets m_ranges m_nodes m_at m_flags m_fault m_place m_numbered m_depth m_value m_isNot m_least0 m_most0 m_slot m_work m_got m_rowMany m_charAt m_charWide m_trail m_isMatch m_matchGroups m_allFrom m_allBefore m_founds m_pieces m_writtenMany m_templateWide m_tooMuch))) (h112 : cc o G 112 312 (zb 6 A_there)) (h127 : cc o G 127 327 (za 60 A_nameSize)) (h126 : cc o G 126 326 (za 720 A_nameOf)) (n18 : ab_n0 = 18) (cr : -2147483648 ≤ x ∧ x ≤ 2147483647 ∧ -2147483648 ≤ y ∧ y ≤ 2147483647 ∧ -2147483648 ≤ z ∧ z ≤ 2147483647) (jth : rgs A_there 6 0 1) (jns : rgs A_nameSize 60 0 12) (hd : 1 ≤ d) : ab_F X d y_MO_name (.code y_MO_name b_MO_name 4 (some (.int))) [vR 80, vz x, vz y, vz z] G (fun oc G2 => ∃ v : Int, oc = .returned (some (vz v)) ∧ fx o o [280] G G2 ∧ G2.length = G.length ∧ ab_slots G2 = ab_slots G ∧ cc o G2 80 280 (ab_ob 12 (mof 0 m_taped m_length m_out m_wide m_gathered m_sets m_ranges m_nodes m_at m_flags m_fault m_place m_numbered m_depth m_value m_isNot m_least0 m_most0 m_slot m_work m_got m_rowMany m_charAt m_charWide m_trail m_isMatch m_matchGroups m_allFrom m_allBefore m_founds m_pieces m_writtenMany m_templateWide m_tooMuch))) := by
  refine ab_F_of (by decide +kernel) (Nat.le_of_ble_eq_true rfl) ?_
  obtain ⟨Q, hQ⟩ : ∃ z : Outcome → ab_G → Prop, z = (fun oc G2 => ∃ v : Int, oc = .returned (some (vz v)) ∧ fx o o [280] G G2 ∧ G2.length = G.length ∧ ab_slots G2 = ab_slots G ∧ cc o G2 80 280 (ab_ob 12 (mof 0 m_taped m_length m_out m_wide m_gathered m_sets m_ranges m_nodes m_at m_flags m_fault m_place m_numbered m_depth m_value m_isNot m_least0 m_most0 m_slot m_work m_got m_rowMany m_charAt m_charWide m_trail m_isMatch m_matchGroups m_allFrom m_allBefore m_founds m_pieces m_writtenMany m_templateWide m_tooMuch))) := ⟨_, rfl⟩
  rw [← hQ]
  change ab_W X (ab_pl y_MO_name b_MO_name 4 (some (.int))) d G 0 [some (vR 80), some (vz x), some (vz y), some (vz z)] [] Q
  have hfr : fx o o [280] G G := fx.rf
  have hlen : G.length = G.length := rfl
  have hsl : ab_slots G = ab_slots G := rfl
  refine ab_aload_n d_MO_name_0 rfl ?_
  refine zz_iconst d_MO_name_1 ?_
  refine ab_putf (fs := mof m_thrown m_taped m_length m_out m_wide m_gathered m_sets m_ranges m_nodes m_at m_flags m_fault m_place m_numbered m_depth m_value m_isNot m_least0 m_most0 m_slot m_work m_got m_rowMany m_charAt m_charWide m_trail m_isMatch m_matchGroups m_allFrom m_allBefore m_founds m_pieces m_writtenMany m_templateWide m_tooMuch) f_MO_220 (Or.inl rfl) d_MO_name_2 h80.2.2 (Nat.le_of_ble_eq_true rfl) (fun _ => ⟨rfl, rfl⟩) (h80.2.1 (by decide)) ?_
  obtain ⟨G1, eG1⟩ : ∃ z : ab_G, z = List.set G 80 (ab_ob 12 (mof 0 m_taped m_length m_out m_wide m_gathered m_sets m_ranges m_nodes m_at m_flags m_fault m_place m_numbered m_depth m_value m_isNot m_least0 m_most0 m_slot m_work m_got m_rowMany m_charAt m_charWide m_trail m_isMatch m_matchGroups m_allFrom m_allBefore m_founds m_pieces m_writtenMany m_templateWide m_tooMuch)) := ⟨_, rfl⟩
  have h112 := h112.keep h80 eG1 (by decide)
  have h127 := h127.keep h80 eG1 (by decide)
  have h126 := h126.keep h80 eG1 (by decide)
  have hlen := (z_len eG1).trans hlen
  have hsl := (z_sl h80 eG1 rfl).trans hsl
  have hfr := hfr.wr h80 eG1 (by decide)
  have h80 := h80.kept eG1
  change ab_W _ _ _ (List.set G 80 (ab_ob 12 (mof 0 m_taped m_length m_out m_wide m_gathered m_sets m_ranges m_nodes m_at m_flags m_fault m_place m_numbered m_depth m_value m_isNot m_least0 m_most0 m_slot m_work m_got m_rowMany m_charAt m_charWide m_trail m_isMatch m_matchGroups m_allFrom m_allBefore m_founds m_pieces m_writtenMany m_templateWide m_tooMuch))) 5 [some (vR 80), some (vz x), some (vz y), some (vz z)] [] _
  rw [← eG1]
  refine ab_aload_n d_MO_name_5 rfl ?_
  refine ab_iload_n d_MO_name_6 rfl ?_
  refine ab_callV (d' := d - 1) (as := [vz x]) (st := []) (r := _) (z_MO_isThere (o := o) (m_thrown := 0) (m_taped := m_taped) (m_length := m_length) (m_out := m_out) (m_wide := m_wide) (m_gathered := m_gathered) (m_sets := m_sets) (m_ranges := m_ranges) (m_nodes := m_nodes) (m_at := m_at) (m_flags := m_flags) (m_fault := m_fault) (m_place := m_place) (m_numbered := m_numbered) (m_depth := m_depth) (m_value := m_value) (m_isNot := m_isNot) (m_least0 := m_least0) (m_most0 := m_most0) (m_slot := m_slot) (m_work := m_work) (m_got := m_got) (m_rowMany := m_rowMany) (m_charAt := m_charAt) (m_charWide := m_charWide) (m_trail := m_trail) (m_isMatch := m_isMatch) (m_matchGroups := m_matchGroups) (m_allFrom := m_allFrom) (m_allBefore := m_allBefore) (m_founds := m_founds) (m_pieces := m_pieces) (m_writtenMany := m_writtenMany) (m_templateWide := m_templateWide) (m_tooMuch := m_tooMuch) (A_there := A_there) (x := x) h80 h112 (by omega) jth) (fun oc G2 h => by rcases h with ⟨_, h, _⟩ <;> exact ⟨_, h⟩) (by omega) m_MO_isThere ml_MO_507 im_MO_isThere se_MO_isThere c_MO h80.2.2 (Nat.le_of_ble_eq_true rfl) d_MO_name_7 rfl ?_
  intro v G2 hq
  rcases hq with ⟨v3, hv, hGe, hq4, hq5⟩
  cases hv
  rw [hGe]
  change ab_W _ _ _ G1 10 [some (vR 80), some (vz x), some (vz y), some (vz z)] [vz v3] _
  refine zz_if_eq (tgt := 43) d_MO_name_10 (by decide) (by omega) (fun c6 => ?_) (fun c6 => ?_)
  · refine zz_iconst d_MO_name_43 ?_
    refine ab_goto (tgt := 63) d_MO_name_44 (by decide) ?_
    refine zz_iret rfl d_MO_name_63 ?_
    rw [hQ]; exact ⟨_, rfl, hfr, hlen, hsl, h80⟩
  · refine ab_iload_n d_MO_name_13 rfl ?_
    refine zz_iconst d_MO_name_14 ?_
    refine zz_icmp_lt (tgt := 43) d_MO_name_15 (by decide) (by omega) (by decide) (fun c7 => ?_) (fun c7 => ?_)
    · refine zz_iconst d_MO_name_43 ?_
      refine ab_goto (tgt := 63) d_MO_name_44 (by decide) ?_
      refine zz_iret rfl d_MO_name_63 ?_
      rw [hQ]; exact ⟨_, rfl, hfr, hlen, hsl, h80⟩
    · refine ab_iload_n d_MO_name_18 rfl ?_
      refine zz_bipush d_MO_name_19 (by decide) ?_
      refine zz_icmp_gt (tgt := 43) d_MO_name_21 (by decide) (by omega) (by decide) (fun c8 => ?_) (fun c8 => ?_)
      · refine zz_iconst d_MO_name_43 ?_
        refine ab_goto (tgt := 63) d_MO_name_44 (by decide) ?_
        refine zz_iret rfl d_MO_name_63 ?_
        rw [hQ]; exact ⟨_, rfl, hfr, hlen, hsl, h80⟩
      · refine ab_iload_n d_MO_name_24 rfl ?_
        refine zz_if_lt (tgt := 43) d_MO_name_25 (by decide) (by omega) (fun c9 => ?_) (fun c9 => ?_)
        · refine zz_iconst d_MO_name_43 ?_
          refine ab_goto (tgt := 63) d_MO_name_44 (by decide) ?_
          refine zz_iret rfl d_MO_name_63 ?_
          rw [hQ]; exact ⟨_, rfl, hfr, hlen, hsl, h80⟩
        · refine ab_iload_n d_MO_name_28 rfl ?_
          refine ab_aload_n d_MO_name_29 rfl ?_
          refine ab_getf (fs := mof 0 m_taped m_length m_out m_wide m_gathered m_sets m_ranges m_nodes m_at m_flags m_fault m_place m_numbered m_depth m_value m_isNot m_least0 m_most0 m_slot m_work m_got m_rowMany m_charAt m_charWide m_trail m_isMatch m_matchGroups m_allFrom m_allBefore m_founds m_pieces m_writtenMany m_templateWide m_tooMuch) f_MO_155 d_MO_name_30 h80.2.2 rfl ?_
          refine zz_bipush d_MO_name_33 (by decide) ?_
          refine ab_iload_n d_MO_name_35 rfl ?_
          refine zz_imul d_MO_name_36 ?_
          refine ab_iload_n d_MO_name_37 rfl ?_
          refine zz_iadd d_MO_name_38 ?_
          refine zz_iald d_MO_name_39 h127 (by omega) ?_
          have hq10 := jns ((10 * x) + y) (by omega) (by omega)
          refine zz_icmp_lt (tgt := 47) d_MO_name_40 (by decide) (by omega) (by omega) (fun c11 => ?_) (fun c11 => ?_)
          · refine ab_aload_n d_MO_name_47 rfl ?_
            refine ab_getf (fs := mof 0 m_taped m_length m_out m_wide m_gathered m_sets m_ranges m_nodes m_at m_flags m_fault m_place m_numbered m_depth m_value m_isNot m_least0 m_most0 m_slot m_work m_got m_rowMany m_charAt m_charWide m_trail m_isMatch m_matchGroups m_allFrom m_allBefore m_founds m_pieces m_writtenMany m_templateWide m_tooMuch) f_MO_152 d_MO_name_48 h80.2.2 rfl ?_
            refine zz_bipush d_MO_name_51 (by decide) ?_
            refine ab_iload_n d_MO_name_53 rfl ?_
            refine zz_imul d_MO_name_54 ?_
            refine zz_bipush d_MO_name_55 (by decide) ?_
            refine ab_iload_n d_MO_name_57 rfl ?_
            refine zz_imul d_MO_name_58 ?_
            refine zz_iadd d_MO_name_59 ?_
            refine ab_iload_n d_MO_name_60 rfl ?_
            refine zz_iadd d_MO_name_61 ?_
            refine zz_iald d_MO_name_62 h126 (by omega) ?_
            refine zz_iret rfl d_MO_name_63 ?_
            rw [hQ]; exact ⟨_, rfl, hfr, hlen, hsl, h80⟩
          · refine zz_iconst d_MO_name_43 ?_
            refine ab_goto (tgt := 63) d_MO_name_44 (by decide) ?_
            refine zz_iret rfl d_MO_name_63 ?_
            rw [hQ]; exact ⟨_, rfl, hfr, hlen, hsl, h80⟩
