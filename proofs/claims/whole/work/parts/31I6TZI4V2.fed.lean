set_option maxRecDepth 100000 in
set_option maxHeartbeats 4000000 in
theorem xy_MO_feed_8 {X : ab_X} {d : Nat} {Q : Outcome → ab_G → Prop} {o : Nat → Nat} {G0 : ab_G} {m_thrown : Int} {m_taped : Int} {m_length : Int} {m_out : Int} {m_wide : Int} {m_gathered : Int} {m_sets : Int} {m_ranges : Int} {m_nodes : Int} {m_at : Int} {m_flags : Int} {m_fault : Int} {m_place : Int} {m_numbered : Int} {m_depth : Int} {m_value : Int} {m_isNot : Int} {m_least0 : Int} {m_most0 : Int} {m_slot : Int} {m_work : Int} {m_got : Int} {m_rowMany : Int} {m_charAt : Int} {m_charWide : Int} {m_trail : Int} {m_isMatch : Int} {m_matchGroups : Int} {m_allFrom : Int} {m_allBefore : Int} {m_founds : Int} {m_pieces : Int} {m_writtenMany : Int} {m_templateWide : Int} {m_tooMuch : Int} {x1 : Int} {x2 : Int} {x3 : Int} {x4 : Int} {x5 : Int} (n18 : ab_n0 = 18) (cxr : -2147483648 ≤ x1 ∧ x1 ≤ 2147483647 ∧ -2147483648 ≤ x2 ∧ x2 ≤ 2147483647 ∧ -2147483648 ≤ x3 ∧ x3 ≤ 2147483647 ∧ -2147483648 ≤ x4 ∧ x4 ≤ 2147483647 ∧ -2147483648 ≤ x5 ∧ x5 ≤ 2147483647) (hd : 1 ≤ d) : ∀ (mz : Nat) {G : ab_G} {k : Int} {A_ready : Int → Int}, (cc o G 80 280 (ab_ob 12 (mof m_thrown m_taped m_length m_out m_wide m_gathered m_sets m_ranges m_nodes m_at m_flags m_fault m_place m_numbered m_depth m_value m_isNot m_least0 m_most0 m_slot m_work m_got m_rowMany m_charAt m_charWide m_trail m_isMatch m_matchGroups m_allFrom m_allBefore m_founds m_pieces m_writtenMany m_templateWide m_tooMuch))) → (cc o G 83 283 (za 20 A_ready)) → (0 ≤ k ∧ k ≤ 4) → (rgs A_ready 20 0 255) → (fdI A_ready x1 x2 x3 x4 x5 k) → (fx o o [283] G0 G) → (G.length = G0.length) → (ab_slots G = ab_slots G0) → (Int.toNat (4 - k) < mz) → (∀ (G2 : ab_G) (B_ready : Int → Int), (cc o G2 83 283 (za 20 B_ready)) → (rgs B_ready 20 0 255) → (fdI B_ready x1 x2 x3 x4 x5 4) → (fx o o [283] G0 G2) → (G2.length = G0.length) → (ab_slots G2 = ab_slots G0) → ab_W X (ab_pl y_MO_feed b_MO_feed 8 none) d G2 118 [none, none, none, none, none, none, none, none] [] Q) → ab_W X (ab_pl y_MO_feed b_MO_feed 8 none) d G 8 [some (vR 80), some (vz x1), some (vz x2), some (vz x3), some (vz x4), some (vz x5), some (vz k), none] [] Q := by
  intro mz
  induction mz with
  | zero => intro G k A_ready h80 h83 ck jry jfd hfr hlen hsl hm hk0; exact absurd hm (Nat.not_lt_zero _)
  | succ mz ih =>
    intro G k A_ready h80 h83 ck jry jfd hfr hlen hsl hm hk0
    refine ab_iload d_MO_feed_8 rfl ?_
    refine zz_iconst d_MO_feed_10 ?_
    refine zz_icmp_ge (tgt := 118) d_MO_feed_11 (by decide) (by omega) (by decide) (fun c1 => ?_) (fun c1 => ?_)
    · refine ab_less (L' := [none, none, none, none, none, none, none, none]) (fun i v h => by rcases i with _ | _ | _ | _ | _ | _ | _ | _ | i <;> first | exact h | (simp at h)) ?_
      exact hk0 _ _ h83 (by first | exact jry | exact rgs_w jry (by omega)) (by have t_ := jfd; rw [show k = 4 by omega] at t_; exact t_) hfr hlen hsl
    · refine zz_bipush d_MO_feed_14 (by decide) ?_
      refine zz_bipush d_MO_feed_16 (by decide) ?_
      refine ab_iload d_MO_feed_18 rfl ?_
      refine zz_imul d_MO_feed_20 ?_
      refine zz_isub d_MO_feed_21 ?_
      refine ab_istore d_MO_feed_22 (Nat.le_of_ble_eq_true rfl) (Nat.le_of_ble_eq_true rfl) rfl ?_
      change ab_W _ _ _ G 24 [some (vR 80), some (vz x1), some (vz x2), some (vz x3), some (vz x4), some (vz x5), some (vz k), some (vz (24 - (8 * k)))] [] _
      refine ab_aload_n d_MO_feed_24 rfl ?_
      refine ab_getf (fs := mof m_thrown m_taped m_length m_out m_wide m_gathered m_sets m_ranges m_nodes m_at m_flags m_fault m_place m_numbered m_depth m_value m_isNot m_least0 m_most0 m_slot m_work m_got m_rowMany m_charAt m_charWide m_trail m_isMatch m_matchGroups m_allFrom m_allBefore m_founds m_pieces m_writtenMany m_templateWide m_tooMuch) f_MO_16 d_MO_feed_25 h80.2.2 rfl ?_
      refine ab_iload d_MO_feed_28 rfl ?_
      refine ab_iload_n d_MO_feed_30 rfl ?_
      refine ab_iload d_MO_feed_31 rfl ?_
      refine ab_ishr d_MO_feed_33 ?_
      refine zz_sipush d_MO_feed_34 (by decide) ?_
      refine ab_iand d_MO_feed_37 ?_
      refine ab_topi (byt_s (k := k) (by omega) (by omega) (by omega)) ?_
      have hb2 := byt_b x1 k
      change ab_W _ _ _ G 38 [some (vR 80), some (vz x1), some (vz x2), some (vz x3), some (vz x4), some (vz x5), some (vz k), some (vz (24 - (8 * k)))] [vz (byt x1 k), vz k, vR 83] _
      refine zz_iast d_MO_feed_38 h83 (by omega) (h83.2.1 (by decide)) ?_
      obtain ⟨G3, eG3⟩ : ∃ z : ab_G, z = List.set G 83 (za 20 (zu A_ready k (byt x1 k))) := ⟨_, rfl⟩
      have h80 := h80.keep h83 eG3 (by decide)
      have hlen := (z_len eG3).trans hlen
      have hsl := (z_sl h83 eG3 rfl).trans hsl
      have hfr := hfr.wr h83 eG3 (by decide)
      have h83 := h83.kept eG3
      change ab_W _ _ _ (List.set G 83 (za 20 (zu A_ready k (byt x1 k)))) 39 [some (vR 80), some (vz x1), some (vz x2), some (vz x3), some (vz x4), some (vz x5), some (vz k), some (vz (24 - (8 * k)))] [] _
      rw [← eG3]
      refine ab_aload_n d_MO_feed_39 rfl ?_
      refine ab_getf (fs := mof m_thrown m_taped m_length m_out m_wide m_gathered m_sets m_ranges m_nodes m_at m_flags m_fault m_place m_numbered m_depth m_value m_isNot m_least0 m_most0 m_slot m_work m_got m_rowMany m_charAt m_charWide m_trail m_isMatch m_matchGroups m_allFrom m_allBefore m_founds m_pieces m_writtenMany m_templateWide m_tooMuch) f_MO_16 d_MO_feed_40 h80.2.2 rfl ?_
      refine zz_iconst d_MO_feed_43 ?_
      refine ab_iload d_MO_feed_44 rfl ?_
      refine zz_iadd d_MO_feed_46 ?_
      refine ab_iload_n d_MO_feed_47 rfl ?_
      refine ab_iload d_MO_feed_48 rfl ?_
      refine ab_ishr d_MO_feed_50 ?_
      refine zz_sipush d_MO_feed_51 (by decide) ?_
      refine ab_iand d_MO_feed_54 ?_
      refine ab_topi (byt_s (k := k) (by omega) (by omega) (by omega)) ?_
      have hb4 := byt_b x2 k
      change ab_W _ _ _ G3 55 [some (vR 80), some (vz x1), some (vz x2), some (vz x3), some (vz x4), some (vz x5), some (vz k), some (vz (24 - (8 * k)))] [vz (byt x2 k), vz (4 + k), vR 83] _
      refine zz_iast d_MO_feed_55 h83 (by omega) (h83.2.1 (by decide)) ?_
      obtain ⟨G5, eG5⟩ : ∃ z : ab_G, z = List.set G3 83 (za 20 (zu (zu A_ready k (byt x1 k)) (4 + k) (byt x2 k))) := ⟨_, rfl⟩
      have h80 := h80.keep h83 eG5 (by decide)
      have hlen := (z_len eG5).trans hlen
      have hsl := (z_sl h83 eG5 rfl).trans hsl
      have hfr := hfr.wr h83 eG5 (by decide)
      have h83 := h83.kept eG5
      change ab_W _ _ _ (List.set G3 83 (za 20 (zu (zu A_ready k (byt x1 k)) (4 + k) (byt x2 k)))) 56 [some (vR 80), some (vz x1), some (vz x2), some (vz x3), some (vz x4), some (vz x5), some (vz k), some (vz (24 - (8 * k)))] [] _
      rw [← eG5]
      refine ab_aload_n d_MO_feed_56 rfl ?_
      refine ab_getf (fs := mof m_thrown m_taped m_length m_out m_wide m_gathered m_sets m_ranges m_nodes m_at m_flags m_fault m_place m_numbered m_depth m_value m_isNot m_least0 m_most0 m_slot m_work m_got m_rowMany m_charAt m_charWide m_trail m_isMatch m_matchGroups m_allFrom m_allBefore m_founds m_pieces m_writtenMany m_templateWide m_tooMuch) f_MO_16 d_MO_feed_57 h80.2.2 rfl ?_
      refine zz_bipush d_MO_feed_60 (by decide) ?_
      refine ab_iload d_MO_feed_62 rfl ?_
      refine zz_iadd d_MO_feed_64 ?_
      refine ab_iload_n d_MO_feed_65 rfl ?_
      refine ab_iload d_MO_feed_66 rfl ?_
      refine ab_ishr d_MO_feed_68 ?_
      refine zz_sipush d_MO_feed_69 (by decide) ?_
      refine ab_iand d_MO_feed_72 ?_
      refine ab_topi (byt_s (k := k) (by omega) (by omega) (by omega)) ?_
      have hb6 := byt_b x3 k
      change ab_W _ _ _ G5 73 [some (vR 80), some (vz x1), some (vz x2), some (vz x3), some (vz x4), some (vz x5), some (vz k), some (vz (24 - (8 * k)))] [vz (byt x3 k), vz (8 + k), vR 83] _
      refine zz_iast d_MO_feed_73 h83 (by omega) (h83.2.1 (by decide)) ?_
      obtain ⟨G7, eG7⟩ : ∃ z : ab_G, z = List.set G5 83 (za 20 (zu (zu (zu A_ready k (byt x1 k)) (4 + k) (byt x2 k)) (8 + k) (byt x3 k))) := ⟨_, rfl⟩
      have h80 := h80.keep h83 eG7 (by decide)
      have hlen := (z_len eG7).trans hlen
      have hsl := (z_sl h83 eG7 rfl).trans hsl
      have hfr := hfr.wr h83 eG7 (by decide)
      have h83 := h83.kept eG7
      change ab_W _ _ _ (List.set G5 83 (za 20 (zu (zu (zu A_ready k (byt x1 k)) (4 + k) (byt x2 k)) (8 + k) (byt x3 k)))) 74 [some (vR 80), some (vz x1), some (vz x2), some (vz x3), some (vz x4), some (vz x5), some (vz k), some (vz (24 - (8 * k)))] [] _
      rw [← eG7]
      refine ab_aload_n d_MO_feed_74 rfl ?_
      refine ab_getf (fs := mof m_thrown m_taped m_length m_out m_wide m_gathered m_sets m_ranges m_nodes m_at m_flags m_fault m_place m_numbered m_depth m_value m_isNot m_least0 m_most0 m_slot m_work m_got m_rowMany m_charAt m_charWide m_trail m_isMatch m_matchGroups m_allFrom m_allBefore m_founds m_pieces m_writtenMany m_templateWide m_tooMuch) f_MO_16 d_MO_feed_75 h80.2.2 rfl ?_
      refine zz_bipush d_MO_feed_78 (by decide) ?_
      refine ab_iload d_MO_feed_80 rfl ?_
      refine zz_iadd d_MO_feed_82 ?_
      refine ab_iload d_MO_feed_83 rfl ?_
      refine ab_iload d_MO_feed_85 rfl ?_
      refine ab_ishr d_MO_feed_87 ?_
      refine zz_sipush d_MO_feed_88 (by decide) ?_
      refine ab_iand d_MO_feed_91 ?_
      refine ab_topi (byt_s (k := k) (by omega) (by omega) (by omega)) ?_
      have hb8 := byt_b x4 k
      change ab_W _ _ _ G7 92 [some (vR 80), some (vz x1), some (vz x2), some (vz x3), some (vz x4), some (vz x5), some (vz k), some (vz (24 - (8 * k)))] [vz (byt x4 k), vz (12 + k), vR 83] _
      refine zz_iast d_MO_feed_92 h83 (by omega) (h83.2.1 (by decide)) ?_
      obtain ⟨G9, eG9⟩ : ∃ z : ab_G, z = List.set G7 83 (za 20 (zu (zu (zu (zu A_ready k (byt x1 k)) (4 + k) (byt x2 k)) (8 + k) (byt x3 k)) (12 + k) (byt x4 k))) := ⟨_, rfl⟩
      have h80 := h80.keep h83 eG9 (by decide)
      have hlen := (z_len eG9).trans hlen
      have hsl := (z_sl h83 eG9 rfl).trans hsl
      have hfr := hfr.wr h83 eG9 (by decide)
      have h83 := h83.kept eG9
      change ab_W _ _ _ (List.set G7 83 (za 20 (zu (zu (zu (zu A_ready k (byt x1 k)) (4 + k) (byt x2 k)) (8 + k) (byt x3 k)) (12 + k) (byt x4 k)))) 93 [some (vR 80), some (vz x1), some (vz x2), some (vz x3), some (vz x4), some (vz x5), some (vz k), some (vz (24 - (8 * k)))] [] _
      rw [← eG9]
      refine ab_aload_n d_MO_feed_93 rfl ?_
      refine ab_getf (fs := mof m_thrown m_taped m_length m_out m_wide m_gathered m_sets m_ranges m_nodes m_at m_flags m_fault m_place m_numbered m_depth m_value m_isNot m_least0 m_most0 m_slot m_work m_got m_rowMany m_charAt m_charWide m_trail m_isMatch m_matchGroups m_allFrom m_allBefore m_founds m_pieces m_writtenMany m_templateWide m_tooMuch) f_MO_16 d_MO_feed_94 h80.2.2 rfl ?_
      refine zz_bipush d_MO_feed_97 (by decide) ?_
      refine ab_iload d_MO_feed_99 rfl ?_
      refine zz_iadd d_MO_feed_101 ?_
      refine ab_iload d_MO_feed_102 rfl ?_
      refine ab_iload d_MO_feed_104 rfl ?_
      refine ab_ishr d_MO_feed_106 ?_
      refine zz_sipush d_MO_feed_107 (by decide) ?_
      refine ab_iand d_MO_feed_110 ?_
      refine ab_topi (byt_s (k := k) (by omega) (by omega) (by omega)) ?_
      have hb10 := byt_b x5 k
      change ab_W _ _ _ G9 111 [some (vR 80), some (vz x1), some (vz x2), some (vz x3), some (vz x4), some (vz x5), some (vz k), some (vz (24 - (8 * k)))] [vz (byt x5 k), vz (16 + k), vR 83] _
      refine zz_iast d_MO_feed_111 h83 (by omega) (h83.2.1 (by decide)) ?_
      obtain ⟨G11, eG11⟩ : ∃ z : ab_G, z = List.set G9 83 (za 20 (zu (zu (zu (zu (zu A_ready k (byt x1 k)) (4 + k) (byt x2 k)) (8 + k) (byt x3 k)) (12 + k) (byt x4 k)) (16 + k) (byt x5 k))) := ⟨_, rfl⟩
      have h80 := h80.keep h83 eG11 (by decide)
      have hlen := (z_len eG11).trans hlen
      have hsl := (z_sl h83 eG11 rfl).trans hsl
      have hfr := hfr.wr h83 eG11 (by decide)
      have h83 := h83.kept eG11
      change ab_W _ _ _ (List.set G9 83 (za 20 (zu (zu (zu (zu (zu A_ready k (byt x1 k)) (4 + k) (byt x2 k)) (8 + k) (byt x3 k)) (12 + k) (byt x4 k)) (16 + k) (byt x5 k)))) 112 [some (vR 80), some (vz x1), some (vz x2), some (vz x3), some (vz x4), some (vz x5), some (vz k), some (vz (24 - (8 * k)))] [] _
      rw [← eG11]
      refine zz_iinc d_MO_feed_112 rfl (Nat.le_of_ble_eq_true rfl) (Nat.le_of_ble_eq_true rfl) rfl ?_
      change ab_W _ _ _ G11 115 [some (vR 80), some (vz x1), some (vz x2), some (vz x3), some (vz x4), some (vz x5), some (vz (k + 1)), some (vz (24 - (8 * k)))] [] _
      refine ab_goto (tgt := 8) d_MO_feed_115 (by decide) ?_
      refine ab_less (L' := [some (vR 80), some (vz x1), some (vz x2), some (vz x3), some (vz x4), some (vz x5), some (vz (k + 1)), none]) (fun i v h => by rcases i with _ | _ | _ | _ | _ | _ | _ | _ | i <;> first | exact h | (simp at h)) ?_
      exact ih (k := (k + 1)) (A_ready := (zu (zu (zu (zu (zu A_ready k (byt x1 k)) (4 + k) (byt x2 k)) (8 + k) (byt x3 k)) (12 + k) (byt x4 k)) (16 + k) (byt x5 k))) h80 h83 (by omega) (rgs_zu (rgs_zu (rgs_zu (rgs_zu (rgs_zu jry (by omega)) (by omega)) (by omega)) (by omega)) (by omega)) (fdI_s jfd (by omega) (by omega)) hfr hlen hsl (by omega) hk0
set_option maxRecDepth 100000 in
set_option maxHeartbeats 4000000 in
theorem x_MO_feed {X : ab_X} {d : Nat} {o : Nat → Nat} {G : ab_G} {m_thrown : Int} {m_taped : Int} {m_length : Int} {m_out : Int} {m_wide : Int} {m_gathered : Int} {m_sets : Int} {m_ranges : Int} {m_nodes : Int} {m_at : Int} {m_flags : Int} {m_fault : Int} {m_place : Int} {m_numbered : Int} {m_depth : Int} {m_value : Int} {m_isNot : Int} {m_least0 : Int} {m_most0 : Int} {m_slot : Int} {m_work : Int} {m_got : Int} {m_rowMany : Int} {m_charAt : Int} {m_charWide : Int} {m_trail : Int} {m_isMatch : Int} {m_matchGroups : Int} {m_allFrom : Int} {m_allBefore : Int} {m_founds : Int} {m_pieces : Int} {m_writtenMany : Int} {m_templateWide : Int} {m_tooMuch : Int} {A_ready : Int → Int} {x1 : Int} {x2 : Int} {x3 : Int} {x4 : Int} {x5 : Int} (h80 : cc o G 80 280 (ab_ob 12 (mof m_thrown m_taped m_length m_out m_wide m_gathered m_sets m_ranges m_nodes m_at m_flags m_fault m_place m_numbered m_depth m_value m_isNot m_least0 m_most0 m_slot m_work m_got m_rowMany m_charAt m_charWide m_trail m_isMatch m_matchGroups m_allFrom m_allBefore m_founds m_pieces m_writtenMany m_templateWide m_tooMuch))) (h83 : cc o G 83 283 (za 20 A_ready)) (n18 : ab_n0 = 18) (jry : rgs A_ready 20 0 255) (cxr : -2147483648 ≤ x1 ∧ x1 ≤ 2147483647 ∧ -2147483648 ≤ x2 ∧ x2 ≤ 2147483647 ∧ -2147483648 ≤ x3 ∧ x3 ≤ 2147483647 ∧ -2147483648 ≤ x4 ∧ x4 ≤ 2147483647 ∧ -2147483648 ≤ x5 ∧ x5 ≤ 2147483647) (hd : 2 ≤ d) : ab_F X d y_MO_feed (.code y_MO_feed b_MO_feed 8 none) [vR 80, vz x1, vz x2, vz x3, vz x4, vz x5] G (fun oc G2 => ∃ B_ready : Int → Int, oc = .returned none ∧ fx o o [280, 283] G G2 ∧ G2.length = G.length ∧ ab_slots G2 = ab_slots G ∧ cc o G2 80 280 (ab_ob 12 (mof 0 m_taped m_length m_out m_wide m_gathered m_sets m_ranges m_nodes m_at m_flags m_fault m_place m_numbered m_depth m_value m_isNot m_least0 m_most0 m_slot m_work m_got m_rowMany m_charAt m_charWide m_trail m_isMatch m_matchGroups m_allFrom m_allBefore m_founds m_pieces m_writtenMany m_templateWide m_tooMuch)) ∧ cc o G2 83 283 (za 20 B_ready) ∧ (rgs B_ready 20 0 255) ∧ (fdI B_ready x1 x2 x3 x4 x5 4)) := by
  refine ab_F_of (by decide +kernel) (Nat.le_of_ble_eq_true rfl) ?_
  obtain ⟨Q, hQ⟩ : ∃ z : Outcome → ab_G → Prop, z = (fun oc G2 => ∃ B_ready : Int → Int, oc = .returned none ∧ fx o o [280, 283] G G2 ∧ G2.length = G.length ∧ ab_slots G2 = ab_slots G ∧ cc o G2 80 280 (ab_ob 12 (mof 0 m_taped m_length m_out m_wide m_gathered m_sets m_ranges m_nodes m_at m_flags m_fault m_place m_numbered m_depth m_value m_isNot m_least0 m_most0 m_slot m_work m_got m_rowMany m_charAt m_charWide m_trail m_isMatch m_matchGroups m_allFrom m_allBefore m_founds m_pieces m_writtenMany m_templateWide m_tooMuch)) ∧ cc o G2 83 283 (za 20 B_ready) ∧ (rgs B_ready 20 0 255) ∧ (fdI B_ready x1 x2 x3 x4 x5 4)) := ⟨_, rfl⟩
  rw [← hQ]
  change ab_W X (ab_pl y_MO_feed b_MO_feed 8 none) d G 0 [some (vR 80), some (vz x1), some (vz x2), some (vz x3), some (vz x4), some (vz x5), none, none] [] Q
  have hfr : fx o o [280, 283] G G := fx.rf
  have hlen : G.length = G.length := rfl
  have hsl : ab_slots G = ab_slots G := rfl
  refine ab_aload_n d_MO_feed_0 rfl ?_
  refine zz_iconst d_MO_feed_1 ?_
  refine ab_putf (fs := mof m_thrown m_taped m_length m_out m_wide m_gathered m_sets m_ranges m_nodes m_at m_flags m_fault m_place m_numbered m_depth m_value m_isNot m_least0 m_most0 m_slot m_work m_got m_rowMany m_charAt m_charWide m_trail m_isMatch m_matchGroups m_allFrom m_allBefore m_founds m_pieces m_writtenMany m_templateWide m_tooMuch) f_MO_220 (Or.inl rfl) d_MO_feed_2 h80.2.2 (Nat.le_of_ble_eq_true rfl) (fun _ => ⟨rfl, rfl⟩) (h80.2.1 (by decide)) ?_
  obtain ⟨G1, eG1⟩ : ∃ z : ab_G, z = List.set G 80 (ab_ob 12 (mof 0 m_taped m_length m_out m_wide m_gathered m_sets m_ranges m_nodes m_at m_flags m_fault m_place m_numbered m_depth m_value m_isNot m_least0 m_most0 m_slot m_work m_got m_rowMany m_charAt m_charWide m_trail m_isMatch m_matchGroups m_allFrom m_allBefore m_founds m_pieces m_writtenMany m_templateWide m_tooMuch)) := ⟨_, rfl⟩
  have h83 := h83.keep h80 eG1 (by decide)
  have hlen := (z_len eG1).trans hlen
  have hsl := (z_sl h80 eG1 rfl).trans hsl
  have hfr := hfr.wr h80 eG1 (by decide)
  have h80 := h80.kept eG1
  change ab_W _ _ _ (List.set G 80 (ab_ob 12 (mof 0 m_taped m_length m_out m_wide m_gathered m_sets m_ranges m_nodes m_at m_flags m_fault m_place m_numbered m_depth m_value m_isNot m_least0 m_most0 m_slot m_work m_got m_rowMany m_charAt m_charWide m_trail m_isMatch m_matchGroups m_allFrom m_allBefore m_founds m_pieces m_writtenMany m_templateWide m_tooMuch))) 5 [some (vR 80), some (vz x1), some (vz x2), some (vz x3), some (vz x4), some (vz x5), none, none] [] _
  rw [← eG1]
  refine zz_iconst d_MO_feed_5 ?_
  refine ab_istore d_MO_feed_6 (Nat.le_of_ble_eq_true rfl) (Nat.le_of_ble_eq_true rfl) rfl ?_
  change ab_W _ _ _ G1 8 [some (vR 80), some (vz x1), some (vz x2), some (vz x3), some (vz x4), some (vz x5), some (vz 0), none] [] _
  refine xy_MO_feed_8 (m_thrown := 0) (m_taped := m_taped) (m_length := m_length) (m_out := m_out) (m_wide := m_wide) (m_gathered := m_gathered) (m_sets := m_sets) (m_ranges := m_ranges) (m_nodes := m_nodes) (m_at := m_at) (m_flags := m_flags) (m_fault := m_fault) (m_place := m_place) (m_numbered := m_numbered) (m_depth := m_depth) (m_value := m_value) (m_isNot := m_isNot) (m_least0 := m_least0) (m_most0 := m_most0) (m_slot := m_slot) (m_work := m_work) (m_got := m_got) (m_rowMany := m_rowMany) (m_charAt := m_charAt) (m_charWide := m_charWide) (m_trail := m_trail) (m_isMatch := m_isMatch) (m_matchGroups := m_matchGroups) (m_allFrom := m_allFrom) (m_allBefore := m_allBefore) (m_founds := m_founds) (m_pieces := m_pieces) (m_writtenMany := m_writtenMany) (m_templateWide := m_templateWide) (m_tooMuch := m_tooMuch) (x1 := x1) (x2 := x2) (x3 := x3) (x4 := x4) (x5 := x5) (G0 := G1) (k := 0) (A_ready := A_ready) (by omega) (by omega) (by omega) (Int.toNat (4 - 0) + 1) h80 h83 (by omega) jry fdI_0 fx.rf rfl rfl (by omega) (fun G2 B_ready3 hN83 hq4 hq5 hfk hlk hsk => ?_)
  · have h80 := hfk.get h80 (by decide)
    have hfr := hfr.tr hfk (by decide)
    have hlen := hlk.trans hlen
    have hsl := hsk.trans hsl
    have h83 := hN83
    change ab_W _ _ _ G2 118 [none, none, none, none, none, none, none, none] [] _
    refine ab_vret rfl d_MO_feed_118 ?_
    rw [hQ]; exact ⟨_, rfl, hfr, hlen, hsl, h80, h83, (by first | exact hq4 | exact rgs_w hq4 (by omega)), (by exact hq5)⟩
set_option maxRecDepth 100000 in
set_option maxHeartbeats 4000000 in
theorem xy_MO_end_31 {X : ab_X} {d : Nat} {Q : Outcome → ab_G → Prop} {o : Nat → Nat} {G0 : ab_G} {m_thrown : Int} {m_taped : Int} {m_length : Int} {m_out : Int} {m_wide : Int} {m_gathered : Int} {m_sets : Int} {m_ranges : Int} {m_nodes : Int} {m_at : Int} {m_flags : Int} {m_fault : Int} {m_place : Int} {m_numbered : Int} {m_depth : Int} {m_value : Int} {m_isNot : Int} {m_least0 : Int} {m_most0 : Int} {m_slot : Int} {m_work : Int} {m_got : Int} {m_rowMany : Int} {m_charAt : Int} {m_charWide : Int} {m_trail : Int} {m_isMatch : Int} {m_matchGroups : Int} {m_allFrom : Int} {m_allBefore : Int} {m_founds : Int} {m_pieces : Int} {m_writtenMany : Int} {m_templateWide : Int} {m_tooMuch : Int} {A_ready : Int → Int} {n_ : Int} {TP0 : Int → Int} (n18 : ab_n0 = 18) (jry : rgs A_ready 20 0 255) (cn : 0 ≤ n_ ∧ n_ ≤ 20 ∧ 0 ≤ m_taped ∧ m_taped + n_ ≤ 2000) (hd : 1 ≤ d) : ∀ (mz : Nat) {G : ab_G} {i_ : Int} {A_tape : Int → Int}, (cc o G 80 280 (ab_ob 12 (mof m_thrown m_taped m_length m_out m_wide m_gathered m_sets m_ranges m_nodes m_at m_flags m_fault m_place m_numbered m_depth m_value m_isNot m_least0 m_most0 m_slot m_work m_got m_rowMany m_charAt m_charWide m_trail m_isMatch m_matchGroups m_allFrom m_allBefore m_founds m_pieces m_writtenMany m_templateWide m_tooMuch))) → (cc o G 83 283 (za 20 A_ready)) → (cc o G 84 284 (za 2000 A_tape)) → (0 ≤ i_ ∧ i_ ≤ n_) → (rgs A_tape 2000 0 255) → (apT TP0 A_tape A_ready m_taped i_) → (fx o o [284] G0 G) → (G.length = G0.length) → (ab_slots G = ab_slots G0) → (Int.toNat (n_ - i_) < mz) → (∀ (G2 : ab_G) (B_tape : Int → Int), (cc o G2 84 284 (za 2000 B_tape)) → (rgs B_tape 2000 0 255) → (apT TP0 B_tape A_ready m_taped n_) → (fx o o [284] G0 G2) → (G2.length = G0.length) → (ab_slots G2 = ab_slots G0) → ab_W X (ab_pl y_MO_end b_MO_end 3 (some (.int))) d G2 59 [some (vR 80), some (vz n_), none] [] Q) → ab_W X (ab_pl y_MO_end b_MO_end 3 (some (.int))) d G 31 [some (vR 80), some (vz n_), some (vz i_)] [] Q := by
  intro mz
  induction mz with
  | zero => intro G i_ A_tape h80 h83 h84 ci jtp jap hfr hlen hsl hm hk0; exact absurd hm (Nat.not_lt_zero _)
  | succ mz ih =>
    intro G i_ A_tape h80 h83 h84 ci jtp jap hfr hlen hsl hm hk0
    refine ab_iload_n d_MO_end_31 rfl ?_
    refine ab_iload_n d_MO_end_32 rfl ?_
    refine zz_icmp_ge (tgt := 59) d_MO_end_33 (by decide) (by omega) (by omega) (fun c1 => ?_) (fun c1 => ?_)
    · refine ab_less (L' := [some (vR 80), some (vz n_), none]) (fun i v h => by rcases i with _ | _ | _ | i <;> first | exact h | (simp at h)) ?_
      exact hk0 _ _ h84 (by first | exact jtp | exact rgs_w jtp (by omega)) (by have t_ := jap; rw [show i_ = n_ by omega] at t_; exact t_) hfr hlen hsl
    · refine ab_aload_n d_MO_end_36 rfl ?_
      refine ab_getf (fs := mof m_thrown m_taped m_length m_out m_wide m_gathered m_sets m_ranges m_nodes m_at m_flags m_fault m_place m_numbered m_depth m_value m_isNot m_least0 m_most0 m_slot m_work m_got m_rowMany m_charAt m_charWide m_trail m_isMatch m_matchGroups m_allFrom m_allBefore m_founds m_pieces m_writtenMany m_templateWide m_tooMuch) f_MO_19 d_MO_end_37 h80.2.2 rfl ?_
      refine ab_aload_n d_MO_end_40 rfl ?_
      refine ab_getf (fs := mof m_thrown m_taped m_length m_out m_wide m_gathered m_sets m_ranges m_nodes m_at m_flags m_fault m_place m_numbered m_depth m_value m_isNot m_least0 m_most0 m_slot m_work m_got m_rowMany m_charAt m_charWide m_trail m_isMatch m_matchGroups m_allFrom m_allBefore m_founds m_pieces m_writtenMany m_templateWide m_tooMuch) f_MO_223 d_MO_end_41 h80.2.2 rfl ?_
      refine ab_iload_n d_MO_end_44 rfl ?_
      refine zz_iadd d_MO_end_45 ?_
      refine ab_aload_n d_MO_end_46 rfl ?_
      refine ab_getf (fs := mof m_thrown m_taped m_length m_out m_wide m_gathered m_sets m_ranges m_nodes m_at m_flags m_fault m_place m_numbered m_depth m_value m_isNot m_least0 m_most0 m_slot m_work m_got m_rowMany m_charAt m_charWide m_trail m_isMatch m_matchGroups m_allFrom m_allBefore m_founds m_pieces m_writtenMany m_templateWide m_tooMuch) f_MO_16 d_MO_end_47 h80.2.2 rfl ?_
      refine ab_iload_n d_MO_end_50 rfl ?_
      refine zz_iald d_MO_end_51 h83 (by omega) ?_
      have hv_ := jry i_ (by omega) (by omega)
      refine zz_iast d_MO_end_52 h84 (by omega) (h84.2.1 (by decide)) ?_
      obtain ⟨G2, eG2⟩ : ∃ z : ab_G, z = List.set G 84 (za 2000 (zu A_tape (m_taped + i_) (A_ready i_))) := ⟨_, rfl⟩
      have h80 := h80.keep h84 eG2 (by decide)
      have h83 := h83.keep h84 eG2 (by decide)
      have hlen := (z_len eG2).trans hlen
      have hsl := (z_sl h84 eG2 rfl).trans hsl
      have hfr := hfr.wr h84 eG2 (by decide)
      have h84 := h84.kept eG2
      change ab_W _ _ _ (List.set G 84 (za 2000 (zu A_tape (m_taped + i_) (A_ready i_)))) 53 [some (vR 80), some (vz n_), some (vz i_)] [] _
      rw [← eG2]
      refine zz_iinc d_MO_end_53 rfl (Nat.le_of_ble_eq_true rfl) (Nat.le_of_ble_eq_true rfl) rfl ?_
      change ab_W _ _ _ G2 56 [some (vR 80), some (vz n_), some (vz (i_ + 1))] [] _
      refine ab_goto (tgt := 31) d_MO_end_56 (by decide) ?_
      exact ih (i_ := (i_ + 1)) (A_tape := (zu A_tape (m_taped + i_) (A_ready i_))) h80 h83 h84 (by omega) (rgs_zu jtp (by omega)) (apT_s jap (by omega) (by omega)) hfr hlen hsl (by omega) hk0
set_option maxRecDepth 100000 in
set_option maxHeartbeats 4000000 in
theorem xy_MO_end_71 {X : ab_X} {d : Nat} {Q : Outcome → ab_G → Prop} {o : Nat → Nat} {G0 : ab_G} {m_thrown : Int} {m_taped : Int} {m_length : Int} {m_out : Int} {m_wide : Int} {m_gathered : Int} {m_sets : Int} {m_ranges : Int} {m_nodes : Int} {m_at : Int} {m_flags : Int} {m_fault : Int} {m_place : Int} {m_numbered : Int} {m_depth : Int} {m_value : Int} {m_isNot : Int} {m_least0 : Int} {m_most0 : Int} {m_slot : Int} {m_work : Int} {m_got : Int} {m_rowMany : Int} {m_charAt : Int} {m_charWide : Int} {m_trail : Int} {m_isMatch : Int} {m_matchGroups : Int} {m_allFrom : Int} {m_allBefore : Int} {m_founds : Int} {m_pieces : Int} {m_writtenMany : Int} {m_templateWide : Int} {m_tooMuch : Int} (n18 : ab_n0 = 18) (hd : 1 ≤ d) : ∀ (mz : Nat) {G : ab_G} {i_ : Int} {A_ready : Int → Int}, (cc o G 80 280 (ab_ob 12 (mof m_thrown m_taped m_length m_out m_wide m_gathered m_sets m_ranges m_nodes m_at m_flags m_fault m_place m_numbered m_depth m_value m_isNot m_least0 m_most0 m_slot m_work m_got m_rowMany m_charAt m_charWide m_trail m_isMatch m_matchGroups m_allFrom m_allBefore m_founds m_pieces m_writtenMany m_templateWide m_tooMuch))) → (cc o G 83 283 (za 20 A_ready)) → (0 ≤ i_ ∧ i_ ≤ 20) → (rgs A_ready 20 0 255) → (zrI A_ready i_) → (fx o o [283] G0 G) → (G.length = G0.length) → (ab_slots G = ab_slots G0) → (Int.toNat (20 - i_) < mz) → (∀ (G2 : ab_G) (B_ready : Int → Int), (cc o G2 83 283 (za 20 B_ready)) → (rgs B_ready 20 0 255) → (zrI B_ready 20) → (fx o o [283] G0 G2) → (G2.length = G0.length) → (ab_slots G2 = ab_slots G0) → ab_W X (ab_pl y_MO_end b_MO_end 3 (some (.int))) d G2 90 [some (vR 80), none, none] [] Q) → ab_W X (ab_pl y_MO_end b_MO_end 3 (some (.int))) d G 71 [some (vR 80), none, some (vz i_)] [] Q := by
  intro mz
  induction mz with
  | zero => intro G i_ A_ready h80 h83 ci jry jzr hfr hlen hsl hm hk0; exact absurd hm (Nat.not_lt_zero _)
  | succ mz ih =>
    intro G i_ A_ready h80 h83 ci jry jzr hfr hlen hsl hm hk0
    refine ab_iload_n d_MO_end_71 rfl ?_
    refine zz_bipush d_MO_end_72 (by decide) ?_
    refine zz_icmp_ge (tgt := 90) d_MO_end_74 (by decide) (by omega) (by decide) (fun c1 => ?_) (fun c1 => ?_)
    · refine ab_less (L' := [some (vR 80), none, none]) (fun i v h => by rcases i with _ | _ | _ | i <;> first | exact h | (simp at h)) ?_
      exact hk0 _ _ h83 (by first | exact jry | exact rgs_w jry (by omega)) (by have t_ := jzr; rw [show i_ = 20 by omega] at t_; exact t_) hfr hlen hsl
    · refine ab_aload_n d_MO_end_77 rfl ?_
      refine ab_getf (fs := mof m_thrown m_taped m_length m_out m_wide m_gathered m_sets m_ranges m_nodes m_at m_flags m_fault m_place m_numbered m_depth m_value m_isNot m_least0 m_most0 m_slot m_work m_got m_rowMany m_charAt m_charWide m_trail m_isMatch m_matchGroups m_allFrom m_allBefore m_founds m_pieces m_writtenMany m_templateWide m_tooMuch) f_MO_16 d_MO_end_78 h80.2.2 rfl ?_
      refine ab_iload_n d_MO_end_81 rfl ?_
      refine zz_iconst d_MO_end_82 ?_
      refine zz_iast d_MO_end_83 h83 (by omega) (h83.2.1 (by decide)) ?_
      obtain ⟨G2, eG2⟩ : ∃ z : ab_G, z = List.set G 83 (za 20 (zu A_ready i_ 0)) := ⟨_, rfl⟩
      have h80 := h80.keep h83 eG2 (by decide)
      have hlen := (z_len eG2).trans hlen
      have hsl := (z_sl h83 eG2 rfl).trans hsl
      have hfr := hfr.wr h83 eG2 (by decide)
      have h83 := h83.kept eG2
      change ab_W _ _ _ (List.set G 83 (za 20 (zu A_ready i_ 0))) 84 [some (vR 80), none, some (vz i_)] [] _
      rw [← eG2]
      refine zz_iinc d_MO_end_84 rfl (Nat.le_of_ble_eq_true rfl) (Nat.le_of_ble_eq_true rfl) rfl ?_
      change ab_W _ _ _ G2 87 [some (vR 80), none, some (vz (i_ + 1))] [] _
      refine ab_goto (tgt := 71) d_MO_end_87 (by decide) ?_
      exact ih (i_ := (i_ + 1)) (A_ready := (zu A_ready i_ 0)) h80 h83 (by omega) (rgs_zu jry (by omega)) (zrI_s jzr) hfr hlen hsl (by omega) hk0
set_option maxRecDepth 100000 in
set_option maxHeartbeats 4000000 in
theorem x_MO_end {X : ab_X} {d : Nat} {o : Nat → Nat} {G : ab_G} {m_thrown : Int} {m_taped : Int} {m_length : Int} {m_out : Int} {m_wide : Int} {m_gathered : Int} {m_sets : Int} {m_ranges : Int} {m_nodes : Int} {m_at : Int} {m_flags : Int} {m_fault : Int} {m_place : Int} {m_numbered : Int} {m_depth : Int} {m_value : Int} {m_isNot : Int} {m_least0 : Int} {m_most0 : Int} {m_slot : Int} {m_work : Int} {m_got : Int} {m_rowMany : Int} {m_charAt : Int} {m_charWide : Int} {m_trail : Int} {m_isMatch : Int} {m_matchGroups : Int} {m_allFrom : Int} {m_allBefore : Int} {m_founds : Int} {m_pieces : Int} {m_writtenMany : Int} {m_templateWide : Int} {m_tooMuch : Int} {A_ready : Int → Int} {A_tape : Int → Int} {n_ : Int} (h80 : cc o G 80 280 (ab_ob 12 (mof m_thrown m_taped m_length m_out m_wide m_gathered m_sets m_ranges m_nodes m_at m_flags m_fault m_place m_numbered m_depth m_value m_isNot m_least0 m_most0 m_slot m_work m_got m_rowMany m_charAt m_charWide m_trail m_isMatch m_matchGroups m_allFrom m_allBefore m_founds m_pieces m_writtenMany m_templateWide m_tooMuch))) (h83 : cc o G 83 283 (za 20 A_ready)) (h84 : cc o G 84 284 (za 2000 A_tape)) (n18 : ab_n0 = 18) (cr : -2147483648 ≤ n_ ∧ n_ ≤ 2147483647) (jry : rgs A_ready 20 0 255) (jtp : rgs A_tape 2000 0 255) (cta : 0 ≤ m_taped ∧ m_taped ≤ 2000) (hd : 2 ≤ d) : ab_F X d y_MO_end (.code y_MO_end b_MO_end 3 (some (.int))) [vR 80, vz n_] G (fun oc G2 => (oc = .returned (some (vz (-1))) ∧ fx o o [280, 283, 284] G G2 ∧ G2.length = G.length ∧ ab_slots G2 = ab_slots G ∧ cc o G2 80 280 (ab_ob 12 (mof 0 m_taped m_length m_out m_wide m_gathered m_sets m_ranges m_nodes m_at m_flags m_fault m_place m_numbered m_depth m_value m_isNot m_least0 m_most0 m_slot m_work m_got m_rowMany m_charAt m_charWide m_trail m_isMatch m_matchGroups m_allFrom m_allBefore m_founds m_pieces m_writtenMany m_templateWide m_tooMuch)) ∧ cc o G2 83 283 (za 20 A_ready) ∧ cc o G2 84 284 (za 2000 A_tape) ∧ (n_ < 0 ∨ 20 < n_ ∨ 2000 < m_taped + n_)) ∨ (∃ B_ready : Int → Int, ∃ B_tape : Int → Int, oc = .returned (some (vz (m_taped + n_))) ∧ fx o o [280, 283, 284] G G2 ∧ G2.length = G.length ∧ ab_slots G2 = ab_slots G ∧ cc o G2 80 280 (ab_ob 12 (mof 0 (m_taped + n_) m_length m_out m_wide m_gathered m_sets m_ranges m_nodes m_at m_flags m_fault m_place m_numbered m_depth m_value m_isNot m_least0 m_most0 m_slot m_work m_got m_rowMany m_charAt m_charWide m_trail m_isMatch m_matchGroups m_allFrom m_allBefore m_founds m_pieces m_writtenMany m_templateWide m_tooMuch)) ∧ cc o G2 83 283 (za 20 B_ready) ∧ cc o G2 84 284 (za 2000 B_tape) ∧ (0 ≤ n_ ∧ n_ ≤ 20 ∧ 0 ≤ m_taped + n_ ∧ m_taped + n_ ≤ 2000) ∧ (rgs B_ready 20 0 255) ∧ (rgs B_tape 2000 0 255) ∧ (apT A_tape B_tape A_ready m_taped n_) ∧ (zrI B_ready 20))) := by
  refine ab_F_of (by decide +kernel) (Nat.le_of_ble_eq_true rfl) ?_
  obtain ⟨Q, hQ⟩ : ∃ z : Outcome → ab_G → Prop, z = (fun oc G2 => (oc = .returned (some (vz (-1))) ∧ fx o o [280, 283, 284] G G2 ∧ G2.length = G.length ∧ ab_slots G2 = ab_slots G ∧ cc o G2 80 280 (ab_ob 12 (mof 0 m_taped m_length m_out m_wide m_gathered m_sets m_ranges m_nodes m_at m_flags m_fault m_place m_numbered m_depth m_value m_isNot m_least0 m_most0 m_slot m_work m_got m_rowMany m_charAt m_charWide m_trail m_isMatch m_matchGroups m_allFrom m_allBefore m_founds m_pieces m_writtenMany m_templateWide m_tooMuch)) ∧ cc o G2 83 283 (za 20 A_ready) ∧ cc o G2 84 284 (za 2000 A_tape) ∧ (n_ < 0 ∨ 20 < n_ ∨ 2000 < m_taped + n_)) ∨ (∃ B_ready : Int → Int, ∃ B_tape : Int → Int, oc = .returned (some (vz (m_taped + n_))) ∧ fx o o [280, 283, 284] G G2 ∧ G2.length = G.length ∧ ab_slots G2 = ab_slots G ∧ cc o G2 80 280 (ab_ob 12 (mof 0 (m_taped + n_) m_length m_out m_wide m_gathered m_sets m_ranges m_nodes m_at m_flags m_fault m_place m_numbered m_depth m_value m_isNot m_least0 m_most0 m_slot m_work m_got m_rowMany m_charAt m_charWide m_trail m_isMatch m_matchGroups m_allFrom m_allBefore m_founds m_pieces m_writtenMany m_templateWide m_tooMuch)) ∧ cc o G2 83 283 (za 20 B_ready) ∧ cc o G2 84 284 (za 2000 B_tape) ∧ (0 ≤ n_ ∧ n_ ≤ 20 ∧ 0 ≤ m_taped + n_ ∧ m_taped + n_ ≤ 2000) ∧ (rgs B_ready 20 0 255) ∧ (rgs B_tape 2000 0 255) ∧ (apT A_tape B_tape A_ready m_taped n_) ∧ (zrI B_ready 20))) := ⟨_, rfl⟩
  rw [← hQ]
  change ab_W X (ab_pl y_MO_end b_MO_end 3 (some (.int))) d G 0 [some (vR 80), some (vz n_), none] [] Q
  have hfr : fx o o [280, 283, 284] G G := fx.rf
  have hlen : G.length = G.length := rfl
  have hsl : ab_slots G = ab_slots G := rfl
  refine ab_aload_n d_MO_end_0 rfl ?_
  refine zz_iconst d_MO_end_1 ?_
  refine ab_putf (fs := mof m_thrown m_taped m_length m_out m_wide m_gathered m_sets m_ranges m_nodes m_at m_flags m_fault m_place m_numbered m_depth m_value m_isNot m_least0 m_most0 m_slot m_work m_got m_rowMany m_charAt m_charWide m_trail m_isMatch m_matchGroups m_allFrom m_allBefore m_founds m_pieces m_writtenMany m_templateWide m_tooMuch) f_MO_220 (Or.inl rfl) d_MO_end_2 h80.2.2 (Nat.le_of_ble_eq_true rfl) (fun _ => ⟨rfl, rfl⟩) (h80.2.1 (by decide)) ?_
  obtain ⟨G1, eG1⟩ : ∃ z : ab_G, z = List.set G 80 (ab_ob 12 (mof 0 m_taped m_length m_out m_wide m_gathered m_sets m_ranges m_nodes m_at m_flags m_fault m_place m_numbered m_depth m_value m_isNot m_least0 m_most0 m_slot m_work m_got m_rowMany m_charAt m_charWide m_trail m_isMatch m_matchGroups m_allFrom m_allBefore m_founds m_pieces m_writtenMany m_templateWide m_tooMuch)) := ⟨_, rfl⟩
  have h83 := h83.keep h80 eG1 (by decide)
  have h84 := h84.keep h80 eG1 (by decide)
  have hlen := (z_len eG1).trans hlen
  have hsl := (z_sl h80 eG1 rfl).trans hsl
  have hfr := hfr.wr h80 eG1 (by decide)
  have h80 := h80.kept eG1
  change ab_W _ _ _ (List.set G 80 (ab_ob 12 (mof 0 m_taped m_length m_out m_wide m_gathered m_sets m_ranges m_nodes m_at m_flags m_fault m_place m_numbered m_depth m_value m_isNot m_least0 m_most0 m_slot m_work m_got m_rowMany m_charAt m_charWide m_trail m_isMatch m_matchGroups m_allFrom m_allBefore m_founds m_pieces m_writtenMany m_templateWide m_tooMuch))) 5 [some (vR 80), some (vz n_), none] [] _
  rw [← eG1]
  refine ab_iload_n d_MO_end_5 rfl ?_
  refine zz_if_lt (tgt := 27) d_MO_end_6 (by decide) (by omega) (fun c2 => ?_) (fun c2 => ?_)
  · refine zz_iconst d_MO_end_27 ?_
    refine zz_iret rfl d_MO_end_28 ?_
    rw [hQ]; exact (Or.inl ⟨rfl, hfr, hlen, hsl, h80, h83, h84, (by omega)⟩)
  · refine ab_iload_n d_MO_end_9 rfl ?_
    refine zz_bipush d_MO_end_10 (by decide) ?_
    refine zz_icmp_gt (tgt := 27) d_MO_end_12 (by decide) (by omega) (by decide) (fun c3 => ?_) (fun c3 => ?_)
    · refine zz_iconst d_MO_end_27 ?_
      refine zz_iret rfl d_MO_end_28 ?_
      rw [hQ]; exact (Or.inl ⟨rfl, hfr, hlen, hsl, h80, h83, h84, (by omega)⟩)
    · refine ab_aload_n d_MO_end_15 rfl ?_
      refine ab_getf (fs := mof 0 m_taped m_length m_out m_wide m_gathered m_sets m_ranges m_nodes m_at m_flags m_fault m_place m_numbered m_depth m_value m_isNot m_least0 m_most0 m_slot m_work m_got m_rowMany m_charAt m_charWide m_trail m_isMatch m_matchGroups m_allFrom m_allBefore m_founds m_pieces m_writtenMany m_templateWide m_tooMuch) f_MO_223 d_MO_end_16 h80.2.2 rfl ?_
      refine ab_iload_n d_MO_end_19 rfl ?_
      refine zz_iadd d_MO_end_20 ?_
      refine zz_sipush d_MO_end_21 (by decide) ?_
      refine zz_icmp_le (tgt := 29) d_MO_end_24 (by decide) (by omega) (by decide) (fun c4 => ?_) (fun c4 => ?_)
      · refine zz_iconst d_MO_end_29 ?_
        refine ab_istore_n d_MO_end_30 (Nat.le_of_ble_eq_true rfl) (Nat.le_of_ble_eq_true rfl) rfl ?_
        change ab_W _ _ _ G1 31 [some (vR 80), some (vz n_), some (vz 0)] [] _
        refine xy_MO_end_31 (m_thrown := 0) (m_taped := m_taped) (m_length := m_length) (m_out := m_out) (m_wide := m_wide) (m_gathered := m_gathered) (m_sets := m_sets) (m_ranges := m_ranges) (m_nodes := m_nodes) (m_at := m_at) (m_flags := m_flags) (m_fault := m_fault) (m_place := m_place) (m_numbered := m_numbered) (m_depth := m_depth) (m_value := m_value) (m_isNot := m_isNot) (m_least0 := m_least0) (m_most0 := m_most0) (m_slot := m_slot) (m_work := m_work) (m_got := m_got) (m_rowMany := m_rowMany) (m_charAt := m_charAt) (m_charWide := m_charWide) (m_trail := m_trail) (m_isMatch := m_isMatch) (m_matchGroups := m_matchGroups) (m_allFrom := m_allFrom) (m_allBefore := m_allBefore) (m_founds := m_founds) (m_pieces := m_pieces) (m_writtenMany := m_writtenMany) (m_templateWide := m_templateWide) (m_tooMuch := m_tooMuch) (A_ready := A_ready) (n_ := n_) (TP0 := A_tape) (G0 := G1) (i_ := 0) (A_tape := A_tape) (by omega) jry (by omega) (by omega) (Int.toNat (n_ - 0) + 1) h80 h83 h84 (by omega) jtp apT_0 fx.rf rfl rfl (by omega) (fun G5 B_tape6 hN84 hq7 hq8 hfk hlk hsk => ?_)
        · have h80 := hfk.get h80 (by decide)
          have h83 := hfk.get h83 (by decide)
          have hfr := hfr.tr hfk (by decide)
          have hlen := hlk.trans hlen
          have hsl := hsk.trans hsl
          have h84 := hN84
          change ab_W _ _ _ G5 59 [some (vR 80), some (vz n_), none] [] _
          refine ab_aload_n d_MO_end_59 rfl ?_
          refine ab_dup d_MO_end_60 rfl ?_
          refine ab_getf (fs := mof 0 m_taped m_length m_out m_wide m_gathered m_sets m_ranges m_nodes m_at m_flags m_fault m_place m_numbered m_depth m_value m_isNot m_least0 m_most0 m_slot m_work m_got m_rowMany m_charAt m_charWide m_trail m_isMatch m_matchGroups m_allFrom m_allBefore m_founds m_pieces m_writtenMany m_templateWide m_tooMuch) f_MO_223 d_MO_end_61 h80.2.2 rfl ?_
          refine ab_iload_n d_MO_end_64 rfl ?_
          refine zz_iadd d_MO_end_65 ?_
          refine ab_putf (fs := mof 0 m_taped m_length m_out m_wide m_gathered m_sets m_ranges m_nodes m_at m_flags m_fault m_place m_numbered m_depth m_value m_isNot m_least0 m_most0 m_slot m_work m_got m_rowMany m_charAt m_charWide m_trail m_isMatch m_matchGroups m_allFrom m_allBefore m_founds m_pieces m_writtenMany m_templateWide m_tooMuch) f_MO_223 (Or.inl rfl) d_MO_end_66 h80.2.2 (Nat.le_of_ble_eq_true rfl) (fun _ => ⟨rfl, rfl⟩) (h80.2.1 (by decide)) ?_
          obtain ⟨G9, eG9⟩ : ∃ z : ab_G, z = List.set G5 80 (ab_ob 12 (mof 0 (m_taped + n_) m_length m_out m_wide m_gathered m_sets m_ranges m_nodes m_at m_flags m_fault m_place m_numbered m_depth m_value m_isNot m_least0 m_most0 m_slot m_work m_got m_rowMany m_charAt m_charWide m_trail m_isMatch m_matchGroups m_allFrom m_allBefore m_founds m_pieces m_writtenMany m_templateWide m_tooMuch)) := ⟨_, rfl⟩
          have h83 := h83.keep h80 eG9 (by decide)
          have h84 := h84.keep h80 eG9 (by decide)
          have hlen := (z_len eG9).trans hlen
          have hsl := (z_sl h80 eG9 rfl).trans hsl
          have hfr := hfr.wr h80 eG9 (by decide)
          have h80 := h80.kept eG9
          change ab_W _ _ _ (List.set G5 80 (ab_ob 12 (mof 0 (m_taped + n_) m_length m_out m_wide m_gathered m_sets m_ranges m_nodes m_at m_flags m_fault m_place m_numbered m_depth m_value m_isNot m_least0 m_most0 m_slot m_work m_got m_rowMany m_charAt m_charWide m_trail m_isMatch m_matchGroups m_allFrom m_allBefore m_founds m_pieces m_writtenMany m_templateWide m_tooMuch))) 69 [some (vR 80), some (vz n_), none] [] _
          rw [← eG9]
          refine zz_iconst d_MO_end_69 ?_
          refine ab_istore_n d_MO_end_70 (Nat.le_of_ble_eq_true rfl) (Nat.le_of_ble_eq_true rfl) rfl ?_
          change ab_W _ _ _ G9 71 [some (vR 80), some (vz n_), some (vz 0)] [] _
          refine ab_less (L' := [some (vR 80), none, some (vz 0)]) (fun i v h => by rcases i with _ | _ | _ | i <;> first | exact h | (simp at h)) ?_
          refine xy_MO_end_71 (m_thrown := 0) (m_taped := (m_taped + n_)) (m_length := m_length) (m_out := m_out) (m_wide := m_wide) (m_gathered := m_gathered) (m_sets := m_sets) (m_ranges := m_ranges) (m_nodes := m_nodes) (m_at := m_at) (m_flags := m_flags) (m_fault := m_fault) (m_place := m_place) (m_numbered := m_numbered) (m_depth := m_depth) (m_value := m_value) (m_isNot := m_isNot) (m_least0 := m_least0) (m_most0 := m_most0) (m_slot := m_slot) (m_work := m_work) (m_got := m_got) (m_rowMany := m_rowMany) (m_charAt := m_charAt) (m_charWide := m_charWide) (m_trail := m_trail) (m_isMatch := m_isMatch) (m_matchGroups := m_matchGroups) (m_allFrom := m_allFrom) (m_allBefore := m_allBefore) (m_founds := m_founds) (m_pieces := m_pieces) (m_writtenMany := m_writtenMany) (m_templateWide := m_templateWide) (m_tooMuch := m_tooMuch) (G0 := G9) (i_ := 0) (A_ready := A_ready) (by omega) (by omega) (Int.toNat (20 - 0) + 1) h80 h83 (by omega) jry zrI_0 fx.rf rfl rfl (by omega) (fun G10 B_ready11 hN83 hq12 hq13 hfk hlk hsk => ?_)
          · have h80 := hfk.get h80 (by decide)
            have h84 := hfk.get h84 (by decide)
            have hfr := hfr.tr hfk (by decide)
            have hlen := hlk.trans hlen
            have hsl := hsk.trans hsl
            have h83 := hN83
            change ab_W _ _ _ G10 90 [some (vR 80), none, none] [] _
            refine ab_aload_n d_MO_end_90 rfl ?_
            refine ab_getf (fs := mof 0 (m_taped + n_) m_length m_out m_wide m_gathered m_sets m_ranges m_nodes m_at m_flags m_fault m_place m_numbered m_depth m_value m_isNot m_least0 m_most0 m_slot m_work m_got m_rowMany m_charAt m_charWide m_trail m_isMatch m_matchGroups m_allFrom m_allBefore m_founds m_pieces m_writtenMany m_templateWide m_tooMuch) f_MO_223 d_MO_end_91 h80.2.2 rfl ?_
            refine zz_iret rfl d_MO_end_94 ?_
            rw [hQ]; exact (Or.inr ⟨_, _, rfl, hfr, hlen, hsl, h80, h83, h84, (by omega), (by first | exact hq12 | exact rgs_w hq12 (by omega)), (by first | exact hq7 | exact rgs_w hq7 (by omega)), (by exact hq8), (by exact hq13)⟩)
      · refine zz_iconst d_MO_end_27 ?_
        refine zz_iret rfl d_MO_end_28 ?_
        rw [hQ]; exact (Or.inl ⟨rfl, hfr, hlen, hsl, h80, h83, h84, (by omega)⟩)
