set_option maxRecDepth 100000 in
set_option maxHeartbeats 4000000 in
theorem y_MO_openRound_15 {X : ab_X} {d : Nat} {Q : Outcome → ab_G → Prop} {o : Nat → Nat} {G0 : ab_G} {m_thrown : Int} {m_taped : Int} {m_length : Int} {m_out : Int} {m_wide : Int} {m_gathered : Int} {m_sets : Int} {m_ranges : Int} {m_nodes : Int} {m_at : Int} {m_flags : Int} {m_fault : Int} {m_place : Int} {m_numbered : Int} {m_depth : Int} {m_value : Int} {m_isNot : Int} {m_least0 : Int} {m_most0 : Int} {m_slot : Int} {m_work : Int} {m_got : Int} {m_rowMany : Int} {m_charAt : Int} {m_charWide : Int} {m_trail : Int} {m_isMatch : Int} {m_matchGroups : Int} {m_allFrom : Int} {m_allBefore : Int} {m_founds : Int} {m_pieces : Int} {m_writtenMany : Int} {m_templateWide : Int} {m_tooMuch : Int} {CA : Int → Int} {CM : Int → Int} {CL : Int → Int} {CH : Int → Int} {T0 : Int → Int} {N0 : Int → Int} {W0 : Int → Int} {SN0 : Int → Int} {RO0 : Int → Int} {SM : Int → Int} {SA : Int → Int} {RL : Int → Int} {RH : Int → Int} {dp : Int} {r : Int} {n0 : Int} {w : Int} {ns : Int} {cl : Int} (n18 : ab_n0 = 18) (csl : 0 ≤ m_slot ∧ m_slot ≤ 5) (ch : 0 ≤ dp ∧ dp ≤ 30 ∧ 0 ≤ r ∧ r + 32 ≤ 40000 ∧ 0 ≤ n0 ∧ n0 + dp + 1 ≤ 12500) (hd : 2 ≤ d) : ∀ (mz : Nat) {G : ab_G} {i_ : Int} {RO : Int → Int} {T : Int → Int} {N : Int → Int} {W : Int → Int} {SN : Int → Int}, (cc o G 80 280 (ab_ob 12 (mof m_thrown m_taped m_length m_out m_wide m_gathered m_sets m_ranges m_nodes m_at m_flags m_fault m_place m_numbered m_depth m_value m_isNot m_least0 m_most0 m_slot m_work m_got m_rowMany m_charAt m_charWide m_trail m_isMatch m_matchGroups m_allFrom m_allBefore m_founds m_pieces m_writtenMany m_templateWide m_tooMuch))) → (cc o G 133 333 (za 40000 RO)) → (cc o G 118 318 (za 75000 T)) → (cc o G 119 319 (za 75000 N)) → (cc o G 120 320 (za 75000 W)) → (cc o G 117 317 (za 6 SN)) → (0 ≤ i_ ∧ i_ ≤ dp + 1 ∧ (SN m_slot) = n0 + i_) → (rgs RO 40000 0 12499) → (rgs T 75000 0 6) → (rgs N 75000 (-1) 12499) → (rgs W 75000 (-1) 12499) → (rgs SN 6 0 12500) → (rsq RO r i_ n0) → (rsm RO0 RO r) → (spl T (12500 * m_slot) n0 (SN m_slot)) → (stx T0 N0 W0 CA CM T N W CA CM (12500 * m_slot) n0) → (sno SN0 SN m_slot) → (tka T W CA CM SM SA RL RH CL CH (12500 * m_slot) (SN m_slot) m_slot cl ns) → (fx o o [333, 318, 319, 320, 317] G0 G) → (G.length = G0.length) → (ab_slots G = ab_slots G0) → (Int.toNat (dp + 1 - i_) < mz) → (∀ (G2 : ab_G) (RO2 : Int → Int) (T2 : Int → Int) (N2 : Int → Int) (W2 : Int → Int) (SN2 : Int → Int), (cc o G2 133 333 (za 40000 RO2)) → (cc o G2 118 318 (za 75000 T2)) → (cc o G2 119 319 (za 75000 N2)) → (cc o G2 120 320 (za 75000 W2)) → (cc o G2 117 317 (za 6 SN2)) → (rgs RO2 40000 0 12499) → (rgs T2 75000 0 6) → (rgs N2 75000 (-1) 12499) → (rgs W2 75000 (-1) 12499) → (rgs SN2 6 0 12500) → (SN2 m_slot = n0 + dp + 1) → (rsq RO2 r (dp + 1) n0) → (rsm RO0 RO2 r) → (spl T2 (12500 * m_slot) n0 (SN2 m_slot)) → (stx T0 N0 W0 CA CM T2 N2 W2 CA CM (12500 * m_slot) n0) → (sno SN0 SN2 m_slot) → (tka T2 W2 CA CM SM SA RL RH CL CH (12500 * m_slot) (SN2 m_slot) m_slot cl ns) → (fx o o [333, 318, 319, 320, 317] G0 G2) → (G2.length = G0.length) → (ab_slots G2 = ab_slots G0) → ab_W X (ab_pl y_MO_openRound b_MO_openRound 6 none) d G2 43 [some (vR 80), some (vz w), some (vz dp), some (vz r), none, none] [] Q) → ab_W X (ab_pl y_MO_openRound b_MO_openRound 6 none) d G 15 [some (vR 80), some (vz w), some (vz dp), some (vz r), some (vz i_), none] [] Q := by
  intro mz
  induction mz with
  | zero => intro G i_ RO T N W SN h80 h133 h118 h119 h120 h117 ci gro gt gn gw gsn jr js jp jx jo jk hfr hlen hsl hm hk0; exact absurd hm (Nat.not_lt_zero _)
  | succ mz ih =>
    intro G i_ RO T N W SN h80 h133 h118 h119 h120 h117 ci gro gt gn gw gsn jr js jp jx jo jk hfr hlen hsl hm hk0
    refine ab_iload d_MO_openRound_15 rfl ?_
    refine ab_iload_n d_MO_openRound_17 rfl ?_
    refine zz_icmp_gt (tgt := 43) d_MO_openRound_18 (by decide) (by omega) (by omega) (fun c1 => ?_) (fun c1 => ?_)
    · refine ab_less (L' := [some (vR 80), some (vz w), some (vz dp), some (vz r), none, none]) (fun i v h => by rcases i with _ | _ | _ | _ | _ | _ | i <;> first | exact h | (simp at h)) ?_
      exact hk0 _ _ _ _ _ _ h133 h118 h119 h120 h117 (by first | exact gro | exact rgs_w gro (by omega)) (by first | exact gt | exact rgs_w gt (by omega)) (by first | exact gn | exact rgs_w gn (by omega)) (by first | exact gw | exact rgs_w gw (by omega)) (by first | exact gsn | exact rgs_w gsn (by omega)) (by omega) (by exact (show i_ = dp + 1 by omega) ▸ jr) (by exact js) (by exact jp) (by exact jx) (by exact jo) (by exact jk) hfr hlen hsl
    · refine ab_aload_n d_MO_openRound_21 rfl ?_
      refine ab_getf (fs := mof m_thrown m_taped m_length m_out m_wide m_gathered m_sets m_ranges m_nodes m_at m_flags m_fault m_place m_numbered m_depth m_value m_isNot m_least0 m_most0 m_slot m_work m_got m_rowMany m_charAt m_charWide m_trail m_isMatch m_matchGroups m_allFrom m_allBefore m_founds m_pieces m_writtenMany m_templateWide m_tooMuch) f_MO_174 d_MO_openRound_22 h80.2.2 rfl ?_
      refine ab_iload_n d_MO_openRound_25 rfl ?_
      refine ab_iload d_MO_openRound_26 rfl ?_
      refine zz_iadd d_MO_openRound_28 ?_
      refine ab_aload_n d_MO_openRound_29 rfl ?_
      refine zz_iconst d_MO_openRound_30 ?_
      refine zz_iconst d_MO_openRound_31 ?_
      refine zz_iconst d_MO_openRound_32 ?_
      refine ab_callV (d' := d - 1) (as := [vz 3, vz (-1), vz (-1)]) (st := [vz (r + i_), vR 133]) (r := _) (z_MO_addStep (o := o) (m_thrown := m_thrown) (m_taped := m_taped) (m_length := m_length) (m_out := m_out) (m_wide := m_wide) (m_gathered := m_gathered) (m_sets := m_sets) (m_ranges := m_ranges) (m_nodes := m_nodes) (m_at := m_at) (m_flags := m_flags) (m_fault := m_fault) (m_place := m_place) (m_numbered := m_numbered) (m_depth := m_depth) (m_value := m_value) (m_isNot := m_isNot) (m_least0 := m_least0) (m_most0 := m_most0) (m_slot := m_slot) (m_work := m_work) (m_got := m_got) (m_rowMany := m_rowMany) (m_charAt := m_charAt) (m_charWide := m_charWide) (m_trail := m_trail) (m_isMatch := m_isMatch) (m_matchGroups := m_matchGroups) (m_allFrom := m_allFrom) (m_allBefore := m_allBefore) (m_founds := m_founds) (m_pieces := m_pieces) (m_writtenMany := m_writtenMany) (m_templateWide := m_templateWide) (m_tooMuch := m_tooMuch) (T := T) (N := N) (W := W) (SN := SN) (k := 3) (x := (-1)) (y := (-1)) h80 h118 h119 h120 h117 (by omega) (by omega) (by omega)) (fun oc G2 h => by rcases h with ⟨h, _⟩ <;> exact ⟨_, h⟩) (by omega) m_MO_addStep ml_MO_441 im_MO_addStep se_MO_addStep c_MO h80.2.2 (Nat.le_of_ble_eq_true rfl) d_MO_openRound_33 rfl ?_
      intro v G2 hq
      rcases hq with ⟨hv, hfk, hlk, hsk, hN118, hN119, hN120, hN117⟩
      cases hv
      have h80 := hfk.get h80 (by decide)
      have h133 := hfk.get h133 (by decide)
      have hfr := hfr.tr hfk (by decide)
      have hlen := hlk.trans hlen
      have hsl := hsk.trans hsl
      have h118 := hN118
      have h119 := hN119
      have h120 := hN120
      have h117 := hN117
      change ab_W _ _ _ G2 36 [some (vR 80), some (vz w), some (vz dp), some (vz r), some (vz i_), none] [vz (SN m_slot), vz (r + i_), vR 133] _
      have hsn_ : zu SN m_slot ((SN m_slot) + 1) m_slot = (SN m_slot) + 1 := zu_self _ _ _
      refine zz_iast d_MO_openRound_36 h133 (by omega) (h133.2.1 (by decide)) ?_
      obtain ⟨G3, eG3⟩ : ∃ z : ab_G, z = List.set G2 133 (za 40000 (zu RO (r + i_) (SN m_slot))) := ⟨_, rfl⟩
      have h80 := h80.keep h133 eG3 (by decide)
      have h118 := h118.keep h133 eG3 (by decide)
      have h119 := h119.keep h133 eG3 (by decide)
      have h120 := h120.keep h133 eG3 (by decide)
      have h117 := h117.keep h133 eG3 (by decide)
      have hlen := (z_len eG3).trans hlen
      have hsl := (z_sl h133 eG3 rfl).trans hsl
      have hfr := hfr.wr h133 eG3 (by decide)
      have h133 := h133.kept eG3
      change ab_W _ _ _ (List.set G2 133 (za 40000 (zu RO (r + i_) (SN m_slot)))) 37 [some (vR 80), some (vz w), some (vz dp), some (vz r), some (vz i_), none] [] _
      rw [← eG3]
      refine zz_iinc d_MO_openRound_37 rfl (Nat.le_of_ble_eq_true rfl) (Nat.le_of_ble_eq_true rfl) rfl ?_
      change ab_W _ _ _ G3 40 [some (vR 80), some (vz w), some (vz dp), some (vz r), some (vz (i_ + 1)), none] [] _
      refine ab_goto (tgt := 15) d_MO_openRound_40 (by decide) ?_
      exact ih (i_ := (i_ + 1)) (RO := (zu RO (r + i_) (SN m_slot))) (T := (zu T ((12500 * m_slot) + (SN m_slot)) 3)) (N := (zu N ((12500 * m_slot) + (SN m_slot)) (-1))) (W := (zu W ((12500 * m_slot) + (SN m_slot)) (-1))) (SN := (zu SN m_slot ((SN m_slot) + 1))) h80 h133 h118 h119 h120 h117 (by omega) (rgs_zu gro (by omega)) (rgs_zu gt (by omega)) (rgs_zu gn (by omega)) (rgs_zu gw (by omega)) (rgs_zu gsn (by omega)) (rsq_s jr (by omega) (by omega)) (rsm_wr js (by omega)) (by rw [hsn_]; exact spl_s jp) (stx_add jx (by omega)) (sno_wr jo) (by rw [hsn_]; exact tka_add (k2 := 0) jk (by decide)) hfr hlen hsl (by omega) hk0
set_option maxRecDepth 100000 in
set_option maxHeartbeats 4000000 in
theorem y_MO_openRound_66 {X : ab_X} {d : Nat} {Q : Outcome → ab_G → Prop} {o : Nat → Nat} {G0 : ab_G} {m_thrown : Int} {m_taped : Int} {m_length : Int} {m_out : Int} {m_wide : Int} {m_gathered : Int} {m_sets : Int} {m_ranges : Int} {m_nodes : Int} {m_at : Int} {m_flags : Int} {m_fault : Int} {m_place : Int} {m_numbered : Int} {m_depth : Int} {m_value : Int} {m_isNot : Int} {m_least0 : Int} {m_most0 : Int} {m_slot : Int} {m_work : Int} {m_got : Int} {m_rowMany : Int} {m_charAt : Int} {m_charWide : Int} {m_trail : Int} {m_isMatch : Int} {m_matchGroups : Int} {m_allFrom : Int} {m_allBefore : Int} {m_founds : Int} {m_pieces : Int} {m_writtenMany : Int} {m_templateWide : Int} {m_tooMuch : Int} {RO0 : Int → Int} {dp : Int} {r : Int} {y : Int} {w : Int} {nn : Int} (n18 : ab_n0 = 18) (ch : 0 ≤ dp ∧ dp ≤ 30 ∧ 0 ≤ y ∧ y + 32 ≤ 40000 ∧ 2 ≤ nn) (hd : 1 ≤ d) : ∀ (mz : Nat) {G : ab_G} {i_ : Int} {RO : Int → Int}, (cc o G 80 280 (ab_ob 12 (mof m_thrown m_taped m_length m_out m_wide m_gathered m_sets m_ranges m_nodes m_at m_flags m_fault m_place m_numbered m_depth m_value m_isNot m_least0 m_most0 m_slot m_work m_got m_rowMany m_charAt m_charWide m_trail m_isMatch m_matchGroups m_allFrom m_allBefore m_founds m_pieces m_writtenMany m_templateWide m_tooMuch))) → (cc o G 133 333 (za 40000 RO)) → (0 ≤ i_ ∧ i_ ≤ dp + 1) → (rgs RO 40000 0 12499) → (rokk RO y i_ nn) → (rsm RO0 RO y) → (rAl RO y i_ 1) → (fx o o [333] G0 G) → (G.length = G0.length) → (ab_slots G = ab_slots G0) → (Int.toNat (dp + 1 - i_) < mz) → (∀ (G2 : ab_G) (RO2 : Int → Int), (cc o G2 133 333 (za 40000 RO2)) → (rgs RO2 40000 0 12499) → (rokk RO2 y (dp + 1) nn) → (rsm RO0 RO2 y) → (rAl RO2 y (dp + 1) 1) → (fx o o [333] G0 G2) → (G2.length = G0.length) → (ab_slots G2 = ab_slots G0) → ab_W X (ab_pl y_MO_openRound b_MO_openRound 6 none) d G2 89 [some (vR 80), some (vz w), some (vz dp), some (vz r), some (vz y), none] [] Q) → ab_W X (ab_pl y_MO_openRound b_MO_openRound 6 none) d G 66 [some (vR 80), some (vz w), some (vz dp), some (vz r), some (vz y), some (vz i_)] [] Q := by
  intro mz
  induction mz with
  | zero => intro G i_ RO h80 h133 ci gro jr js ja hfr hlen hsl hm hk0; exact absurd hm (Nat.not_lt_zero _)
  | succ mz ih =>
    intro G i_ RO h80 h133 ci gro jr js ja hfr hlen hsl hm hk0
    refine ab_iload d_MO_openRound_66 rfl ?_
    refine ab_iload_n d_MO_openRound_68 rfl ?_
    refine zz_icmp_gt (tgt := 89) d_MO_openRound_69 (by decide) (by omega) (by omega) (fun c1 => ?_) (fun c1 => ?_)
    · refine ab_less (L' := [some (vR 80), some (vz w), some (vz dp), some (vz r), some (vz y), none]) (fun i v h => by rcases i with _ | _ | _ | _ | _ | _ | i <;> first | exact h | (simp at h)) ?_
      exact hk0 _ _ h133 (by first | exact gro | exact rgs_w gro (by omega)) (by exact (show i_ = dp + 1 by omega) ▸ jr) (by exact js) (by exact (show i_ = dp + 1 by omega) ▸ ja) hfr hlen hsl
    · refine ab_aload_n d_MO_openRound_72 rfl ?_
      refine ab_getf (fs := mof m_thrown m_taped m_length m_out m_wide m_gathered m_sets m_ranges m_nodes m_at m_flags m_fault m_place m_numbered m_depth m_value m_isNot m_least0 m_most0 m_slot m_work m_got m_rowMany m_charAt m_charWide m_trail m_isMatch m_matchGroups m_allFrom m_allBefore m_founds m_pieces m_writtenMany m_templateWide m_tooMuch) f_MO_174 d_MO_openRound_73 h80.2.2 rfl ?_
      refine ab_iload d_MO_openRound_76 rfl ?_
      refine ab_iload d_MO_openRound_78 rfl ?_
      refine zz_iadd d_MO_openRound_80 ?_
      refine zz_iconst d_MO_openRound_81 ?_
      refine zz_iast d_MO_openRound_82 h133 (by omega) (h133.2.1 (by decide)) ?_
      obtain ⟨G2, eG2⟩ : ∃ z : ab_G, z = List.set G 133 (za 40000 (zu RO (y + i_) 1)) := ⟨_, rfl⟩
      have h80 := h80.keep h133 eG2 (by decide)
      have hlen := (z_len eG2).trans hlen
      have hsl := (z_sl h133 eG2 rfl).trans hsl
      have hfr := hfr.wr h133 eG2 (by decide)
      have h133 := h133.kept eG2
      change ab_W _ _ _ (List.set G 133 (za 40000 (zu RO (y + i_) 1))) 83 [some (vR 80), some (vz w), some (vz dp), some (vz r), some (vz y), some (vz i_)] [] _
      rw [← eG2]
      refine zz_iinc d_MO_openRound_83 rfl (Nat.le_of_ble_eq_true rfl) (Nat.le_of_ble_eq_true rfl) rfl ?_
      change ab_W _ _ _ G2 86 [some (vR 80), some (vz w), some (vz dp), some (vz r), some (vz y), some (vz (i_ + 1))] [] _
      refine ab_goto (tgt := 66) d_MO_openRound_86 (by decide) ?_
      exact ih (i_ := (i_ + 1)) (RO := (zu RO (y + i_) 1)) h80 h133 (by omega) (rgs_zu gro (by omega)) (rokk_s jr (by omega) (by omega)) (rsm_wr js (by omega)) (rAl_s ja (by omega) rfl) hfr hlen hsl (by omega) hk0
set_option maxRecDepth 100000 in
set_option maxHeartbeats 4000000 in
theorem z_MO_openRound {X : ab_X} {d : Nat} {o : Nat → Nat} {G : ab_G} {m_thrown : Int} {m_taped : Int} {m_length : Int} {m_out : Int} {m_wide : Int} {m_gathered : Int} {m_sets : Int} {m_ranges : Int} {m_nodes : Int} {m_at : Int} {m_flags : Int} {m_fault : Int} {m_place : Int} {m_numbered : Int} {m_depth : Int} {m_value : Int} {m_isNot : Int} {m_least0 : Int} {m_most0 : Int} {m_slot : Int} {m_work : Int} {m_got : Int} {m_rowMany : Int} {m_charAt : Int} {m_charWide : Int} {m_trail : Int} {m_isMatch : Int} {m_matchGroups : Int} {m_allFrom : Int} {m_allBefore : Int} {m_founds : Int} {m_pieces : Int} {m_writtenMany : Int} {m_templateWide : Int} {m_tooMuch : Int} {T : Int → Int} {N : Int → Int} {W : Int → Int} {CA : Int → Int} {CM : Int → Int} {CL : Int → Int} {CH : Int → Int} {SN : Int → Int} {CC : Int → Int} {RO : Int → Int} {WP : Int → Int} {WD : Int → Int} {WT : Int → Int} {WG : Int → Int} {WS : Int → Int} {K : Int → Int} {O : Int → Int} {Fi : Int → Int} {Be : Int → Int} {Le : Int → Int} {Mo : Int → Int} {Z : Int → Int} {LZ : Int → Int} {SM : Int → Int} {SA : Int → Int} {RL : Int → Int} {RH : Int → Int} {w : Int} {ns : Int} {nd : Int} (h80 : cc o G 80 280 (ab_ob 12 (mof m_thrown m_taped m_length m_out m_wide m_gathered m_sets m_ranges m_nodes m_at m_flags m_fault m_place m_numbered m_depth m_value m_isNot m_least0 m_most0 m_slot m_work m_got m_rowMany m_charAt m_charWide m_trail m_isMatch m_matchGroups m_allFrom m_allBefore m_founds m_pieces m_writtenMany m_templateWide m_tooMuch))) (h94 : cc o G 94 294 (za 4200 K)) (h95 : cc o G 95 295 (za 4200 O)) (h96 : cc o G 96 296 (za 4200 Fi)) (h97 : cc o G 97 297 (za 4200 Be)) (h98 : cc o G 98 298 (za 4200 Le)) (h99 : cc o G 99 299 (za 4200 Mo)) (h100 : cc o G 100 300 (zl 4200 Z)) (h101 : cc o G 101 301 (zb 4200 LZ)) (h90 : cc o G 90 290 (za 2100 SM)) (h89 : cc o G 89 289 (za 2100 SA)) (h91 : cc o G 91 291 (za 24000 RL)) (h92 : cc o G 92 292 (za 24000 RH)) (h118 : cc o G 118 318 (za 75000 T)) (h119 : cc o G 119 319 (za 75000 N)) (h120 : cc o G 120 320 (za 75000 W)) (h121 : cc o G 121 321 (za 75000 CA)) (h122 : cc o G 122 322 (za 75000 CM)) (h123 : cc o G 123 323 (za 3600 CL)) (h124 : cc o G 124 324 (za 3600 CH)) (h117 : cc o G 117 317 (za 6 SN)) (h125 : cc o G 125 325 (za 6 CC)) (h133 : cc o G 133 333 (za 40000 RO)) (h128 : cc o G 128 328 (za 300 WP)) (h129 : cc o G 129 329 (za 300 WD)) (h130 : cc o G 130 330 (za 300 WT)) (h131 : cc o G 131 331 (za 300 WG)) (h132 : cc o G 132 332 (za 300 WS)) (n18 : ab_n0 = 18) (csl : 0 ≤ m_slot ∧ m_slot ≤ 5) (jrl : rgs RL 24000 0 1114111) (jrh : rgs RH 24000 0 1114111) (jk : rgs K 4200 0 7) (jo : rgs O 4200 (-1) 3000) (jfi : rgs Fi 4200 (-1) 4199) (jbe : rgs Be 4200 (-1) 4199) (jle : rgs Le 4200 0 1000) (jmo : rgs Mo 4200 (-1) 1000) (jz : rgs Z 4200 (-1) 1000000000000) (jlz : rgs LZ 4200 0 1) (jsm : rgs SM 2100 0 24000) (jsa : rgs SA 2100 0 24000) (gt : rgs T 75000 0 6) (gn : rgs N 75000 (-1) 12499) (gw : rgs W 75000 (-1) 12499) (gca : rgs CA 75000 0 3600) (gcm : rgs CM 75000 0 24000) (gcl : rgs CL 3600 0 1114111) (gch : rgs CH 3600 0 1114111) (gsn : rgs SN 6 0 12500) (gcc : rgs CC 6 0 600) (gro : rgs RO 40000 0 12499) (gwp : rgs WP 300 0 4199) (gwd : rgs WD 300 0 31) (gwt : rgs WT 300 0 39968) (gwg : rgs WG 300 0 39968) (gws : rgs WS 300 0 4300) (jka : tka T W CA CM SM SA RL RH CL CH (12500 * m_slot) (SN m_slot) m_slot (CC m_slot) ns) (jss : sas SA SM ns) (cst : 0 ≤ m_rowMany ∧ m_rowMany ≤ 1250 ∧ 0 ≤ (SN m_slot) ∧ (SN m_slot) ≤ 12500 ∧ 0 ≤ ns ∧ ns ≤ 2100) (cw : 0 ≤ w ∧ m_work = w + 1 ∧ w < 299) (cx : 0 ≤ WP w ∧ WP w < nd ∧ 0 ≤ nd ∧ nd ≤ 4200 ∧ 0 ≤ WD w ∧ WD w ≤ 31 ∧ 0 ≤ WT w ∧ WT w + 32 ≤ 32 * m_rowMany) (ck : K (WP w) = 7) (cfi : 0 ≤ Fi (WP w) ∧ Fi (WP w) < nd) (clm : 0 ≤ Le (WP w) ∧ Le (WP w) ≤ 100 ∧ -1 ≤ Mo (WP w) ∧ Mo (WP w) ≤ 100) (cs0 : WS w = 0) (crs : m_rowMany ≤ 1248 ∧ 2 ≤ (SN m_slot) ∧ (SN m_slot) + WD w + 1 ≤ 12500 ∧ WD w ≤ 30) (hd : 4 ≤ d) : ab_F X d y_MO_openRound (.code y_MO_openRound b_MO_openRound 6 none) [vR 80, vz w] G (fun oc G2 => ∃ c2 : Int, ∃ t2 : Int, ∃ u2 : Int, ∃ WP2 : Int → Int, ∃ WD2 : Int → Int, ∃ WT2 : Int → Int, ∃ WG2 : Int → Int, ∃ WS2 : Int → Int, ∃ RO2 : Int → Int, ∃ T2 : Int → Int, ∃ N2 : Int → Int, ∃ W2 : Int → Int, ∃ SN2 : Int → Int, oc = .returned none ∧ fx o o [280, 328, 329, 330, 331, 332, 333, 318, 319, 320, 317] G G2 ∧ G2.length = G.length ∧ ab_slots G2 = ab_slots G ∧ cc o G2 80 280 (ab_ob 12 (mof m_thrown m_taped m_length m_out m_wide m_gathered m_sets m_ranges m_nodes m_at m_flags m_fault m_place m_numbered m_depth m_value m_isNot m_least0 m_most0 m_slot (m_work + 1) m_got ((m_rowMany + 1) + 1) m_charAt m_charWide m_trail m_isMatch m_matchGroups m_allFrom m_allBefore m_founds m_pieces m_writtenMany m_templateWide m_tooMuch)) ∧ cc o G2 128 328 (za 300 WP2) ∧ cc o G2 129 329 (za 300 WD2) ∧ cc o G2 130 330 (za 300 WT2) ∧ cc o G2 131 331 (za 300 WG2) ∧ cc o G2 132 332 (za 300 WS2) ∧ cc o G2 133 333 (za 40000 RO2) ∧ cc o G2 118 318 (za 75000 T2) ∧ cc o G2 119 319 (za 75000 N2) ∧ cc o G2 120 320 (za 75000 W2) ∧ cc o G2 117 317 (za 6 SN2) ∧ (rgs WP2 300 0 4199) ∧ (rgs WD2 300 0 31) ∧ (rgs WT2 300 0 39968) ∧ (rgs WG2 300 0 39968) ∧ (rgs WS2 300 0 4300) ∧ (fsm WP WD WT WG WS WP2 WD2 WT2 WG2 WS2 w) ∧ (WP2 m_work = c2) ∧ (WD2 m_work = WD w + 1) ∧ (WT2 m_work = t2) ∧ (WG2 m_work = t2) ∧ (WS2 m_work = 0) ∧ (WP2 w = WP w) ∧ (WD2 w = WD w) ∧ (WT2 w = WT w) ∧ (WG2 w = u2) ∧ (WS2 w = 1) ∧ (c2 = Fi (WP w)) ∧ (t2 = (32 * (m_rowMany + 1))) ∧ (u2 = (32 * m_rowMany)) ∧ (rgs RO2 40000 0 12499) ∧ (rgs T2 75000 0 6) ∧ (rgs N2 75000 (-1) 12499) ∧ (rgs W2 75000 (-1) 12499) ∧ (rgs SN2 6 0 12500) ∧ (SN2 m_slot = (SN m_slot) + WD w + 1) ∧ (rsm RO RO2 (32 * m_rowMany)) ∧ (rsq RO2 (32 * m_rowMany) (WD w + 1) (SN m_slot)) ∧ (rokk RO2 (32 * (m_rowMany + 1)) (WD w + 2) (SN2 m_slot)) ∧ (spl T2 (12500 * m_slot) (SN m_slot) (SN2 m_slot)) ∧ (stx T N W CA CM T2 N2 W2 CA CM (12500 * m_slot) (SN m_slot)) ∧ (sno SN SN2 m_slot) ∧ (tka T2 W2 CA CM SM SA RL RH CL CH (12500 * m_slot) (SN2 m_slot) m_slot (CC m_slot) ns) ∧ (rAl RO2 (32 * (m_rowMany + 1)) (WD w + 1) 1) ∧ (RO2 ((32 * (m_rowMany + 1)) + (WD w + 1)) = (SN m_slot) + WD w)) := by
  refine ab_F_of (by decide +kernel) (Nat.le_of_ble_eq_true rfl) ?_
  obtain ⟨Q, hQ⟩ : ∃ z : Outcome → ab_G → Prop, z = (fun oc G2 => ∃ c2 : Int, ∃ t2 : Int, ∃ u2 : Int, ∃ WP2 : Int → Int, ∃ WD2 : Int → Int, ∃ WT2 : Int → Int, ∃ WG2 : Int → Int, ∃ WS2 : Int → Int, ∃ RO2 : Int → Int, ∃ T2 : Int → Int, ∃ N2 : Int → Int, ∃ W2 : Int → Int, ∃ SN2 : Int → Int, oc = .returned none ∧ fx o o [280, 328, 329, 330, 331, 332, 333, 318, 319, 320, 317] G G2 ∧ G2.length = G.length ∧ ab_slots G2 = ab_slots G ∧ cc o G2 80 280 (ab_ob 12 (mof m_thrown m_taped m_length m_out m_wide m_gathered m_sets m_ranges m_nodes m_at m_flags m_fault m_place m_numbered m_depth m_value m_isNot m_least0 m_most0 m_slot (m_work + 1) m_got ((m_rowMany + 1) + 1) m_charAt m_charWide m_trail m_isMatch m_matchGroups m_allFrom m_allBefore m_founds m_pieces m_writtenMany m_templateWide m_tooMuch)) ∧ cc o G2 128 328 (za 300 WP2) ∧ cc o G2 129 329 (za 300 WD2) ∧ cc o G2 130 330 (za 300 WT2) ∧ cc o G2 131 331 (za 300 WG2) ∧ cc o G2 132 332 (za 300 WS2) ∧ cc o G2 133 333 (za 40000 RO2) ∧ cc o G2 118 318 (za 75000 T2) ∧ cc o G2 119 319 (za 75000 N2) ∧ cc o G2 120 320 (za 75000 W2) ∧ cc o G2 117 317 (za 6 SN2) ∧ (rgs WP2 300 0 4199) ∧ (rgs WD2 300 0 31) ∧ (rgs WT2 300 0 39968) ∧ (rgs WG2 300 0 39968) ∧ (rgs WS2 300 0 4300) ∧ (fsm WP WD WT WG WS WP2 WD2 WT2 WG2 WS2 w) ∧ (WP2 m_work = c2) ∧ (WD2 m_work = WD w + 1) ∧ (WT2 m_work = t2) ∧ (WG2 m_work = t2) ∧ (WS2 m_work = 0) ∧ (WP2 w = WP w) ∧ (WD2 w = WD w) ∧ (WT2 w = WT w) ∧ (WG2 w = u2) ∧ (WS2 w = 1) ∧ (c2 = Fi (WP w)) ∧ (t2 = (32 * (m_rowMany + 1))) ∧ (u2 = (32 * m_rowMany)) ∧ (rgs RO2 40000 0 12499) ∧ (rgs T2 75000 0 6) ∧ (rgs N2 75000 (-1) 12499) ∧ (rgs W2 75000 (-1) 12499) ∧ (rgs SN2 6 0 12500) ∧ (SN2 m_slot = (SN m_slot) + WD w + 1) ∧ (rsm RO RO2 (32 * m_rowMany)) ∧ (rsq RO2 (32 * m_rowMany) (WD w + 1) (SN m_slot)) ∧ (rokk RO2 (32 * (m_rowMany + 1)) (WD w + 2) (SN2 m_slot)) ∧ (spl T2 (12500 * m_slot) (SN m_slot) (SN2 m_slot)) ∧ (stx T N W CA CM T2 N2 W2 CA CM (12500 * m_slot) (SN m_slot)) ∧ (sno SN SN2 m_slot) ∧ (tka T2 W2 CA CM SM SA RL RH CL CH (12500 * m_slot) (SN2 m_slot) m_slot (CC m_slot) ns) ∧ (rAl RO2 (32 * (m_rowMany + 1)) (WD w + 1) 1) ∧ (RO2 ((32 * (m_rowMany + 1)) + (WD w + 1)) = (SN m_slot) + WD w)) := ⟨_, rfl⟩
  rw [← hQ]
  change ab_W X (ab_pl y_MO_openRound b_MO_openRound 6 none) d G 0 [some (vR 80), some (vz w), none, none, none, none] [] Q
  have hfr : fx o o [280, 328, 329, 330, 331, 332, 333, 318, 319, 320, 317] G G := fx.rf
  have hlen : G.length = G.length := rfl
  have hsl : ab_slots G = ab_slots G := rfl
  refine ab_aload_n d_MO_openRound_0 rfl ?_
  refine ab_getf (fs := mof m_thrown m_taped m_length m_out m_wide m_gathered m_sets m_ranges m_nodes m_at m_flags m_fault m_place m_numbered m_depth m_value m_isNot m_least0 m_most0 m_slot m_work m_got m_rowMany m_charAt m_charWide m_trail m_isMatch m_matchGroups m_allFrom m_allBefore m_founds m_pieces m_writtenMany m_templateWide m_tooMuch) f_MO_161 d_MO_openRound_1 h80.2.2 rfl ?_
  refine ab_iload_n d_MO_openRound_4 rfl ?_
  refine zz_iald d_MO_openRound_5 h129 (by omega) ?_
  have hq1 := gwd w (by omega) (by omega)
  refine ab_istore_n d_MO_openRound_6 (Nat.le_of_ble_eq_true rfl) (Nat.le_of_ble_eq_true rfl) rfl ?_
  change ab_W _ _ _ G 7 [some (vR 80), some (vz w), some (vz (WD w)), none, none, none] [] _
  refine ab_aload_n d_MO_openRound_7 rfl ?_
  refine ab_callV (d' := d - 1) (as := []) (st := []) (r := _) (z_MO_row (o := o) (m_thrown := m_thrown) (m_taped := m_taped) (m_length := m_length) (m_out := m_out) (m_wide := m_wide) (m_gathered := m_gathered) (m_sets := m_sets) (m_ranges := m_ranges) (m_nodes := m_nodes) (m_at := m_at) (m_flags := m_flags) (m_fault := m_fault) (m_place := m_place) (m_numbered := m_numbered) (m_depth := m_depth) (m_value := m_value) (m_isNot := m_isNot) (m_least0 := m_least0) (m_most0 := m_most0) (m_slot := m_slot) (m_work := m_work) (m_got := m_got) (m_rowMany := m_rowMany) (m_charAt := m_charAt) (m_charWide := m_charWide) (m_trail := m_trail) (m_isMatch := m_isMatch) (m_matchGroups := m_matchGroups) (m_allFrom := m_allFrom) (m_allBefore := m_allBefore) (m_founds := m_founds) (m_pieces := m_pieces) (m_writtenMany := m_writtenMany) (m_templateWide := m_templateWide) (m_tooMuch := m_tooMuch) h80 (by omega) (by omega)) (fun oc G2 h => by rcases h with ⟨h, _⟩ <;> exact ⟨_, h⟩) (by omega) m_MO_row ml_MO_454 im_MO_row se_MO_row c_MO h80.2.2 (Nat.le_of_ble_eq_true rfl) d_MO_openRound_8 rfl ?_
  intro v G2 hq
  rcases hq with ⟨hv, hfk, hlk, hsk, hN80⟩
  cases hv
  have h94 := hfk.get h94 (by decide)
  have h95 := hfk.get h95 (by decide)
  have h96 := hfk.get h96 (by decide)
  have h97 := hfk.get h97 (by decide)
  have h98 := hfk.get h98 (by decide)
  have h99 := hfk.get h99 (by decide)
  have h100 := hfk.get h100 (by decide)
  have h101 := hfk.get h101 (by decide)
  have h90 := hfk.get h90 (by decide)
  have h89 := hfk.get h89 (by decide)
  have h91 := hfk.get h91 (by decide)
  have h92 := hfk.get h92 (by decide)
  have h118 := hfk.get h118 (by decide)
  have h119 := hfk.get h119 (by decide)
  have h120 := hfk.get h120 (by decide)
  have h121 := hfk.get h121 (by decide)
  have h122 := hfk.get h122 (by decide)
  have h123 := hfk.get h123 (by decide)
  have h124 := hfk.get h124 (by decide)
  have h117 := hfk.get h117 (by decide)
  have h125 := hfk.get h125 (by decide)
  have h133 := hfk.get h133 (by decide)
  have h128 := hfk.get h128 (by decide)
  have h129 := hfk.get h129 (by decide)
  have h130 := hfk.get h130 (by decide)
  have h131 := hfk.get h131 (by decide)
  have h132 := hfk.get h132 (by decide)
  have hfr := hfr.tr hfk (by decide)
  have hlen := hlk.trans hlen
  have hsl := hsk.trans hsl
  have h80 := hN80
  change ab_W _ _ _ G2 11 [some (vR 80), some (vz w), some (vz (WD w)), none, none, none] [vz (32 * m_rowMany)] _
  refine ab_istore_n d_MO_openRound_11 (Nat.le_of_ble_eq_true rfl) (Nat.le_of_ble_eq_true rfl) rfl ?_
  change ab_W _ _ _ G2 12 [some (vR 80), some (vz w), some (vz (WD w)), some (vz (32 * m_rowMany)), none, none] [] _
  refine zz_iconst d_MO_openRound_12 ?_
  refine ab_istore d_MO_openRound_13 (Nat.le_of_ble_eq_true rfl) (Nat.le_of_ble_eq_true rfl) rfl ?_
  change ab_W _ _ _ G2 15 [some (vR 80), some (vz w), some (vz (WD w)), some (vz (32 * m_rowMany)), some (vz 0), none] [] _
  refine y_MO_openRound_15 (m_thrown := m_thrown) (m_taped := m_taped) (m_length := m_length) (m_out := m_out) (m_wide := m_wide) (m_gathered := m_gathered) (m_sets := m_sets) (m_ranges := m_ranges) (m_nodes := m_nodes) (m_at := m_at) (m_flags := m_flags) (m_fault := m_fault) (m_place := m_place) (m_numbered := m_numbered) (m_depth := m_depth) (m_value := m_value) (m_isNot := m_isNot) (m_least0 := m_least0) (m_most0 := m_most0) (m_slot := m_slot) (m_work := m_work) (m_got := m_got) (m_rowMany := (m_rowMany + 1)) (m_charAt := m_charAt) (m_charWide := m_charWide) (m_trail := m_trail) (m_isMatch := m_isMatch) (m_matchGroups := m_matchGroups) (m_allFrom := m_allFrom) (m_allBefore := m_allBefore) (m_founds := m_founds) (m_pieces := m_pieces) (m_writtenMany := m_writtenMany) (m_templateWide := m_templateWide) (m_tooMuch := m_tooMuch) (CA := CA) (CM := CM) (CL := CL) (CH := CH) (T0 := T) (N0 := N) (W0 := W) (SN0 := SN) (RO0 := RO) (SM := SM) (SA := SA) (RL := RL) (RH := RH) (dp := (WD w)) (r := (32 * m_rowMany)) (n0 := (SN m_slot)) (w := w) (ns := ns) (cl := (CC m_slot)) (G0 := G2) (i_ := 0) (RO := RO) (T := T) (N := N) (W := W) (SN := SN) (by omega) (by omega) (by omega) (by omega) (Int.toNat ((WD w) + 1 - 0) + 1) h80 h133 h118 h119 h120 h117 (by omega) gro gt gn gw gsn rsq_0 rsm_rf spl_0 stx_rf sno_rf jka fx.rf rfl rfl (by omega) (fun G3 RO24 T25 N26 W27 SN28 hN133 hN118 hN119 hN120 hN117 hq9 hq10 hq11 hq12 hq13 hq14 hq15 hq16 hq17 hq18 hq19 hq20 hfk hlk hsk => ?_)
  · have h80 := hfk.get h80 (by decide)
    have h94 := hfk.get h94 (by decide)
    have h95 := hfk.get h95 (by decide)
    have h96 := hfk.get h96 (by decide)
    have h97 := hfk.get h97 (by decide)
    have h98 := hfk.get h98 (by decide)
    have h99 := hfk.get h99 (by decide)
    have h100 := hfk.get h100 (by decide)
    have h101 := hfk.get h101 (by decide)
    have h90 := hfk.get h90 (by decide)
    have h89 := hfk.get h89 (by decide)
    have h91 := hfk.get h91 (by decide)
    have h92 := hfk.get h92 (by decide)
    have h121 := hfk.get h121 (by decide)
    have h122 := hfk.get h122 (by decide)
    have h123 := hfk.get h123 (by decide)
    have h124 := hfk.get h124 (by decide)
    have h125 := hfk.get h125 (by decide)
    have h128 := hfk.get h128 (by decide)
    have h129 := hfk.get h129 (by decide)
    have h130 := hfk.get h130 (by decide)
    have h131 := hfk.get h131 (by decide)
    have h132 := hfk.get h132 (by decide)
    have hfr := hfr.tr hfk (by decide)
    have hlen := hlk.trans hlen
    have hsl := hsk.trans hsl
    have h133 := hN133
    have h118 := hN118
    have h119 := hN119
    have h120 := hN120
    have h117 := hN117
    change ab_W _ _ _ G3 43 [some (vR 80), some (vz w), some (vz (WD w)), some (vz (32 * m_rowMany)), none, none] [] _
    refine ab_aload_n d_MO_openRound_43 rfl ?_
    refine ab_getf (fs := mof m_thrown m_taped m_length m_out m_wide m_gathered m_sets m_ranges m_nodes m_at m_flags m_fault m_place m_numbered m_depth m_value m_isNot m_least0 m_most0 m_slot m_work m_got (m_rowMany + 1) m_charAt m_charWide m_trail m_isMatch m_matchGroups m_allFrom m_allBefore m_founds m_pieces m_writtenMany m_templateWide m_tooMuch) f_MO_167 d_MO_openRound_44 h80.2.2 rfl ?_
    refine ab_iload_n d_MO_openRound_47 rfl ?_
    refine ab_iload_n d_MO_openRound_48 rfl ?_
    refine zz_iast d_MO_openRound_49 h131 (by omega) (h131.2.1 (by decide)) ?_
    obtain ⟨G21, eG21⟩ : ∃ z : ab_G, z = List.set G3 131 (za 300 (zu WG w (32 * m_rowMany))) := ⟨_, rfl⟩
    have h80 := h80.keep h131 eG21 (by decide)
    have h94 := h94.keep h131 eG21 (by decide)
    have h95 := h95.keep h131 eG21 (by decide)
    have h96 := h96.keep h131 eG21 (by decide)
    have h97 := h97.keep h131 eG21 (by decide)
    have h98 := h98.keep h131 eG21 (by decide)
    have h99 := h99.keep h131 eG21 (by decide)
    have h100 := h100.keep h131 eG21 (by decide)
    have h101 := h101.keep h131 eG21 (by decide)
    have h90 := h90.keep h131 eG21 (by decide)
    have h89 := h89.keep h131 eG21 (by decide)
    have h91 := h91.keep h131 eG21 (by decide)
    have h92 := h92.keep h131 eG21 (by decide)
    have h118 := h118.keep h131 eG21 (by decide)
    have h119 := h119.keep h131 eG21 (by decide)
    have h120 := h120.keep h131 eG21 (by decide)
    have h121 := h121.keep h131 eG21 (by decide)
    have h122 := h122.keep h131 eG21 (by decide)
    have h123 := h123.keep h131 eG21 (by decide)
    have h124 := h124.keep h131 eG21 (by decide)
    have h117 := h117.keep h131 eG21 (by decide)
    have h125 := h125.keep h131 eG21 (by decide)
    have h133 := h133.keep h131 eG21 (by decide)
    have h128 := h128.keep h131 eG21 (by decide)
    have h129 := h129.keep h131 eG21 (by decide)
    have h130 := h130.keep h131 eG21 (by decide)
    have h132 := h132.keep h131 eG21 (by decide)
    have hlen := (z_len eG21).trans hlen
    have hsl := (z_sl h131 eG21 rfl).trans hsl
    have hfr := hfr.wr h131 eG21 (by decide)
    have h131 := h131.kept eG21
    change ab_W _ _ _ (List.set G3 131 (za 300 (zu WG w (32 * m_rowMany)))) 50 [some (vR 80), some (vz w), some (vz (WD w)), some (vz (32 * m_rowMany)), none, none] [] _
    rw [← eG21]
    refine ab_aload_n d_MO_openRound_50 rfl ?_
    refine ab_getf (fs := mof m_thrown m_taped m_length m_out m_wide m_gathered m_sets m_ranges m_nodes m_at m_flags m_fault m_place m_numbered m_depth m_value m_isNot m_least0 m_most0 m_slot m_work m_got (m_rowMany + 1) m_charAt m_charWide m_trail m_isMatch m_matchGroups m_allFrom m_allBefore m_founds m_pieces m_writtenMany m_templateWide m_tooMuch) f_MO_170 d_MO_openRound_51 h80.2.2 rfl ?_
    refine ab_iload_n d_MO_openRound_54 rfl ?_
    refine zz_iconst d_MO_openRound_55 ?_
    refine zz_iast d_MO_openRound_56 h132 (by omega) (h132.2.1 (by decide)) ?_
    obtain ⟨G22, eG22⟩ : ∃ z : ab_G, z = List.set G21 132 (za 300 (zu WS w 1)) := ⟨_, rfl⟩
    have h80 := h80.keep h132 eG22 (by decide)
    have h94 := h94.keep h132 eG22 (by decide)
    have h95 := h95.keep h132 eG22 (by decide)
    have h96 := h96.keep h132 eG22 (by decide)
    have h97 := h97.keep h132 eG22 (by decide)
    have h98 := h98.keep h132 eG22 (by decide)
    have h99 := h99.keep h132 eG22 (by decide)
    have h100 := h100.keep h132 eG22 (by decide)
    have h101 := h101.keep h132 eG22 (by decide)
    have h90 := h90.keep h132 eG22 (by decide)
    have h89 := h89.keep h132 eG22 (by decide)
    have h91 := h91.keep h132 eG22 (by decide)
    have h92 := h92.keep h132 eG22 (by decide)
    have h118 := h118.keep h132 eG22 (by decide)
    have h119 := h119.keep h132 eG22 (by decide)
    have h120 := h120.keep h132 eG22 (by decide)
    have h121 := h121.keep h132 eG22 (by decide)
    have h122 := h122.keep h132 eG22 (by decide)
    have h123 := h123.keep h132 eG22 (by decide)
    have h124 := h124.keep h132 eG22 (by decide)
    have h117 := h117.keep h132 eG22 (by decide)
    have h125 := h125.keep h132 eG22 (by decide)
    have h133 := h133.keep h132 eG22 (by decide)
    have h128 := h128.keep h132 eG22 (by decide)
    have h129 := h129.keep h132 eG22 (by decide)
    have h130 := h130.keep h132 eG22 (by decide)
    have h131 := h131.keep h132 eG22 (by decide)
    have hlen := (z_len eG22).trans hlen
    have hsl := (z_sl h132 eG22 rfl).trans hsl
    have hfr := hfr.wr h132 eG22 (by decide)
    have h132 := h132.kept eG22
    change ab_W _ _ _ (List.set G21 132 (za 300 (zu WS w 1))) 57 [some (vR 80), some (vz w), some (vz (WD w)), some (vz (32 * m_rowMany)), none, none] [] _
    rw [← eG22]
    refine ab_aload_n d_MO_openRound_57 rfl ?_
    refine ab_callV (d' := d - 1) (as := []) (st := []) (r := _) (z_MO_row (o := o) (m_thrown := m_thrown) (m_taped := m_taped) (m_length := m_length) (m_out := m_out) (m_wide := m_wide) (m_gathered := m_gathered) (m_sets := m_sets) (m_ranges := m_ranges) (m_nodes := m_nodes) (m_at := m_at) (m_flags := m_flags) (m_fault := m_fault) (m_place := m_place) (m_numbered := m_numbered) (m_depth := m_depth) (m_value := m_value) (m_isNot := m_isNot) (m_least0 := m_least0) (m_most0 := m_most0) (m_slot := m_slot) (m_work := m_work) (m_got := m_got) (m_rowMany := (m_rowMany + 1)) (m_charAt := m_charAt) (m_charWide := m_charWide) (m_trail := m_trail) (m_isMatch := m_isMatch) (m_matchGroups := m_matchGroups) (m_allFrom := m_allFrom) (m_allBefore := m_allBefore) (m_founds := m_founds) (m_pieces := m_pieces) (m_writtenMany := m_writtenMany) (m_templateWide := m_templateWide) (m_tooMuch := m_tooMuch) h80 (by omega) (by omega)) (fun oc G2 h => by rcases h with ⟨h, _⟩ <;> exact ⟨_, h⟩) (by omega) m_MO_row ml_MO_454 im_MO_row se_MO_row c_MO h80.2.2 (Nat.le_of_ble_eq_true rfl) d_MO_openRound_58 rfl ?_
    intro v G23 hq
    rcases hq with ⟨hv, hfk, hlk, hsk, hN80⟩
    cases hv
    have h94 := hfk.get h94 (by decide)
    have h95 := hfk.get h95 (by decide)
    have h96 := hfk.get h96 (by decide)
    have h97 := hfk.get h97 (by decide)
    have h98 := hfk.get h98 (by decide)
    have h99 := hfk.get h99 (by decide)
    have h100 := hfk.get h100 (by decide)
    have h101 := hfk.get h101 (by decide)
    have h90 := hfk.get h90 (by decide)
    have h89 := hfk.get h89 (by decide)
    have h91 := hfk.get h91 (by decide)
    have h92 := hfk.get h92 (by decide)
    have h118 := hfk.get h118 (by decide)
    have h119 := hfk.get h119 (by decide)
    have h120 := hfk.get h120 (by decide)
    have h121 := hfk.get h121 (by decide)
    have h122 := hfk.get h122 (by decide)
    have h123 := hfk.get h123 (by decide)
    have h124 := hfk.get h124 (by decide)
    have h117 := hfk.get h117 (by decide)
    have h125 := hfk.get h125 (by decide)
    have h133 := hfk.get h133 (by decide)
    have h128 := hfk.get h128 (by decide)
    have h129 := hfk.get h129 (by decide)
    have h130 := hfk.get h130 (by decide)
    have h131 := hfk.get h131 (by decide)
    have h132 := hfk.get h132 (by decide)
    have hfr := hfr.tr hfk (by decide)
    have hlen := hlk.trans hlen
    have hsl := hsk.trans hsl
    have h80 := hN80
    change ab_W _ _ _ G23 61 [some (vR 80), some (vz w), some (vz (WD w)), some (vz (32 * m_rowMany)), none, none] [vz (32 * (m_rowMany + 1))] _
    refine ab_istore d_MO_openRound_61 (Nat.le_of_ble_eq_true rfl) (Nat.le_of_ble_eq_true rfl) rfl ?_
    change ab_W _ _ _ G23 63 [some (vR 80), some (vz w), some (vz (WD w)), some (vz (32 * m_rowMany)), some (vz (32 * (m_rowMany + 1))), none] [] _
    refine zz_iconst d_MO_openRound_63 ?_
    refine ab_istore d_MO_openRound_64 (Nat.le_of_ble_eq_true rfl) (Nat.le_of_ble_eq_true rfl) rfl ?_
    change ab_W _ _ _ G23 66 [some (vR 80), some (vz w), some (vz (WD w)), some (vz (32 * m_rowMany)), some (vz (32 * (m_rowMany + 1))), some (vz 0)] [] _
    refine y_MO_openRound_66 (m_thrown := m_thrown) (m_taped := m_taped) (m_length := m_length) (m_out := m_out) (m_wide := m_wide) (m_gathered := m_gathered) (m_sets := m_sets) (m_ranges := m_ranges) (m_nodes := m_nodes) (m_at := m_at) (m_flags := m_flags) (m_fault := m_fault) (m_place := m_place) (m_numbered := m_numbered) (m_depth := m_depth) (m_value := m_value) (m_isNot := m_isNot) (m_least0 := m_least0) (m_most0 := m_most0) (m_slot := m_slot) (m_work := m_work) (m_got := m_got) (m_rowMany := ((m_rowMany + 1) + 1)) (m_charAt := m_charAt) (m_charWide := m_charWide) (m_trail := m_trail) (m_isMatch := m_isMatch) (m_matchGroups := m_matchGroups) (m_allFrom := m_allFrom) (m_allBefore := m_allBefore) (m_founds := m_founds) (m_pieces := m_pieces) (m_writtenMany := m_writtenMany) (m_templateWide := m_templateWide) (m_tooMuch := m_tooMuch) (RO0 := RO24) (dp := (WD w)) (r := (32 * m_rowMany)) (y := (32 * (m_rowMany + 1))) (w := w) (nn := (SN28 m_slot)) (G0 := G23) (i_ := 0) (RO := RO24) (by omega) (by omega) (by omega) (Int.toNat ((WD w) + 1 - 0) + 1) h80 h133 (by omega) hq9 rokk_0 rsm_rf rAl_0 fx.rf rfl rfl (by omega) (fun G24 RO225 hN133 hq26 hq27 hq28 hq29 hfk hlk hsk => ?_)
    · have h80 := hfk.get h80 (by decide)
      have h94 := hfk.get h94 (by decide)
      have h95 := hfk.get h95 (by decide)
      have h96 := hfk.get h96 (by decide)
      have h97 := hfk.get h97 (by decide)
      have h98 := hfk.get h98 (by decide)
      have h99 := hfk.get h99 (by decide)
      have h100 := hfk.get h100 (by decide)
      have h101 := hfk.get h101 (by decide)
      have h90 := hfk.get h90 (by decide)
      have h89 := hfk.get h89 (by decide)
      have h91 := hfk.get h91 (by decide)
      have h92 := hfk.get h92 (by decide)
      have h118 := hfk.get h118 (by decide)
      have h119 := hfk.get h119 (by decide)
      have h120 := hfk.get h120 (by decide)
      have h121 := hfk.get h121 (by decide)
      have h122 := hfk.get h122 (by decide)
      have h123 := hfk.get h123 (by decide)
      have h124 := hfk.get h124 (by decide)
      have h117 := hfk.get h117 (by decide)
      have h125 := hfk.get h125 (by decide)
      have h128 := hfk.get h128 (by decide)
      have h129 := hfk.get h129 (by decide)
      have h130 := hfk.get h130 (by decide)
      have h131 := hfk.get h131 (by decide)
      have h132 := hfk.get h132 (by decide)
      have hfr := hfr.tr hfk (by decide)
      have hlen := hlk.trans hlen
      have hsl := hsk.trans hsl
      have h133 := hN133
      change ab_W _ _ _ G24 89 [some (vR 80), some (vz w), some (vz (WD w)), some (vz (32 * m_rowMany)), some (vz (32 * (m_rowMany + 1))), none] [] _
      refine ab_aload_n d_MO_openRound_89 rfl ?_
      refine ab_getf (fs := mof m_thrown m_taped m_length m_out m_wide m_gathered m_sets m_ranges m_nodes m_at m_flags m_fault m_place m_numbered m_depth m_value m_isNot m_least0 m_most0 m_slot m_work m_got ((m_rowMany + 1) + 1) m_charAt m_charWide m_trail m_isMatch m_matchGroups m_allFrom m_allBefore m_founds m_pieces m_writtenMany m_templateWide m_tooMuch) f_MO_174 d_MO_openRound_90 h80.2.2 rfl ?_
      refine ab_iload d_MO_openRound_93 rfl ?_
      refine ab_iload_n d_MO_openRound_95 rfl ?_
      refine zz_iadd d_MO_openRound_96 ?_
      refine zz_iconst d_MO_openRound_97 ?_
      refine zz_iadd d_MO_openRound_98 ?_
      have hrq_ := (rsq_o hq15 hq28 (by omega)) (WD w) (by omega) (by omega)
      refine ab_aload_n d_MO_openRound_99 rfl ?_
      refine ab_getf (fs := mof m_thrown m_taped m_length m_out m_wide m_gathered m_sets m_ranges m_nodes m_at m_flags m_fault m_place m_numbered m_depth m_value m_isNot m_least0 m_most0 m_slot m_work m_got ((m_rowMany + 1) + 1) m_charAt m_charWide m_trail m_isMatch m_matchGroups m_allFrom m_allBefore m_founds m_pieces m_writtenMany m_templateWide m_tooMuch) f_MO_174 d_MO_openRound_100 h80.2.2 rfl ?_
      refine ab_iload_n d_MO_openRound_103 rfl ?_
      refine ab_iload_n d_MO_openRound_104 rfl ?_
      refine zz_iadd d_MO_openRound_105 ?_
      refine zz_iald d_MO_openRound_106 h133 (by omega) ?_
      refine zz_iast d_MO_openRound_107 h133 (by omega) (h133.2.1 (by decide)) ?_
      obtain ⟨G30, eG30⟩ : ∃ z : ab_G, z = List.set G24 133 (za 40000 (zu RO225 (((32 * (m_rowMany + 1)) + (WD w)) + 1) (RO225 ((32 * m_rowMany) + (WD w))))) := ⟨_, rfl⟩
      have h80 := h80.keep h133 eG30 (by decide)
      have h94 := h94.keep h133 eG30 (by decide)
      have h95 := h95.keep h133 eG30 (by decide)
      have h96 := h96.keep h133 eG30 (by decide)
      have h97 := h97.keep h133 eG30 (by decide)
      have h98 := h98.keep h133 eG30 (by decide)
      have h99 := h99.keep h133 eG30 (by decide)
      have h100 := h100.keep h133 eG30 (by decide)
      have h101 := h101.keep h133 eG30 (by decide)
      have h90 := h90.keep h133 eG30 (by decide)
      have h89 := h89.keep h133 eG30 (by decide)
      have h91 := h91.keep h133 eG30 (by decide)
      have h92 := h92.keep h133 eG30 (by decide)
      have h118 := h118.keep h133 eG30 (by decide)
      have h119 := h119.keep h133 eG30 (by decide)
      have h120 := h120.keep h133 eG30 (by decide)
      have h121 := h121.keep h133 eG30 (by decide)
      have h122 := h122.keep h133 eG30 (by decide)
      have h123 := h123.keep h133 eG30 (by decide)
      have h124 := h124.keep h133 eG30 (by decide)
      have h117 := h117.keep h133 eG30 (by decide)
      have h125 := h125.keep h133 eG30 (by decide)
      have h128 := h128.keep h133 eG30 (by decide)
      have h129 := h129.keep h133 eG30 (by decide)
      have h130 := h130.keep h133 eG30 (by decide)
      have h131 := h131.keep h133 eG30 (by decide)
      have h132 := h132.keep h133 eG30 (by decide)
      have hlen := (z_len eG30).trans hlen
      have hsl := (z_sl h133 eG30 rfl).trans hsl
      have hfr := hfr.wr h133 eG30 (by decide)
      have h133 := h133.kept eG30
      change ab_W _ _ _ (List.set G24 133 (za 40000 (zu RO225 (((32 * (m_rowMany + 1)) + (WD w)) + 1) (RO225 ((32 * m_rowMany) + (WD w)))))) 108 [some (vR 80), some (vz w), some (vz (WD w)), some (vz (32 * m_rowMany)), some (vz (32 * (m_rowMany + 1))), none] [] _
      rw [← eG30]
      refine ab_aload_n d_MO_openRound_108 rfl ?_
      refine ab_aload_n d_MO_openRound_109 rfl ?_
      refine ab_getf (fs := mof m_thrown m_taped m_length m_out m_wide m_gathered m_sets m_ranges m_nodes m_at m_flags m_fault m_place m_numbered m_depth m_value m_isNot m_least0 m_most0 m_slot m_work m_got ((m_rowMany + 1) + 1) m_charAt m_charWide m_trail m_isMatch m_matchGroups m_allFrom m_allBefore m_founds m_pieces m_writtenMany m_templateWide m_tooMuch) f_MO_56 d_MO_openRound_110 h80.2.2 rfl ?_
      refine ab_aload_n d_MO_openRound_113 rfl ?_
      refine ab_getf (fs := mof m_thrown m_taped m_length m_out m_wide m_gathered m_sets m_ranges m_nodes m_at m_flags m_fault m_place m_numbered m_depth m_value m_isNot m_least0 m_most0 m_slot m_work m_got ((m_rowMany + 1) + 1) m_charAt m_charWide m_trail m_isMatch m_matchGroups m_allFrom m_allBefore m_founds m_pieces m_writtenMany m_templateWide m_tooMuch) f_MO_158 d_MO_openRound_114 h80.2.2 rfl ?_
      refine ab_iload_n d_MO_openRound_117 rfl ?_
      refine zz_iald d_MO_openRound_118 h128 (by omega) ?_
      have hq31 := gwp w (by omega) (by omega)
      refine zz_iald d_MO_openRound_119 h96 (by omega) ?_
      have hq32 := jfi (WP w) (by omega) (by omega)
      refine ab_iload_n d_MO_openRound_120 rfl ?_
      refine zz_iconst d_MO_openRound_121 ?_
      refine zz_iadd d_MO_openRound_122 ?_
      refine ab_iload d_MO_openRound_123 rfl ?_
      refine ab_callV (d' := d - 1) (as := [vz (Fi (WP w)), vz ((WD w) + 1), vz (32 * (m_rowMany + 1))]) (st := []) (r := _) (z_MO_open (o := o) (m_thrown := m_thrown) (m_taped := m_taped) (m_length := m_length) (m_out := m_out) (m_wide := m_wide) (m_gathered := m_gathered) (m_sets := m_sets) (m_ranges := m_ranges) (m_nodes := m_nodes) (m_at := m_at) (m_flags := m_flags) (m_fault := m_fault) (m_place := m_place) (m_numbered := m_numbered) (m_depth := m_depth) (m_value := m_value) (m_isNot := m_isNot) (m_least0 := m_least0) (m_most0 := m_most0) (m_slot := m_slot) (m_work := m_work) (m_got := m_got) (m_rowMany := ((m_rowMany + 1) + 1)) (m_charAt := m_charAt) (m_charWide := m_charWide) (m_trail := m_trail) (m_isMatch := m_isMatch) (m_matchGroups := m_matchGroups) (m_allFrom := m_allFrom) (m_allBefore := m_allBefore) (m_founds := m_founds) (m_pieces := m_pieces) (m_writtenMany := m_writtenMany) (m_templateWide := m_templateWide) (m_tooMuch := m_tooMuch) (WP := WP) (WD := WD) (WT := WT) (WG := (zu WG w (32 * m_rowMany))) (WS := (zu WS w 1)) (to := (32 * (m_rowMany + 1))) (x := (Fi (WP w))) (y := ((WD w) + 1)) h80 h128 h129 h130 h131 h132 (by omega) (by omega)) (fun oc G2 h => by rcases h with ⟨h, _⟩ <;> exact ⟨_, h⟩) (by omega) m_MO_open ml_MO_464 im_MO_open se_MO_open c_MO h80.2.2 (Nat.le_of_ble_eq_true rfl) d_MO_openRound_125 rfl ?_
      intro v G33 hq
      rcases hq with ⟨hv, hfk, hlk, hsk, hN80, hN128, hN129, hN130, hN131, hN132⟩
      cases hv
      have h94 := hfk.get h94 (by decide)
      have h95 := hfk.get h95 (by decide)
      have h96 := hfk.get h96 (by decide)
      have h97 := hfk.get h97 (by decide)
      have h98 := hfk.get h98 (by decide)
      have h99 := hfk.get h99 (by decide)
      have h100 := hfk.get h100 (by decide)
      have h101 := hfk.get h101 (by decide)
      have h90 := hfk.get h90 (by decide)
      have h89 := hfk.get h89 (by decide)
      have h91 := hfk.get h91 (by decide)
      have h92 := hfk.get h92 (by decide)
      have h118 := hfk.get h118 (by decide)
      have h119 := hfk.get h119 (by decide)
      have h120 := hfk.get h120 (by decide)
      have h121 := hfk.get h121 (by decide)
      have h122 := hfk.get h122 (by decide)
      have h123 := hfk.get h123 (by decide)
      have h124 := hfk.get h124 (by decide)
      have h117 := hfk.get h117 (by decide)
      have h125 := hfk.get h125 (by decide)
      have h133 := hfk.get h133 (by decide)
      have hfr := hfr.tr hfk (by decide)
      have hlen := hlk.trans hlen
      have hsl := hsk.trans hsl
      have h80 := hN80
      have h128 := hN128
      have h129 := hN129
      have h130 := hN130
      have h131 := hN131
      have h132 := hN132
      change ab_W _ _ _ G33 128 [some (vR 80), some (vz w), some (vz (WD w)), some (vz (32 * m_rowMany)), some (vz (32 * (m_rowMany + 1))), none] [] _
      refine ab_vret rfl d_MO_openRound_128 ?_
      rw [hQ]; exact ⟨_, _, (32 * m_rowMany), _, _, _, _, _, _, _, _, _, _, rfl, hfr, hlen, hsl, h80, h128, h129, h130, h131, h132, h133, h118, h119, h120, h117, (by first | exact (rgs_zu gwp (by omega)) | exact rgs_w (rgs_zu gwp (by omega)) (by omega)), (by first | exact (rgs_zu gwd (by omega)) | exact rgs_w (rgs_zu gwd (by omega)) (by omega)), (by first | exact (rgs_zu gwt (by omega)) | exact rgs_w (rgs_zu gwt (by omega)) (by omega)), (by first | exact (rgs_zu (rgs_zu gwg (by omega)) (by omega)) | exact rgs_w (rgs_zu (rgs_zu gwg (by omega)) (by omega)) (by omega)), (by first | exact (rgs_zu (rgs_zu gws (by omega)) (by omega)) | exact rgs_w (rgs_zu (rgs_zu gws (by omega)) (by omega)) (by omega)), (by exact fun j_ a_ => ⟨by rw [zu_ne (by omega)], by rw [zu_ne (by omega)], by rw [zu_ne (by omega)], by rw [zu_ne (by omega), zu_ne (by omega)], by rw [zu_ne (by omega), zu_ne (by omega)]⟩), (by rw [zu_self]), (by rw [zu_self]), (by rw [zu_self]), (by rw [zu_self]), (by rw [zu_self]), (by rw [zu_ne (show w ≠ m_work by omega)]), (by rw [zu_ne (show w ≠ m_work by omega)]), (by rw [zu_ne (show w ≠ m_work by omega)]), (by rw [zu_ne (show w ≠ m_work by omega), zu_self]), (by rw [zu_ne (show w ≠ m_work by omega), zu_self] <;> omega), (by first | rfl | (rw [zu_self]; done) | omega), (by first | rfl | (rw [zu_self]; done) | omega), (by first | rfl | (rw [zu_self]; done) | omega), (by first | exact (rgs_zu hq26 (by omega)) | exact rgs_w (rgs_zu hq26 (by omega)) (by omega)), (by first | exact hq10 | exact rgs_w hq10 (by omega)), (by first | exact hq11 | exact rgs_w hq11 (by omega)), (by first | exact hq12 | exact rgs_w hq12 (by omega)), (by first | exact hq13 | exact rgs_w hq13 (by omega)), (by omega), (by exact rsm_tr hq16 (rsm_wr hq28 (by omega)) (by omega)), (by exact rsq_o hq15 (rsm_wr hq28 (by omega)) (by omega)), (by rw [show WD w + 2 = (WD w + 1) + 1 by omega, show (32 * (m_rowMany + 1)) + WD w + 1 = (32 * (m_rowMany + 1)) + (WD w + 1) by omega]; exact rokk_s hq27 (by omega) (by omega)), (by exact hq17), (by exact hq18), (by exact hq19), (by exact hq20), (by exact rAl_wr hq29 (by omega)), (by rw [show (32 * (m_rowMany + 1)) + (WD w + 1) = (32 * (m_rowMany + 1)) + WD w + 1 by omega, zu_self]; exact hrq_)⟩
set_option maxRecDepth 100000 in
set_option maxHeartbeats 4000000 in
theorem y_MO_closeRound_9 {X : ab_X} {d : Nat} {Q : Outcome → ab_G → Prop} {o : Nat → Nat} {G0 : ab_G} {m_thrown : Int} {m_taped : Int} {m_length : Int} {m_out : Int} {m_wide : Int} {m_gathered : Int} {m_sets : Int} {m_ranges : Int} {m_nodes : Int} {m_at : Int} {m_flags : Int} {m_fault : Int} {m_place : Int} {m_numbered : Int} {m_depth : Int} {m_value : Int} {m_isNot : Int} {m_least0 : Int} {m_most0 : Int} {m_slot : Int} {m_work : Int} {m_got : Int} {m_rowMany : Int} {m_charAt : Int} {m_charWide : Int} {m_trail : Int} {m_isMatch : Int} {m_matchGroups : Int} {m_allFrom : Int} {m_allBefore : Int} {m_founds : Int} {m_pieces : Int} {m_writtenMany : Int} {m_templateWide : Int} {m_tooMuch : Int} {SN : Int → Int} {RO : Int → Int} {WP : Int → Int} {WD : Int → Int} {WT : Int → Int} {WG : Int → Int} {N0 : Int → Int} {W0 : Int → Int} {LZ : Int → Int} {w : Int} {n1 : Int} (n18 : ab_n0 = 18) (csl : 0 ≤ m_slot ∧ m_slot ≤ 5) (gro : rgs RO 40000 0 12499) (jlz : rgs LZ 4200 0 1) (cw : 0 ≤ w ∧ w < 300 ∧ 0 ≤ WP w ∧ WP w < 4200 ∧ 0 ≤ WD w ∧ WD w ≤ 30 ∧ 0 ≤ WG w ∧ WG w + 32 ≤ 40000 ∧ 0 ≤ WT w ∧ WT w + 32 ≤ 40000 ∧ 0 ≤ m_got ∧ m_got + 32 ≤ 40000 ∧ 0 ≤ n1 ∧ n1 + WD w + 1 ≤ (SN m_slot) ∧ (SN m_slot) ≤ 12500) (jwq : rsq RO (WG w) (WD w + 1) n1) (jto : rokk RO (WT w) (WD w + 1) (SN m_slot)) (jgo : rokk RO m_got (WD w + 1) (SN m_slot)) (hd : 1 ≤ d) : ∀ (mz : Nat) {G : ab_G} {i_ : Int} {N : Int → Int} {W : Int → Int}, (cc o G 80 280 (ab_ob 12 (mof m_thrown m_taped m_length m_out m_wide m_gathered m_sets m_ranges m_nodes m_at m_flags m_fault m_place m_numbered m_depth m_value m_isNot m_least0 m_most0 m_slot m_work m_got m_rowMany m_charAt m_charWide m_trail m_isMatch m_matchGroups m_allFrom m_allBefore m_founds m_pieces m_writtenMany m_templateWide m_tooMuch))) → (cc o G 101 301 (zb 4200 LZ)) → (cc o G 133 333 (za 40000 RO)) → (cc o G 119 319 (za 75000 N)) → (cc o G 120 320 (za 75000 W)) → (cc o G 129 329 (za 300 WD)) → (cc o G 131 331 (za 300 WG)) → (cc o G 130 330 (za 300 WT)) → (0 ≤ i_ ∧ i_ ≤ WD w + 1) → (rgs N 75000 (-1) 12499) → (rgs W 75000 (-1) 12499) → (clr N0 W0 N W (12500 * m_slot) n1 i_ (SN m_slot)) → (clx N W RO m_slot n1 i_ (LZ (WP w)) m_got (WT w)) → (fx o o [319, 320] G0 G) → (G.length = G0.length) → (ab_slots G = ab_slots G0) → (Int.toNat (WD w + 1 - i_) < mz) → (∀ (G2 : ab_G) (N2 : Int → Int) (W2 : Int → Int), (cc o G2 119 319 (za 75000 N2)) → (cc o G2 120 320 (za 75000 W2)) → (rgs N2 75000 (-1) 12499) → (rgs W2 75000 (-1) 12499) → (clr N0 W0 N2 W2 (12500 * m_slot) n1 (WD w + 1) (SN m_slot)) → (clx N2 W2 RO m_slot n1 (WD w + 1) (LZ (WP w)) m_got (WT w)) → (fx o o [319, 320] G0 G2) → (G2.length = G0.length) → (ab_slots G2 = ab_slots G0) → ab_W X (ab_pl y_MO_closeRound b_MO_closeRound 6 none) d G2 128 [none, none, none, none, none, none] [] Q) → ab_W X (ab_pl y_MO_closeRound b_MO_closeRound 6 none) d G 9 [some (vR 80), some (vz w), some (vz (WP w)), some (vz i_), none, none] [] Q := by
  intro mz
  induction mz with
  | zero => intro G i_ N W h80 h101 h133 h119 h120 h129 h131 h130 ci gn gw jc jx hfr hlen hsl hm hk0; exact absurd hm (Nat.not_lt_zero _)
  | succ mz ih =>
    intro G i_ N W h80 h101 h133 h119 h120 h129 h131 h130 ci gn gw jc jx hfr hlen hsl hm hk0
    refine ab_iload_n d_MO_closeRound_9 rfl ?_
    refine ab_aload_n d_MO_closeRound_10 rfl ?_
    refine ab_getf (fs := mof m_thrown m_taped m_length m_out m_wide m_gathered m_sets m_ranges m_nodes m_at m_flags m_fault m_place m_numbered m_depth m_value m_isNot m_least0 m_most0 m_slot m_work m_got m_rowMany m_charAt m_charWide m_trail m_isMatch m_matchGroups m_allFrom m_allBefore m_founds m_pieces m_writtenMany m_templateWide m_tooMuch) f_MO_161 d_MO_closeRound_11 h80.2.2 rfl ?_
    refine ab_iload_n d_MO_closeRound_14 rfl ?_
    refine zz_iald d_MO_closeRound_15 h129 (by omega) ?_
    refine zz_icmp_gt (tgt := 128) d_MO_closeRound_16 (by decide) (by omega) (by omega) (fun c1 => ?_) (fun c1 => ?_)
    · refine ab_less (L' := [none, none, none, none, none, none]) (fun i v h => by rcases i with _ | _ | _ | _ | _ | _ | i <;> first | exact h | (simp at h)) ?_
      exact hk0 _ _ _ h119 h120 (by first | exact gn | exact rgs_w gn (by omega)) (by first | exact gw | exact rgs_w gw (by omega)) (by exact (show i_ = WD w + 1 by omega) ▸ jc) (by exact (show i_ = WD w + 1 by omega) ▸ jx) hfr hlen hsl
    · have h1_ := jwq i_ (by omega) (by omega)
      have h2_ := jto i_ (by omega) (by omega)
      have h3_ := jgo i_ (by omega) (by omega)
      refine zz_sipush d_MO_closeRound_19 (by decide) ?_
      refine ab_aload_n d_MO_closeRound_22 rfl ?_
      refine ab_getf (fs := mof m_thrown m_taped m_length m_out m_wide m_gathered m_sets m_ranges m_nodes m_at m_flags m_fault m_place m_numbered m_depth m_value m_isNot m_least0 m_most0 m_slot m_work m_got m_rowMany m_charAt m_charWide m_trail m_isMatch m_matchGroups m_allFrom m_allBefore m_founds m_pieces m_writtenMany m_templateWide m_tooMuch) f_MO_438 d_MO_closeRound_23 h80.2.2 rfl ?_
      refine zz_imul d_MO_closeRound_26 ?_
      refine ab_aload_n d_MO_closeRound_27 rfl ?_
      refine ab_getf (fs := mof m_thrown m_taped m_length m_out m_wide m_gathered m_sets m_ranges m_nodes m_at m_flags m_fault m_place m_numbered m_depth m_value m_isNot m_least0 m_most0 m_slot m_work m_got m_rowMany m_charAt m_charWide m_trail m_isMatch m_matchGroups m_allFrom m_allBefore m_founds m_pieces m_writtenMany m_templateWide m_tooMuch) f_MO_174 d_MO_closeRound_28 h80.2.2 rfl ?_
      refine ab_aload_n d_MO_closeRound_31 rfl ?_
      refine ab_getf (fs := mof m_thrown m_taped m_length m_out m_wide m_gathered m_sets m_ranges m_nodes m_at m_flags m_fault m_place m_numbered m_depth m_value m_isNot m_least0 m_most0 m_slot m_work m_got m_rowMany m_charAt m_charWide m_trail m_isMatch m_matchGroups m_allFrom m_allBefore m_founds m_pieces m_writtenMany m_templateWide m_tooMuch) f_MO_167 d_MO_closeRound_32 h80.2.2 rfl ?_
      refine ab_iload_n d_MO_closeRound_35 rfl ?_
      refine zz_iald d_MO_closeRound_36 h131 (by omega) ?_
      refine ab_iload_n d_MO_closeRound_37 rfl ?_
      refine zz_iadd d_MO_closeRound_38 ?_
      refine zz_iald d_MO_closeRound_39 h133 (by omega) ?_
      have hq2 := gro ((WG w) + i_) (by omega) (by omega)
      refine zz_iadd d_MO_closeRound_40 ?_
      refine ab_istore d_MO_closeRound_41 (Nat.le_of_ble_eq_true rfl) (Nat.le_of_ble_eq_true rfl) rfl ?_
      change ab_W _ _ _ G 43 [some (vR 80), some (vz w), some (vz (WP w)), some (vz i_), some (vz ((12500 * m_slot) + (RO ((WG w) + i_)))), none] [] _
      refine ab_aload_n d_MO_closeRound_43 rfl ?_
      refine ab_getf (fs := mof m_thrown m_taped m_length m_out m_wide m_gathered m_sets m_ranges m_nodes m_at m_flags m_fault m_place m_numbered m_depth m_value m_isNot m_least0 m_most0 m_slot m_work m_got m_rowMany m_charAt m_charWide m_trail m_isMatch m_matchGroups m_allFrom m_allBefore m_founds m_pieces m_writtenMany m_templateWide m_tooMuch) f_MO_174 d_MO_closeRound_44 h80.2.2 rfl ?_
      refine ab_aload_n d_MO_closeRound_47 rfl ?_
      refine ab_getf (fs := mof m_thrown m_taped m_length m_out m_wide m_gathered m_sets m_ranges m_nodes m_at m_flags m_fault m_place m_numbered m_depth m_value m_isNot m_least0 m_most0 m_slot m_work m_got m_rowMany m_charAt m_charWide m_trail m_isMatch m_matchGroups m_allFrom m_allBefore m_founds m_pieces m_writtenMany m_templateWide m_tooMuch) f_MO_164 d_MO_closeRound_48 h80.2.2 rfl ?_
      refine ab_iload_n d_MO_closeRound_51 rfl ?_
      refine zz_iald d_MO_closeRound_52 h130 (by omega) ?_
      refine ab_iload_n d_MO_closeRound_53 rfl ?_
      refine zz_iadd d_MO_closeRound_54 ?_
      refine zz_iald d_MO_closeRound_55 h133 (by omega) ?_
      have hq3 := gro ((WT w) + i_) (by omega) (by omega)
      refine ab_istore d_MO_closeRound_56 (Nat.le_of_ble_eq_true rfl) (Nat.le_of_ble_eq_true rfl) rfl ?_
      change ab_W _ _ _ G 58 [some (vR 80), some (vz w), some (vz (WP w)), some (vz i_), some (vz ((12500 * m_slot) + (RO ((WG w) + i_)))), some (vz (RO ((WT w) + i_)))] [] _
      refine ab_aload_n d_MO_closeRound_58 rfl ?_
      refine ab_getf (fs := mof m_thrown m_taped m_length m_out m_wide m_gathered m_sets m_ranges m_nodes m_at m_flags m_fault m_place m_numbered m_depth m_value m_isNot m_least0 m_most0 m_slot m_work m_got m_rowMany m_charAt m_charWide m_trail m_isMatch m_matchGroups m_allFrom m_allBefore m_founds m_pieces m_writtenMany m_templateWide m_tooMuch) f_MO_131 d_MO_closeRound_59 h80.2.2 rfl ?_
      refine ab_iload d_MO_closeRound_62 rfl ?_
      refine ab_aload_n d_MO_closeRound_64 rfl ?_
      refine ab_getf (fs := mof m_thrown m_taped m_length m_out m_wide m_gathered m_sets m_ranges m_nodes m_at m_flags m_fault m_place m_numbered m_depth m_value m_isNot m_least0 m_most0 m_slot m_work m_got m_rowMany m_charAt m_charWide m_trail m_isMatch m_matchGroups m_allFrom m_allBefore m_founds m_pieces m_writtenMany m_templateWide m_tooMuch) f_MO_72 d_MO_closeRound_65 h80.2.2 rfl ?_
      refine ab_iload_n d_MO_closeRound_68 rfl ?_
      refine zz_zald d_MO_closeRound_69 h101 (by omega) ?_
      have hq4 := jlz (WP w) (by omega) (by omega)
      refine zz_if_eq (tgt := 78) d_MO_closeRound_70 (by decide) (by omega) (fun c5 => ?_) (fun c5 => ?_)
      · refine ab_aload_n d_MO_closeRound_78 rfl ?_
        refine ab_getf (fs := mof m_thrown m_taped m_length m_out m_wide m_gathered m_sets m_ranges m_nodes m_at m_flags m_fault m_place m_numbered m_depth m_value m_isNot m_least0 m_most0 m_slot m_work m_got m_rowMany m_charAt m_charWide m_trail m_isMatch m_matchGroups m_allFrom m_allBefore m_founds m_pieces m_writtenMany m_templateWide m_tooMuch) f_MO_174 d_MO_closeRound_79 h80.2.2 rfl ?_
        refine ab_aload_n d_MO_closeRound_82 rfl ?_
        refine ab_getf (fs := mof m_thrown m_taped m_length m_out m_wide m_gathered m_sets m_ranges m_nodes m_at m_flags m_fault m_place m_numbered m_depth m_value m_isNot m_least0 m_most0 m_slot m_work m_got m_rowMany m_charAt m_charWide m_trail m_isMatch m_matchGroups m_allFrom m_allBefore m_founds m_pieces m_writtenMany m_templateWide m_tooMuch) f_MO_448 d_MO_closeRound_83 h80.2.2 rfl ?_
        refine ab_iload_n d_MO_closeRound_86 rfl ?_
        refine zz_iadd d_MO_closeRound_87 ?_
        refine zz_iald d_MO_closeRound_88 h133 (by omega) ?_
        have hq6 := gro (m_got + i_) (by omega) (by omega)
        refine zz_iast d_MO_closeRound_89 h119 (by omega) (h119.2.1 (by decide)) ?_
        obtain ⟨G7, eG7⟩ : ∃ z : ab_G, z = List.set G 119 (za 75000 (zu N ((12500 * m_slot) + (RO ((WG w) + i_))) (RO (m_got + i_)))) := ⟨_, rfl⟩
        have h80 := h80.keep h119 eG7 (by decide)
        have h101 := h101.keep h119 eG7 (by decide)
        have h133 := h133.keep h119 eG7 (by decide)
        have h120 := h120.keep h119 eG7 (by decide)
        have h129 := h129.keep h119 eG7 (by decide)
        have h131 := h131.keep h119 eG7 (by decide)
        have h130 := h130.keep h119 eG7 (by decide)
        have hlen := (z_len eG7).trans hlen
        have hsl := (z_sl h119 eG7 rfl).trans hsl
        have hfr := hfr.wr h119 eG7 (by decide)
        have h119 := h119.kept eG7
        change ab_W _ _ _ (List.set G 119 (za 75000 (zu N ((12500 * m_slot) + (RO ((WG w) + i_))) (RO (m_got + i_))))) 90 [some (vR 80), some (vz w), some (vz (WP w)), some (vz i_), some (vz ((12500 * m_slot) + (RO ((WG w) + i_)))), some (vz (RO ((WT w) + i_)))] [] _
        rw [← eG7]
        refine ab_aload_n d_MO_closeRound_90 rfl ?_
        refine ab_getf (fs := mof m_thrown m_taped m_length m_out m_wide m_gathered m_sets m_ranges m_nodes m_at m_flags m_fault m_place m_numbered m_depth m_value m_isNot m_least0 m_most0 m_slot m_work m_got m_rowMany m_charAt m_charWide m_trail m_isMatch m_matchGroups m_allFrom m_allBefore m_founds m_pieces m_writtenMany m_templateWide m_tooMuch) f_MO_134 d_MO_closeRound_91 h80.2.2 rfl ?_
        refine ab_iload d_MO_closeRound_94 rfl ?_
        refine ab_aload_n d_MO_closeRound_96 rfl ?_
        refine ab_getf (fs := mof m_thrown m_taped m_length m_out m_wide m_gathered m_sets m_ranges m_nodes m_at m_flags m_fault m_place m_numbered m_depth m_value m_isNot m_least0 m_most0 m_slot m_work m_got m_rowMany m_charAt m_charWide m_trail m_isMatch m_matchGroups m_allFrom m_allBefore m_founds m_pieces m_writtenMany m_templateWide m_tooMuch) f_MO_72 d_MO_closeRound_97 h80.2.2 rfl ?_
        refine ab_iload_n d_MO_closeRound_100 rfl ?_
        refine zz_zald d_MO_closeRound_101 h101 (by omega) ?_
        have hq8 := jlz (WP w) (by omega) (by omega)
        refine zz_if_eq (tgt := 119) d_MO_closeRound_102 (by decide) (by omega) (fun c9 => ?_) (fun c9 => absurd c9 (by omega))
        refine ab_iload d_MO_closeRound_119 rfl ?_
        refine zz_iast d_MO_closeRound_121 h120 (by omega) (h120.2.1 (by decide)) ?_
        obtain ⟨G10, eG10⟩ : ∃ z : ab_G, z = List.set G7 120 (za 75000 (zu W ((12500 * m_slot) + (RO ((WG w) + i_))) (RO ((WT w) + i_)))) := ⟨_, rfl⟩
        have h80 := h80.keep h120 eG10 (by decide)
        have h101 := h101.keep h120 eG10 (by decide)
        have h133 := h133.keep h120 eG10 (by decide)
        have h119 := h119.keep h120 eG10 (by decide)
        have h129 := h129.keep h120 eG10 (by decide)
        have h131 := h131.keep h120 eG10 (by decide)
        have h130 := h130.keep h120 eG10 (by decide)
        have hlen := (z_len eG10).trans hlen
        have hsl := (z_sl h120 eG10 rfl).trans hsl
        have hfr := hfr.wr h120 eG10 (by decide)
        have h120 := h120.kept eG10
        change ab_W _ _ _ (List.set G7 120 (za 75000 (zu W ((12500 * m_slot) + (RO ((WG w) + i_))) (RO ((WT w) + i_))))) 122 [some (vR 80), some (vz w), some (vz (WP w)), some (vz i_), some (vz ((12500 * m_slot) + (RO ((WG w) + i_)))), some (vz (RO ((WT w) + i_)))] [] _
        rw [← eG10]
        refine zz_iinc d_MO_closeRound_122 rfl (Nat.le_of_ble_eq_true rfl) (Nat.le_of_ble_eq_true rfl) rfl ?_
        change ab_W _ _ _ G10 125 [some (vR 80), some (vz w), some (vz (WP w)), some (vz (i_ + 1)), some (vz ((12500 * m_slot) + (RO ((WG w) + i_)))), some (vz (RO ((WT w) + i_)))] [] _
        refine ab_goto (tgt := 9) d_MO_closeRound_125 (by decide) ?_
        refine ab_less (L' := [some (vR 80), some (vz w), some (vz (WP w)), some (vz (i_ + 1)), none, none]) (fun i v h => by rcases i with _ | _ | _ | _ | _ | _ | i <;> first | exact h | (simp at h)) ?_
        exact ih (i_ := (i_ + 1)) (N := (zu N ((12500 * m_slot) + (RO ((WG w) + i_))) (RO (m_got + i_)))) (W := (zu W ((12500 * m_slot) + (RO ((WG w) + i_))) (RO ((WT w) + i_)))) h80 h101 h133 h119 h120 h129 h131 h130 (by omega) (rgs_zu gn (by omega)) (rgs_zu gw (by omega)) (by rw [h1_]; exact clr_s jc (by omega) (by omega) (by omega)) (by rw [h1_]; exact clx_s jx (by omega) ⟨fun q_ => (by first | exact ⟨rfl, rfl⟩ | (exfalso; omega)), fun q_ => (by first | exact ⟨rfl, rfl⟩ | (exfalso; omega))⟩) hfr hlen hsl (by omega) hk0
      · refine ab_iload d_MO_closeRound_73 rfl ?_
        refine ab_goto (tgt := 89) d_MO_closeRound_75 (by decide) ?_
        refine zz_iast d_MO_closeRound_89 h119 (by omega) (h119.2.1 (by decide)) ?_
        obtain ⟨G11, eG11⟩ : ∃ z : ab_G, z = List.set G 119 (za 75000 (zu N ((12500 * m_slot) + (RO ((WG w) + i_))) (RO ((WT w) + i_)))) := ⟨_, rfl⟩
        have h80 := h80.keep h119 eG11 (by decide)
        have h101 := h101.keep h119 eG11 (by decide)
        have h133 := h133.keep h119 eG11 (by decide)
        have h120 := h120.keep h119 eG11 (by decide)
        have h129 := h129.keep h119 eG11 (by decide)
        have h131 := h131.keep h119 eG11 (by decide)
        have h130 := h130.keep h119 eG11 (by decide)
        have hlen := (z_len eG11).trans hlen
        have hsl := (z_sl h119 eG11 rfl).trans hsl
        have hfr := hfr.wr h119 eG11 (by decide)
        have h119 := h119.kept eG11
        change ab_W _ _ _ (List.set G 119 (za 75000 (zu N ((12500 * m_slot) + (RO ((WG w) + i_))) (RO ((WT w) + i_))))) 90 [some (vR 80), some (vz w), some (vz (WP w)), some (vz i_), some (vz ((12500 * m_slot) + (RO ((WG w) + i_)))), some (vz (RO ((WT w) + i_)))] [] _
        rw [← eG11]
        refine ab_aload_n d_MO_closeRound_90 rfl ?_
        refine ab_getf (fs := mof m_thrown m_taped m_length m_out m_wide m_gathered m_sets m_ranges m_nodes m_at m_flags m_fault m_place m_numbered m_depth m_value m_isNot m_least0 m_most0 m_slot m_work m_got m_rowMany m_charAt m_charWide m_trail m_isMatch m_matchGroups m_allFrom m_allBefore m_founds m_pieces m_writtenMany m_templateWide m_tooMuch) f_MO_134 d_MO_closeRound_91 h80.2.2 rfl ?_
        refine ab_iload d_MO_closeRound_94 rfl ?_
        refine ab_aload_n d_MO_closeRound_96 rfl ?_
        refine ab_getf (fs := mof m_thrown m_taped m_length m_out m_wide m_gathered m_sets m_ranges m_nodes m_at m_flags m_fault m_place m_numbered m_depth m_value m_isNot m_least0 m_most0 m_slot m_work m_got m_rowMany m_charAt m_charWide m_trail m_isMatch m_matchGroups m_allFrom m_allBefore m_founds m_pieces m_writtenMany m_templateWide m_tooMuch) f_MO_72 d_MO_closeRound_97 h80.2.2 rfl ?_
        refine ab_iload_n d_MO_closeRound_100 rfl ?_
        refine zz_zald d_MO_closeRound_101 h101 (by omega) ?_
        have hq12 := jlz (WP w) (by omega) (by omega)
        refine zz_if_eq (tgt := 119) d_MO_closeRound_102 (by decide) (by omega) (fun c13 => absurd c13 (by omega)) (fun c13 => ?_)
        refine ab_aload_n d_MO_closeRound_105 rfl ?_
        refine ab_getf (fs := mof m_thrown m_taped m_length m_out m_wide m_gathered m_sets m_ranges m_nodes m_at m_flags m_fault m_place m_numbered m_depth m_value m_isNot m_least0 m_most0 m_slot m_work m_got m_rowMany m_charAt m_charWide m_trail m_isMatch m_matchGroups m_allFrom m_allBefore m_founds m_pieces m_writtenMany m_templateWide m_tooMuch) f_MO_174 d_MO_closeRound_106 h80.2.2 rfl ?_
        refine ab_aload_n d_MO_closeRound_109 rfl ?_
        refine ab_getf (fs := mof m_thrown m_taped m_length m_out m_wide m_gathered m_sets m_ranges m_nodes m_at m_flags m_fault m_place m_numbered m_depth m_value m_isNot m_least0 m_most0 m_slot m_work m_got m_rowMany m_charAt m_charWide m_trail m_isMatch m_matchGroups m_allFrom m_allBefore m_founds m_pieces m_writtenMany m_templateWide m_tooMuch) f_MO_448 d_MO_closeRound_110 h80.2.2 rfl ?_
        refine ab_iload_n d_MO_closeRound_113 rfl ?_
        refine zz_iadd d_MO_closeRound_114 ?_
        refine zz_iald d_MO_closeRound_115 h133 (by omega) ?_
        have hq14 := gro (m_got + i_) (by omega) (by omega)
        refine ab_goto (tgt := 121) d_MO_closeRound_116 (by decide) ?_
        refine zz_iast d_MO_closeRound_121 h120 (by omega) (h120.2.1 (by decide)) ?_
        obtain ⟨G15, eG15⟩ : ∃ z : ab_G, z = List.set G11 120 (za 75000 (zu W ((12500 * m_slot) + (RO ((WG w) + i_))) (RO (m_got + i_)))) := ⟨_, rfl⟩
        have h80 := h80.keep h120 eG15 (by decide)
        have h101 := h101.keep h120 eG15 (by decide)
        have h133 := h133.keep h120 eG15 (by decide)
        have h119 := h119.keep h120 eG15 (by decide)
        have h129 := h129.keep h120 eG15 (by decide)
        have h131 := h131.keep h120 eG15 (by decide)
        have h130 := h130.keep h120 eG15 (by decide)
        have hlen := (z_len eG15).trans hlen
        have hsl := (z_sl h120 eG15 rfl).trans hsl
        have hfr := hfr.wr h120 eG15 (by decide)
        have h120 := h120.kept eG15
        change ab_W _ _ _ (List.set G11 120 (za 75000 (zu W ((12500 * m_slot) + (RO ((WG w) + i_))) (RO (m_got + i_))))) 122 [some (vR 80), some (vz w), some (vz (WP w)), some (vz i_), some (vz ((12500 * m_slot) + (RO ((WG w) + i_)))), some (vz (RO ((WT w) + i_)))] [] _
        rw [← eG15]
        refine zz_iinc d_MO_closeRound_122 rfl (Nat.le_of_ble_eq_true rfl) (Nat.le_of_ble_eq_true rfl) rfl ?_
        change ab_W _ _ _ G15 125 [some (vR 80), some (vz w), some (vz (WP w)), some (vz (i_ + 1)), some (vz ((12500 * m_slot) + (RO ((WG w) + i_)))), some (vz (RO ((WT w) + i_)))] [] _
        refine ab_goto (tgt := 9) d_MO_closeRound_125 (by decide) ?_
        refine ab_less (L' := [some (vR 80), some (vz w), some (vz (WP w)), some (vz (i_ + 1)), none, none]) (fun i v h => by rcases i with _ | _ | _ | _ | _ | _ | i <;> first | exact h | (simp at h)) ?_
        exact ih (i_ := (i_ + 1)) (N := (zu N ((12500 * m_slot) + (RO ((WG w) + i_))) (RO ((WT w) + i_)))) (W := (zu W ((12500 * m_slot) + (RO ((WG w) + i_))) (RO (m_got + i_)))) h80 h101 h133 h119 h120 h129 h131 h130 (by omega) (rgs_zu gn (by omega)) (rgs_zu gw (by omega)) (by rw [h1_]; exact clr_s jc (by omega) (by omega) (by omega)) (by rw [h1_]; exact clx_s jx (by omega) ⟨fun q_ => (by first | exact ⟨rfl, rfl⟩ | (exfalso; omega)), fun q_ => (by first | exact ⟨rfl, rfl⟩ | (exfalso; omega))⟩) hfr hlen hsl (by omega) hk0
set_option maxRecDepth 100000 in
set_option maxHeartbeats 4000000 in
theorem z_MO_closeRound {X : ab_X} {d : Nat} {o : Nat → Nat} {G : ab_G} {m_thrown : Int} {m_taped : Int} {m_length : Int} {m_out : Int} {m_wide : Int} {m_gathered : Int} {m_sets : Int} {m_ranges : Int} {m_nodes : Int} {m_at : Int} {m_flags : Int} {m_fault : Int} {m_place : Int} {m_numbered : Int} {m_depth : Int} {m_value : Int} {m_isNot : Int} {m_least0 : Int} {m_most0 : Int} {m_slot : Int} {m_work : Int} {m_got : Int} {m_rowMany : Int} {m_charAt : Int} {m_charWide : Int} {m_trail : Int} {m_isMatch : Int} {m_matchGroups : Int} {m_allFrom : Int} {m_allBefore : Int} {m_founds : Int} {m_pieces : Int} {m_writtenMany : Int} {m_templateWide : Int} {m_tooMuch : Int} {N : Int → Int} {W : Int → Int} {SN : Int → Int} {RO : Int → Int} {WP : Int → Int} {WD : Int → Int} {WT : Int → Int} {WG : Int → Int} {LZ : Int → Int} {w : Int} {n1 : Int} (h80 : cc o G 80 280 (ab_ob 12 (mof m_thrown m_taped m_length m_out m_wide m_gathered m_sets m_ranges m_nodes m_at m_flags m_fault m_place m_numbered m_depth m_value m_isNot m_least0 m_most0 m_slot m_work m_got m_rowMany m_charAt m_charWide m_trail m_isMatch m_matchGroups m_allFrom m_allBefore m_founds m_pieces m_writtenMany m_templateWide m_tooMuch))) (h101 : cc o G 101 301 (zb 4200 LZ)) (h133 : cc o G 133 333 (za 40000 RO)) (h119 : cc o G 119 319 (za 75000 N)) (h120 : cc o G 120 320 (za 75000 W)) (h129 : cc o G 129 329 (za 300 WD)) (h131 : cc o G 131 331 (za 300 WG)) (h130 : cc o G 130 330 (za 300 WT)) (h128 : cc o G 128 328 (za 300 WP)) (n18 : ab_n0 = 18) (csl : 0 ≤ m_slot ∧ m_slot ≤ 5) (gro : rgs RO 40000 0 12499) (jlz : rgs LZ 4200 0 1) (cw : 0 ≤ w ∧ w < 300 ∧ 0 ≤ WP w ∧ WP w < 4200 ∧ 0 ≤ WD w ∧ WD w ≤ 30 ∧ 0 ≤ WG w ∧ WG w + 32 ≤ 40000 ∧ 0 ≤ WT w ∧ WT w + 32 ≤ 40000 ∧ 0 ≤ m_got ∧ m_got + 32 ≤ 40000 ∧ 0 ≤ n1 ∧ n1 + WD w + 1 ≤ (SN m_slot) ∧ (SN m_slot) ≤ 12500) (jwq : rsq RO (WG w) (WD w + 1) n1) (jto : rokk RO (WT w) (WD w + 1) (SN m_slot)) (jgo : rokk RO m_got (WD w + 1) (SN m_slot)) (gn : rgs N 75000 (-1) 12499) (gw : rgs W 75000 (-1) 12499) (hd : 2 ≤ d) : ab_F X d y_MO_closeRound (.code y_MO_closeRound b_MO_closeRound 6 none) [vR 80, vz w] G (fun oc G2 => ∃ N2 : Int → Int, ∃ W2 : Int → Int, oc = .returned none ∧ fx o o [319, 320] G G2 ∧ G2.length = G.length ∧ ab_slots G2 = ab_slots G ∧ cc o G2 119 319 (za 75000 N2) ∧ cc o G2 120 320 (za 75000 W2) ∧ (rgs N2 75000 (-1) 12499) ∧ (rgs W2 75000 (-1) 12499) ∧ (clr N W N2 W2 (12500 * m_slot) n1 (WD w + 1) (SN m_slot)) ∧ (clx N2 W2 RO m_slot n1 (WD w + 1) (LZ (WP w)) m_got (WT w))) := by
  refine ab_F_of (by decide +kernel) (Nat.le_of_ble_eq_true rfl) ?_
  obtain ⟨Q, hQ⟩ : ∃ z : Outcome → ab_G → Prop, z = (fun oc G2 => ∃ N2 : Int → Int, ∃ W2 : Int → Int, oc = .returned none ∧ fx o o [319, 320] G G2 ∧ G2.length = G.length ∧ ab_slots G2 = ab_slots G ∧ cc o G2 119 319 (za 75000 N2) ∧ cc o G2 120 320 (za 75000 W2) ∧ (rgs N2 75000 (-1) 12499) ∧ (rgs W2 75000 (-1) 12499) ∧ (clr N W N2 W2 (12500 * m_slot) n1 (WD w + 1) (SN m_slot)) ∧ (clx N2 W2 RO m_slot n1 (WD w + 1) (LZ (WP w)) m_got (WT w))) := ⟨_, rfl⟩
  rw [← hQ]
  change ab_W X (ab_pl y_MO_closeRound b_MO_closeRound 6 none) d G 0 [some (vR 80), some (vz w), none, none, none, none] [] Q
  have hfr : fx o o [319, 320] G G := fx.rf
  have hlen : G.length = G.length := rfl
  have hsl : ab_slots G = ab_slots G := rfl
  refine ab_aload_n d_MO_closeRound_0 rfl ?_
  refine ab_getf (fs := mof m_thrown m_taped m_length m_out m_wide m_gathered m_sets m_ranges m_nodes m_at m_flags m_fault m_place m_numbered m_depth m_value m_isNot m_least0 m_most0 m_slot m_work m_got m_rowMany m_charAt m_charWide m_trail m_isMatch m_matchGroups m_allFrom m_allBefore m_founds m_pieces m_writtenMany m_templateWide m_tooMuch) f_MO_158 d_MO_closeRound_1 h80.2.2 rfl ?_
  refine ab_iload_n d_MO_closeRound_4 rfl ?_
  refine zz_iald d_MO_closeRound_5 h128 (by omega) ?_
  refine ab_istore_n d_MO_closeRound_6 (Nat.le_of_ble_eq_true rfl) (Nat.le_of_ble_eq_true rfl) rfl ?_
  change ab_W _ _ _ G 7 [some (vR 80), some (vz w), some (vz (WP w)), none, none, none] [] _
  refine zz_iconst d_MO_closeRound_7 ?_
  refine ab_istore_n d_MO_closeRound_8 (Nat.le_of_ble_eq_true rfl) (Nat.le_of_ble_eq_true rfl) rfl ?_
  change ab_W _ _ _ G 9 [some (vR 80), some (vz w), some (vz (WP w)), some (vz 0), none, none] [] _
  refine y_MO_closeRound_9 (m_thrown := m_thrown) (m_taped := m_taped) (m_length := m_length) (m_out := m_out) (m_wide := m_wide) (m_gathered := m_gathered) (m_sets := m_sets) (m_ranges := m_ranges) (m_nodes := m_nodes) (m_at := m_at) (m_flags := m_flags) (m_fault := m_fault) (m_place := m_place) (m_numbered := m_numbered) (m_depth := m_depth) (m_value := m_value) (m_isNot := m_isNot) (m_least0 := m_least0) (m_most0 := m_most0) (m_slot := m_slot) (m_work := m_work) (m_got := m_got) (m_rowMany := m_rowMany) (m_charAt := m_charAt) (m_charWide := m_charWide) (m_trail := m_trail) (m_isMatch := m_isMatch) (m_matchGroups := m_matchGroups) (m_allFrom := m_allFrom) (m_allBefore := m_allBefore) (m_founds := m_founds) (m_pieces := m_pieces) (m_writtenMany := m_writtenMany) (m_templateWide := m_templateWide) (m_tooMuch := m_tooMuch) (SN := SN) (RO := RO) (WD := WD) (WT := WT) (WG := WG) (N0 := N) (W0 := W) (LZ := LZ) (w := w) (n1 := n1) (G0 := G) (i_ := 0) (N := N) (W := W) (by omega) (by omega) gro jlz (by omega) jwq jto jgo (by omega) (Int.toNat (WD w + 1 - 0) + 1) h80 h101 h133 h119 h120 h129 h131 h130 (by omega) gn gw clr_0 clx_0 fx.rf rfl rfl (by omega) (fun G1 N22 W23 hN119 hN120 hq4 hq5 hq6 hq7 hfk hlk hsk => ?_)
  · have h80 := hfk.get h80 (by decide)
    have h101 := hfk.get h101 (by decide)
    have h133 := hfk.get h133 (by decide)
    have h129 := hfk.get h129 (by decide)
    have h131 := hfk.get h131 (by decide)
    have h130 := hfk.get h130 (by decide)
    have h128 := hfk.get h128 (by decide)
    have hfr := hfr.tr hfk (by decide)
    have hlen := hlk.trans hlen
    have hsl := hsk.trans hsl
    have h119 := hN119
    have h120 := hN120
    change ab_W _ _ _ G1 128 [none, none, none, none, none, none] [] _
    refine ab_vret rfl d_MO_closeRound_128 ?_
    rw [hQ]; exact ⟨_, _, rfl, hfr, hlen, hsl, h119, h120, (by first | exact hq4 | exact rgs_w hq4 (by omega)), (by first | exact hq5 | exact rgs_w hq5 (by omega)), (by exact hq6), (by exact hq7)⟩
set_option maxRecDepth 100000 in
set_option maxHeartbeats 4000000 in
theorem z_MO_goRepeat_o {X : ab_X} {d : Nat} {o : Nat → Nat} {G : ab_G} {m_thrown : Int} {m_taped : Int} {m_length : Int} {m_out : Int} {m_wide : Int} {m_gathered : Int} {m_sets : Int} {m_ranges : Int} {m_nodes : Int} {m_at : Int} {m_flags : Int} {m_fault : Int} {m_place : Int} {m_numbered : Int} {m_depth : Int} {m_value : Int} {m_isNot : Int} {m_least0 : Int} {m_most0 : Int} {m_slot : Int} {m_work : Int} {m_got : Int} {m_rowMany : Int} {m_charAt : Int} {m_charWide : Int} {m_trail : Int} {m_isMatch : Int} {m_matchGroups : Int} {m_allFrom : Int} {m_allBefore : Int} {m_founds : Int} {m_pieces : Int} {m_writtenMany : Int} {m_templateWide : Int} {m_tooMuch : Int} {T : Int → Int} {N : Int → Int} {W : Int → Int} {CA : Int → Int} {CM : Int → Int} {CL : Int → Int} {CH : Int → Int} {SN : Int → Int} {CC : Int → Int} {RO : Int → Int} {WP : Int → Int} {WD : Int → Int} {WT : Int → Int} {WG : Int → Int} {WS : Int → Int} {K : Int → Int} {O : Int → Int} {Fi : Int → Int} {Be : Int → Int} {Le : Int → Int} {Mo : Int → Int} {Z : Int → Int} {LZ : Int → Int} {SM : Int → Int} {SA : Int → Int} {RL : Int → Int} {RH : Int → Int} {w : Int} {ns : Int} {nd : Int} (h80 : cc o G 80 280 (ab_ob 12 (mof m_thrown m_taped m_length m_out m_wide m_gathered m_sets m_ranges m_nodes m_at m_flags m_fault m_place m_numbered m_depth m_value m_isNot m_least0 m_most0 m_slot m_work m_got m_rowMany m_charAt m_charWide m_trail m_isMatch m_matchGroups m_allFrom m_allBefore m_founds m_pieces m_writtenMany m_templateWide m_tooMuch))) (h94 : cc o G 94 294 (za 4200 K)) (h95 : cc o G 95 295 (za 4200 O)) (h96 : cc o G 96 296 (za 4200 Fi)) (h97 : cc o G 97 297 (za 4200 Be)) (h98 : cc o G 98 298 (za 4200 Le)) (h99 : cc o G 99 299 (za 4200 Mo)) (h100 : cc o G 100 300 (zl 4200 Z)) (h101 : cc o G 101 301 (zb 4200 LZ)) (h90 : cc o G 90 290 (za 2100 SM)) (h89 : cc o G 89 289 (za 2100 SA)) (h91 : cc o G 91 291 (za 24000 RL)) (h92 : cc o G 92 292 (za 24000 RH)) (h118 : cc o G 118 318 (za 75000 T)) (h119 : cc o G 119 319 (za 75000 N)) (h120 : cc o G 120 320 (za 75000 W)) (h121 : cc o G 121 321 (za 75000 CA)) (h122 : cc o G 122 322 (za 75000 CM)) (h123 : cc o G 123 323 (za 3600 CL)) (h124 : cc o G 124 324 (za 3600 CH)) (h117 : cc o G 117 317 (za 6 SN)) (h125 : cc o G 125 325 (za 6 CC)) (h133 : cc o G 133 333 (za 40000 RO)) (h128 : cc o G 128 328 (za 300 WP)) (h129 : cc o G 129 329 (za 300 WD)) (h130 : cc o G 130 330 (za 300 WT)) (h131 : cc o G 131 331 (za 300 WG)) (h132 : cc o G 132 332 (za 300 WS)) (n18 : ab_n0 = 18) (csl : 0 ≤ m_slot ∧ m_slot ≤ 5) (jrl : rgs RL 24000 0 1114111) (jrh : rgs RH 24000 0 1114111) (jk : rgs K 4200 0 7) (jo : rgs O 4200 (-1) 3000) (jfi : rgs Fi 4200 (-1) 4199) (jbe : rgs Be 4200 (-1) 4199) (jle : rgs Le 4200 0 1000) (jmo : rgs Mo 4200 (-1) 1000) (jz : rgs Z 4200 (-1) 1000000000000) (jlz : rgs LZ 4200 0 1) (jsm : rgs SM 2100 0 24000) (jsa : rgs SA 2100 0 24000) (gt : rgs T 75000 0 6) (gn : rgs N 75000 (-1) 12499) (gw : rgs W 75000 (-1) 12499) (gca : rgs CA 75000 0 3600) (gcm : rgs CM 75000 0 24000) (gcl : rgs CL 3600 0 1114111) (gch : rgs CH 3600 0 1114111) (gsn : rgs SN 6 0 12500) (gcc : rgs CC 6 0 600) (gro : rgs RO 40000 0 12499) (gwp : rgs WP 300 0 4199) (gwd : rgs WD 300 0 31) (gwt : rgs WT 300 0 39968) (gwg : rgs WG 300 0 39968) (gws : rgs WS 300 0 4300) (jka : tka T W CA CM SM SA RL RH CL CH (12500 * m_slot) (SN m_slot) m_slot (CC m_slot) ns) (jss : sas SA SM ns) (cst : 0 ≤ m_rowMany ∧ m_rowMany ≤ 1250 ∧ 0 ≤ (SN m_slot) ∧ (SN m_slot) ≤ 12500 ∧ 0 ≤ ns ∧ ns ≤ 2100) (cw : 0 ≤ w ∧ m_work = w + 1 ∧ w < 299) (cx : 0 ≤ WP w ∧ WP w < nd ∧ 0 ≤ nd ∧ nd ≤ 4200 ∧ 0 ≤ WD w ∧ WD w ≤ 31 ∧ 0 ≤ WT w ∧ WT w + 32 ≤ 32 * m_rowMany) (ck : K (WP w) = 7) (cfi : 0 ≤ Fi (WP w) ∧ Fi (WP w) < nd) (clm : 0 ≤ Le (WP w) ∧ Le (WP w) ≤ 100 ∧ -1 ≤ Mo (WP w) ∧ Mo (WP w) ≤ 100) (cs0 : WS w = 0) (crs : m_rowMany ≤ 1248 ∧ 2 ≤ (SN m_slot) ∧ (SN m_slot) + WD w + 1 ≤ 12500 ∧ WD w ≤ 30) (cmo : Mo (WP w) < 0) (hd : 5 ≤ d) : ab_F X d y_MO_goRepeat (.code y_MO_goRepeat b_MO_goRepeat 6 none) [vR 80, vz w] G (fun oc G2 => ∃ c2 : Int, ∃ t2 : Int, ∃ u2 : Int, ∃ WP2 : Int → Int, ∃ WD2 : Int → Int, ∃ WT2 : Int → Int, ∃ WG2 : Int → Int, ∃ WS2 : Int → Int, ∃ RO2 : Int → Int, ∃ T2 : Int → Int, ∃ N2 : Int → Int, ∃ W2 : Int → Int, ∃ SN2 : Int → Int, oc = .returned none ∧ fx o o [280, 328, 329, 330, 331, 332, 333, 318, 319, 320, 317] G G2 ∧ G2.length = G.length ∧ ab_slots G2 = ab_slots G ∧ cc o G2 80 280 (ab_ob 12 (mof m_thrown m_taped m_length m_out m_wide m_gathered m_sets m_ranges m_nodes m_at m_flags m_fault m_place m_numbered m_depth m_value m_isNot m_least0 m_most0 m_slot (m_work + 1) m_got ((m_rowMany + 1) + 1) m_charAt m_charWide m_trail m_isMatch m_matchGroups m_allFrom m_allBefore m_founds m_pieces m_writtenMany m_templateWide m_tooMuch)) ∧ cc o G2 128 328 (za 300 WP2) ∧ cc o G2 129 329 (za 300 WD2) ∧ cc o G2 130 330 (za 300 WT2) ∧ cc o G2 131 331 (za 300 WG2) ∧ cc o G2 132 332 (za 300 WS2) ∧ cc o G2 133 333 (za 40000 RO2) ∧ cc o G2 118 318 (za 75000 T2) ∧ cc o G2 119 319 (za 75000 N2) ∧ cc o G2 120 320 (za 75000 W2) ∧ cc o G2 117 317 (za 6 SN2) ∧ (rgs WP2 300 0 4199) ∧ (rgs WD2 300 0 31) ∧ (rgs WT2 300 0 39968) ∧ (rgs WG2 300 0 39968) ∧ (rgs WS2 300 0 4300) ∧ (fsm WP WD WT WG WS WP2 WD2 WT2 WG2 WS2 w) ∧ (WP2 m_work = c2) ∧ (WD2 m_work = WD w + 1) ∧ (WT2 m_work = t2) ∧ (WG2 m_work = t2) ∧ (WS2 m_work = 0) ∧ (WP2 w = WP w) ∧ (WD2 w = WD w) ∧ (WT2 w = WT w) ∧ (WG2 w = u2) ∧ (WS2 w = 1) ∧ (c2 = Fi (WP w)) ∧ (t2 = (32 * (m_rowMany + 1))) ∧ (u2 = (32 * m_rowMany)) ∧ (rgs RO2 40000 0 12499) ∧ (rgs T2 75000 0 6) ∧ (rgs N2 75000 (-1) 12499) ∧ (rgs W2 75000 (-1) 12499) ∧ (rgs SN2 6 0 12500) ∧ (SN2 m_slot = (SN m_slot) + WD w + 1) ∧ (rsm RO RO2 (32 * m_rowMany)) ∧ (rsq RO2 (32 * m_rowMany) (WD w + 1) (SN m_slot)) ∧ (rokk RO2 (32 * (m_rowMany + 1)) (WD w + 2) (SN2 m_slot)) ∧ (spl T2 (12500 * m_slot) (SN m_slot) (SN2 m_slot)) ∧ (stx T N W CA CM T2 N2 W2 CA CM (12500 * m_slot) (SN m_slot)) ∧ (sno SN SN2 m_slot) ∧ (tka T2 W2 CA CM SM SA RL RH CL CH (12500 * m_slot) (SN2 m_slot) m_slot (CC m_slot) ns) ∧ (rAl RO2 (32 * (m_rowMany + 1)) (WD w + 1) 1) ∧ (RO2 ((32 * (m_rowMany + 1)) + (WD w + 1)) = (SN m_slot) + WD w)) := by
  refine ab_F_of (by decide +kernel) (Nat.le_of_ble_eq_true rfl) ?_
  obtain ⟨Q, hQ⟩ : ∃ z : Outcome → ab_G → Prop, z = (fun oc G2 => ∃ c2 : Int, ∃ t2 : Int, ∃ u2 : Int, ∃ WP2 : Int → Int, ∃ WD2 : Int → Int, ∃ WT2 : Int → Int, ∃ WG2 : Int → Int, ∃ WS2 : Int → Int, ∃ RO2 : Int → Int, ∃ T2 : Int → Int, ∃ N2 : Int → Int, ∃ W2 : Int → Int, ∃ SN2 : Int → Int, oc = .returned none ∧ fx o o [280, 328, 329, 330, 331, 332, 333, 318, 319, 320, 317] G G2 ∧ G2.length = G.length ∧ ab_slots G2 = ab_slots G ∧ cc o G2 80 280 (ab_ob 12 (mof m_thrown m_taped m_length m_out m_wide m_gathered m_sets m_ranges m_nodes m_at m_flags m_fault m_place m_numbered m_depth m_value m_isNot m_least0 m_most0 m_slot (m_work + 1) m_got ((m_rowMany + 1) + 1) m_charAt m_charWide m_trail m_isMatch m_matchGroups m_allFrom m_allBefore m_founds m_pieces m_writtenMany m_templateWide m_tooMuch)) ∧ cc o G2 128 328 (za 300 WP2) ∧ cc o G2 129 329 (za 300 WD2) ∧ cc o G2 130 330 (za 300 WT2) ∧ cc o G2 131 331 (za 300 WG2) ∧ cc o G2 132 332 (za 300 WS2) ∧ cc o G2 133 333 (za 40000 RO2) ∧ cc o G2 118 318 (za 75000 T2) ∧ cc o G2 119 319 (za 75000 N2) ∧ cc o G2 120 320 (za 75000 W2) ∧ cc o G2 117 317 (za 6 SN2) ∧ (rgs WP2 300 0 4199) ∧ (rgs WD2 300 0 31) ∧ (rgs WT2 300 0 39968) ∧ (rgs WG2 300 0 39968) ∧ (rgs WS2 300 0 4300) ∧ (fsm WP WD WT WG WS WP2 WD2 WT2 WG2 WS2 w) ∧ (WP2 m_work = c2) ∧ (WD2 m_work = WD w + 1) ∧ (WT2 m_work = t2) ∧ (WG2 m_work = t2) ∧ (WS2 m_work = 0) ∧ (WP2 w = WP w) ∧ (WD2 w = WD w) ∧ (WT2 w = WT w) ∧ (WG2 w = u2) ∧ (WS2 w = 1) ∧ (c2 = Fi (WP w)) ∧ (t2 = (32 * (m_rowMany + 1))) ∧ (u2 = (32 * m_rowMany)) ∧ (rgs RO2 40000 0 12499) ∧ (rgs T2 75000 0 6) ∧ (rgs N2 75000 (-1) 12499) ∧ (rgs W2 75000 (-1) 12499) ∧ (rgs SN2 6 0 12500) ∧ (SN2 m_slot = (SN m_slot) + WD w + 1) ∧ (rsm RO RO2 (32 * m_rowMany)) ∧ (rsq RO2 (32 * m_rowMany) (WD w + 1) (SN m_slot)) ∧ (rokk RO2 (32 * (m_rowMany + 1)) (WD w + 2) (SN2 m_slot)) ∧ (spl T2 (12500 * m_slot) (SN m_slot) (SN2 m_slot)) ∧ (stx T N W CA CM T2 N2 W2 CA CM (12500 * m_slot) (SN m_slot)) ∧ (sno SN SN2 m_slot) ∧ (tka T2 W2 CA CM SM SA RL RH CL CH (12500 * m_slot) (SN2 m_slot) m_slot (CC m_slot) ns) ∧ (rAl RO2 (32 * (m_rowMany + 1)) (WD w + 1) 1) ∧ (RO2 ((32 * (m_rowMany + 1)) + (WD w + 1)) = (SN m_slot) + WD w)) := ⟨_, rfl⟩
  rw [← hQ]
  change ab_W X (ab_pl y_MO_goRepeat b_MO_goRepeat 6 none) d G 0 [some (vR 80), some (vz w), none, none, none, none] [] Q
  have hfr : fx o o [280, 328, 329, 330, 331, 332, 333, 318, 319, 320, 317] G G := fx.rf
  have hlen : G.length = G.length := rfl
  have hsl : ab_slots G = ab_slots G := rfl
  refine ab_aload_n d_MO_goRepeat_0 rfl ?_
  refine ab_getf (fs := mof m_thrown m_taped m_length m_out m_wide m_gathered m_sets m_ranges m_nodes m_at m_flags m_fault m_place m_numbered m_depth m_value m_isNot m_least0 m_most0 m_slot m_work m_got m_rowMany m_charAt m_charWide m_trail m_isMatch m_matchGroups m_allFrom m_allBefore m_founds m_pieces m_writtenMany m_templateWide m_tooMuch) f_MO_158 d_MO_goRepeat_1 h80.2.2 rfl ?_
  refine ab_iload_n d_MO_goRepeat_4 rfl ?_
  refine zz_iald d_MO_goRepeat_5 h128 (by omega) ?_
  have hq1 := gwp w (by omega) (by omega)
  refine ab_istore_n d_MO_goRepeat_6 (Nat.le_of_ble_eq_true rfl) (Nat.le_of_ble_eq_true rfl) rfl ?_
  change ab_W _ _ _ G 7 [some (vR 80), some (vz w), some (vz (WP w)), none, none, none] [] _
  refine ab_aload_n d_MO_goRepeat_7 rfl ?_
  refine ab_getf (fs := mof m_thrown m_taped m_length m_out m_wide m_gathered m_sets m_ranges m_nodes m_at m_flags m_fault m_place m_numbered m_depth m_value m_isNot m_least0 m_most0 m_slot m_work m_got m_rowMany m_charAt m_charWide m_trail m_isMatch m_matchGroups m_allFrom m_allBefore m_founds m_pieces m_writtenMany m_templateWide m_tooMuch) f_MO_170 d_MO_goRepeat_8 h80.2.2 rfl ?_
  refine ab_iload_n d_MO_goRepeat_11 rfl ?_
  refine zz_iald d_MO_goRepeat_12 h132 (by omega) ?_
  have hq2 := gws w (by omega) (by omega)
  refine ab_istore_n d_MO_goRepeat_13 (Nat.le_of_ble_eq_true rfl) (Nat.le_of_ble_eq_true rfl) rfl ?_
  change ab_W _ _ _ G 14 [some (vR 80), some (vz w), some (vz (WP w)), some (vz (WS w)), none, none] [] _
  refine ab_aload_n d_MO_goRepeat_14 rfl ?_
  refine ab_getf (fs := mof m_thrown m_taped m_length m_out m_wide m_gathered m_sets m_ranges m_nodes m_at m_flags m_fault m_place m_numbered m_depth m_value m_isNot m_least0 m_most0 m_slot m_work m_got m_rowMany m_charAt m_charWide m_trail m_isMatch m_matchGroups m_allFrom m_allBefore m_founds m_pieces m_writtenMany m_templateWide m_tooMuch) f_MO_65 d_MO_goRepeat_15 h80.2.2 rfl ?_
  refine ab_iload_n d_MO_goRepeat_18 rfl ?_
  refine zz_iald d_MO_goRepeat_19 h99 (by omega) ?_
  have hq3 := jmo (WP w) (by omega) (by omega)
  refine zz_if_ge (tgt := 27) d_MO_goRepeat_20 (by decide) (by omega) (fun c4 => absurd c4 (by omega)) (fun c4 => ?_)
  refine zz_iconst d_MO_goRepeat_23 ?_
  refine ab_goto (tgt := 28) d_MO_goRepeat_24 (by decide) ?_
  refine ab_istore d_MO_goRepeat_28 (Nat.le_of_ble_eq_true rfl) (Nat.le_of_ble_eq_true rfl) rfl ?_
  change ab_W _ _ _ G 30 [some (vR 80), some (vz w), some (vz (WP w)), some (vz (WS w)), some (vz 1), none] [] _
  refine ab_iload d_MO_goRepeat_30 rfl ?_
  refine zz_if_eq (tgt := 39) d_MO_goRepeat_32 (by decide) (by decide) (fun c5 => absurd c5 (by decide)) (fun c5 => ?_)
  refine zz_iconst d_MO_goRepeat_35 ?_
  refine ab_goto (tgt := 52) d_MO_goRepeat_36 (by decide) ?_
  refine ab_istore d_MO_goRepeat_52 (Nat.le_of_ble_eq_true rfl) (Nat.le_of_ble_eq_true rfl) rfl ?_
  change ab_W _ _ _ G 54 [some (vR 80), some (vz w), some (vz (WP w)), some (vz (WS w)), some (vz 1), some (vz 1)] [] _
  refine ab_iload d_MO_goRepeat_54 rfl ?_
  refine zz_if_eq (tgt := 69) d_MO_goRepeat_56 (by decide) (by decide) (fun c6 => absurd c6 (by decide)) (fun c6 => ?_)
  refine ab_iload_n d_MO_goRepeat_59 rfl ?_
  refine zz_if_ne (tgt := 69) d_MO_goRepeat_60 (by decide) (by omega) (fun c7 => absurd c7 (by omega)) (fun c7 => ?_)
  refine ab_aload_n d_MO_goRepeat_63 rfl ?_
  refine ab_iload_n d_MO_goRepeat_64 rfl ?_
  refine ab_callV (d' := d - 1) (as := [vz w]) (st := []) (r := _) (z_MO_openRound (o := o) (m_thrown := m_thrown) (m_taped := m_taped) (m_length := m_length) (m_out := m_out) (m_wide := m_wide) (m_gathered := m_gathered) (m_sets := m_sets) (m_ranges := m_ranges) (m_nodes := m_nodes) (m_at := m_at) (m_flags := m_flags) (m_fault := m_fault) (m_place := m_place) (m_numbered := m_numbered) (m_depth := m_depth) (m_value := m_value) (m_isNot := m_isNot) (m_least0 := m_least0) (m_most0 := m_most0) (m_slot := m_slot) (m_work := m_work) (m_got := m_got) (m_rowMany := m_rowMany) (m_charAt := m_charAt) (m_charWide := m_charWide) (m_trail := m_trail) (m_isMatch := m_isMatch) (m_matchGroups := m_matchGroups) (m_allFrom := m_allFrom) (m_allBefore := m_allBefore) (m_founds := m_founds) (m_pieces := m_pieces) (m_writtenMany := m_writtenMany) (m_templateWide := m_templateWide) (m_tooMuch := m_tooMuch) (T := T) (N := N) (W := W) (CA := CA) (CM := CM) (CL := CL) (CH := CH) (SN := SN) (CC := CC) (RO := RO) (WP := WP) (WD := WD) (WT := WT) (WG := WG) (WS := WS) (K := K) (O := O) (Fi := Fi) (Be := Be) (Le := Le) (Mo := Mo) (Z := Z) (LZ := LZ) (SM := SM) (SA := SA) (RL := RL) (RH := RH) (w := w) h80 h94 h95 h96 h97 h98 h99 h100 h101 h90 h89 h91 h92 h118 h119 h120 h121 h122 h123 h124 h117 h125 h133 h128 h129 h130 h131 h132 (by omega) (by omega) jrl jrh jk jo jfi jbe jle jmo jz jlz jsm jsa gt gn gw gca gcm gcl gch gsn gcc gro gwp gwd gwt gwg gws jka jss (by omega) (by omega) (by omega) (by omega) (by omega) (by omega) (by omega) (by omega) (by omega)) (fun oc G2 h => by rcases h with ⟨_, _, _, _, _, _, _, _, _, _, _, _, _, h, _⟩ <;> exact ⟨_, h⟩) (by omega) m_MO_openRound ml_MO_474 im_MO_openRound se_MO_openRound c_MO h80.2.2 (Nat.le_of_ble_eq_true rfl) d_MO_goRepeat_65 rfl ?_
  intro v G8 hq
  rcases hq with ⟨c29, t210, u211, WP212, WD213, WT214, WG215, WS216, RO217, T218, N219, W220, SN221, hv, hfk, hlk, hsk, hN80, hN128, hN129, hN130, hN131, hN132, hN133, hN118, hN119, hN120, hN117, hq22, hq23, hq24, hq25, hq26, hq27, hq28, hq29, hq30, hq31, hq32, hq33, hq34, hq35, hq36, hq37, hq38, hq39, hq40, hq41, hq42, hq43, hq44, hq45, hq46, hq47, hq48, hq49, hq50, hq51, hq52, hq53, hq54, hq55⟩
  cases hv
  have h94 := hfk.get h94 (by decide)
  have h95 := hfk.get h95 (by decide)
  have h96 := hfk.get h96 (by decide)
  have h97 := hfk.get h97 (by decide)
  have h98 := hfk.get h98 (by decide)
  have h99 := hfk.get h99 (by decide)
  have h100 := hfk.get h100 (by decide)
  have h101 := hfk.get h101 (by decide)
  have h90 := hfk.get h90 (by decide)
  have h89 := hfk.get h89 (by decide)
  have h91 := hfk.get h91 (by decide)
  have h92 := hfk.get h92 (by decide)
  have h121 := hfk.get h121 (by decide)
  have h122 := hfk.get h122 (by decide)
  have h123 := hfk.get h123 (by decide)
  have h124 := hfk.get h124 (by decide)
  have h125 := hfk.get h125 (by decide)
  have hfr := hfr.tr hfk (by decide)
  have hlen := hlk.trans hlen
  have hsl := hsk.trans hsl
  have h80 := hN80
  have h128 := hN128
  have h129 := hN129
  have h130 := hN130
  have h131 := hN131
  have h132 := hN132
  have h133 := hN133
  have h118 := hN118
  have h119 := hN119
  have h120 := hN120
  have h117 := hN117
  change ab_W _ _ _ G8 68 [some (vR 80), some (vz w), some (vz (WP w)), some (vz (WS w)), some (vz 1), some (vz 1)] [] _
  refine ab_vret rfl d_MO_goRepeat_68 ?_
  rw [hQ]; exact ⟨_, _, _, _, _, _, _, _, _, _, _, _, _, rfl, hfr, hlen, hsl, h80, h128, h129, h130, h131, h132, h133, h118, h119, h120, h117, (by first | exact hq22 | exact rgs_w hq22 (by omega)), (by first | exact hq23 | exact rgs_w hq23 (by omega)), (by first | exact hq24 | exact rgs_w hq24 (by omega)), (by first | exact hq25 | exact rgs_w hq25 (by omega)), (by first | exact hq26 | exact rgs_w hq26 (by omega)), (by assumption), (by assumption), (by assumption), (by assumption), (by assumption), (by assumption), (by assumption), (by assumption), (by assumption), (by assumption), (by assumption), (by assumption), (by assumption), (by assumption), (by first | exact hq41 | exact rgs_w hq41 (by omega)), (by first | exact hq42 | exact rgs_w hq42 (by omega)), (by first | exact hq43 | exact rgs_w hq43 (by omega)), (by first | exact hq44 | exact rgs_w hq44 (by omega)), (by first | exact hq45 | exact rgs_w hq45 (by omega)), (by omega), (by assumption), (by assumption), (by assumption), (by assumption), (by assumption), (by assumption), (by assumption), (by assumption), (by assumption)⟩
